/-! the reference reads a whole text -/
section
variable {b : Int32 → Nat → Prop} {tx : Nat → Int32} {tl : Nat}
theorem numC_str {p : Nat} {most : Int32} {g : Nat → Int32 → Prop} (hp : p ≤ tl) (h : numC tx tl p most b g) : numC tx tl p most b (fun q v => (p ≤ q ∧ q ≤ tl ∧ rng v.toInt64 0 most.toInt64 = true) ∧ g q v) := by
  have hs := sk_le (tx := tx) hp
  have hd := dn_le (tx := tx) hs.2
  unfold numC at h ⊢
  split at h
  · rename_i q1
    rw [if_pos q1]
    split at h
    · rename_i q2
      rw [if_pos q2]
      unfold okN at q2
      rw [Bool.and_eq_true] at q2
      exact ⟨⟨by omega, hd.2, q2.2⟩, h⟩
    · rename_i q2
      rw [if_neg q2]; exact h
  · rename_i q1
    rw [if_neg q1]; exact h
theorem signC_str {p : Nat} {sg : Int32} {g : Nat → Prop} (hp : p ≤ tl) (hg : ¬ sg = -1) (h : signC tx tl p sg b g) : signC tx tl p sg b (fun q => (p < q ∧ q ≤ tl) ∧ g q) := by
  have hs := sk_le (tx := tx) hp
  unfold signC at h ⊢
  split at h
  · rename_i q; rw [if_pos q]
    have := lt_lt q hg
    exact ⟨⟨by omega, by omega⟩, h⟩
  · rename_i q; rw [if_neg q]; exact h
end
