/-! the reference reads a whole text -/
section
variable {b : Int32 → Nat → Prop} {tx : Nat → Int32} {tl : Nat}
theorem numC_str {p : Nat} {most : Int32} {g : Nat → Int32 → Prop} (hp : p ≤ tl) (h : numC tx tl p most b g) : numC tx tl p most b (fun q v => (p ≤ q ∧ q ≤ tl ∧ rng v.toInt64 0 most.toInt64 = true) ∧ g q v) := by
  have hs := sk_le (tx := tx) hp
  have hd := dn_le (tx := tx) hs.2
  unfold numC at h ⊢
  split at h
  · rename_i q1
    rw [if_pos q1]
    split at h
    · rename_i q2
      rw [if_pos q2]
      unfold okN at q2
      rw [Bool.and_eq_true] at q2
      exact ⟨⟨by omega, hd.2, q2.2⟩, h⟩
    · rename_i q2
      rw [if_neg q2]; exact h
  · rename_i q1
    rw [if_neg q1]; exact h
theorem signC_str {p : Nat} {sg : Int32} {g : Nat → Prop} (hp : p ≤ tl) (hg : ¬ sg = -1) (h : signC tx tl p sg b g) : signC tx tl p sg b (fun q => (p < q ∧ q ≤ tl) ∧ g q) := by
  have hs := sk_le (tx := tx) hp
  unfold signC at h ⊢
  split at h
  · rename_i q; rw [if_pos q]
    have := lt_lt q hg
    exact ⟨⟨by omega, by omega⟩, h⟩
  · rename_i q; rw [if_neg q]; exact h
end
def OF (K C N : Nat) (F : Mm) : Prop := (K ≤ 5 ∧ C ≤ 4 ∧ N ≤ 7) ∧ (∀ i, i < K → rng (F 67 i).toInt64 0 (999 : Int32).toInt64 = true ∧ rng (F 68 i).toInt64 0 (99 : Int32).toInt64 = true) ∧ (∀ i k, i < C → k < K → rng (F 70 (5 * i + k)).toInt64 0 (99 : Int32).toInt64 = true) ∧ ∀ i, i < N → inb (F 72 i) K = true
theorem inb_mono {x : Int32} {a b : Nat} (h : inb x a = true) (hab : a ≤ b) : inb x b = true := by
  rw [inb_iff] at h ⊢; omega
section
variable {b : Int32 → Nat → Prop} {tx : Nat → Int32} {tl : Nat}
theorem kindC_str {p K C N : Nat} {F : Mm} {g : Nat → Mm → Prop} (hp : p ≤ tl) (hF : OF K C N F) (hK : K < 5) (hC : C = 0) (h : kindC tx tl p K F b g) : kindC tx tl p K F b (fun q F' => (p ≤ q ∧ q ≤ tl ∧ OF (K + 1) C N F') ∧ g q F') := by
  refine numC_mono (fun _ _ h => h) (fun q v h => ?_) (numC_str hp h)
  obtain ⟨⟨q1, q2, q3⟩, h⟩ := h
  refine numC_mono (fun _ _ h => h) (fun r w h => ?_) (numC_str q2 h)
  obtain ⟨⟨r1, r2, r3⟩, h⟩ := h
  refine ⟨⟨by omega, r2, ⟨by omega, hF.1.2⟩, ?_, fun i k hi => by omega, fun i hi => inb_mono (hF.2.2.2 i hi) (by omega)⟩, h⟩
  intro i hi
  by_cases e : i = K
  · subst e
    refine ⟨?_, ?_⟩ <;> simp [up_at] <;> first | exact q3 | exact r3
  · have := hF.2.1 i (by omega)
    refine ⟨?_, ?_⟩ <;> simp [up_at, e] <;> first | exact this.1 | exact this.2
theorem thingC_str {p K C N : Nat} {F : Mm} {g : Nat → Mm → Prop} (hp : p ≤ tl) (hF : OF K C N F) (hN : N < 7) (h : thingC tx tl p K N F b g) : thingC tx tl p K N F b (fun q F' => (p ≤ q ∧ q ≤ tl ∧ OF K C (N + 1) F') ∧ g q F') := by
  have := hF.1
  refine numC_mono (fun _ _ h => h) (fun q v h => ?_) (numC_str hp h)
  obtain ⟨⟨q1, q2, q3⟩, h⟩ := h
  rw [rng_n (by omega)] at q3
  refine ⟨⟨q1, q2, ⟨by omega, by omega, by omega⟩, hF.2.1, hF.2.2.1, ?_⟩, h⟩
  intro i hi
  rw [up_at, if_pos rfl]
  by_cases e : i = N
  · rw [if_pos e]; exact q3
  · rw [if_neg e]; exact hF.2.2.2 i (by omega)
theorem lookC_str {p K C N : Nat} {F : Mm} {g : Nat → Mm → Prop} (hp : p ≤ tl) (hF : OF K C N F) (h : lookC tx tl p C F b g) : lookC tx tl p C F b (fun q F' => (p ≤ q ∧ q ≤ tl ∧ OF K C N F') ∧ g q F') := by
  refine numC_mono (fun _ _ h => h) (fun q v h => ?_) (numC_str hp h)
  obtain ⟨⟨q1, q2, q3⟩, h⟩ := h
  refine numC_mono (fun _ _ h => h) (fun r w h => ?_) (numC_str q2 h)
  obtain ⟨⟨r1, r2, r3⟩, h⟩ := h
  split at h
  · rename_i q; rw [if_pos q]; exact h
  · rename_i q; rw [if_neg q]
    split at h
    · rename_i q; rw [if_pos q]; exact h
    · rename_i q; rw [if_neg q]
      exact ⟨⟨by omega, r2, hF⟩, h⟩
theorem pricesC_str {K C N : Nat} {g : Nat → Mm → Prop} (hC : C < 4) : ∀ f k p F, k + f = K → p ≤ tl → OF K C N F → (∀ j, j < k → rng (F 70 (5 * C + j)).toInt64 0 (99 : Int32).toInt64 = true) → pricesC tx tl C b g f k p F → pricesC tx tl C b (fun q F' => (p ≤ q ∧ q ≤ tl ∧ OF K (C + 1) N F') ∧ g q F') f k p F
  | 0, k, p, F, hk, hp, hF, hr, h => by
    refine ⟨⟨Nat.le_refl _, hp, ⟨hF.1.1, by omega, hF.1.2.2⟩, hF.2.1, ?_, hF.2.2.2⟩, h⟩
    intro i j hi hj
    by_cases e : i = C
    · subst e; exact hr j (by omega)
    · exact hF.2.2.1 i j (by omega) hj
  | f + 1, k, p, F, hk, hp, hF, hr, h => by
    have hK := hF.1.1
    have num : ∀ p0, p ≤ p0 → p0 ≤ tl → numC tx tl p0 99 b (fun p w => pricesC tx tl C b g f (k + 1) p (up F 70 (5 * C + k) w)) → numC tx tl p0 99 b (fun p1 w => pricesC tx tl C b (fun q F' => (p ≤ q ∧ q ≤ tl ∧ OF K (C + 1) N F') ∧ g q F') f (k + 1) p1 (up F 70 (5 * C + k) w)) := by
      intro p0 hp0 hp1 h
      refine numC_mono (fun _ _ h => h) (fun q v h => ?_) (numC_str hp1 h)
      obtain ⟨⟨q1, q2, q3⟩, h⟩ := h
      refine pricesC_mono (fun _ _ h => h) (fun r F' h => ⟨⟨by omega, h.1.2⟩, h.2⟩) _ _ _ _ (pricesC_str hC f (k + 1) q _ (by omega) q2 ⟨hF.1, hF.2.1, ?_, hF.2.2.2⟩ ?_ h)
      · intro i j hi hj
        rw [up_at, if_pos rfl, if_neg (by omega)]
        exact hF.2.2.1 i j hi hj
      · intro j hj
        rw [up_at, if_pos rfl]
        by_cases e : 5 * C + j = 5 * C + k
        · rw [if_pos e]; exact q3
        · rw [if_neg e]; exact hr j (by omega)
    unfold pricesC at h ⊢
    split at h
    · rename_i q; rw [if_pos q]
      refine signC_mono (fun _ _ h => h) (fun q h => ?_) (signC_str hp (by decide) h)
      exact num q (by omega) h.1.2 h.2
    · rename_i q; rw [if_neg q]
      exact num p (Nat.le_refl _) hp h
theorem childC_str {p K C N : Nat} {F : Mm} {g : Nat → Mm → Prop} (hp : p ≤ tl) (hF : OF K C N F) (hC : C < 4) (h : childC tx tl p K C F b g) : childC tx tl p K C F b (fun q F' => (p ≤ q ∧ q ≤ tl ∧ OF K (C + 1) N F') ∧ g q F') := by
  refine numC_mono (fun _ _ h => h) (fun q v h => ?_) (numC_str hp h)
  obtain ⟨⟨q1, q2, q3⟩, h⟩ := h
  exact pricesC_mono (fun _ _ h => h) (fun r F' h => ⟨⟨by omega, h.1.2⟩, h.2⟩) _ _ _ _ (pricesC_str hC K 0 q (up (up F 71 C 0) 69 C v) (by omega) q2 hF (fun j hj => absurd hj (Nat.not_lt_zero _)) h)
theorem clauseC_str {p K C N : Nat} {F : Mm} {g : Nat → Nat → Nat → Nat → Mm → Prop} (hp : p ≤ tl) (hF : OF K C N F) (h : clauseC tx tl p K C N F b g) : clauseC tx tl p K C N F b (fun q K C N F => (p < q ∧ q ≤ tl ∧ OF K C N F) ∧ g q K C N F) := by
  have hs := sk_le (tx := tx) hp
  have hb := hF.1
  unfold clauseC at h ⊢
  split at h
  · rename_i x; rw [if_pos x]
    have hl := lt_lt x (by decide)
    split at h
    · rename_i y; rw [if_pos y]; exact h
    · rename_i y; rw [if_neg y]
      refine kindC_mono (fun _ _ h => h) (fun q F' h => ?_) (kindC_str (show sk tx tl p + 1 ≤ tl from hl) hF (by omega) (by omega) h)
      exact signC_mono (fun _ _ h => h) (fun r h' => ⟨⟨by omega, h'.1.2, h.1.2.2⟩, h'.2⟩) (signC_str h.1.2.1 (by decide) h.2)
  · rename_i x; rw [if_neg x]
    split at h
    · rename_i x; rw [if_pos x]
      have hl := lt_lt x (by decide)
      split at h
      · rename_i y; rw [if_pos y]; exact h
      · rename_i y; rw [if_neg y]
        refine childC_mono (fun _ _ h => h) (fun q F' h => ?_) (childC_str (show sk tx tl p + 1 ≤ tl from hl) hF (by omega) h)
        exact signC_mono (fun _ _ h => h) (fun r h' => ⟨⟨by omega, h'.1.2, h.1.2.2⟩, h'.2⟩) (signC_str h.1.2.1 (by decide) h.2)
    · rename_i x; rw [if_neg x]
      split at h
      · rename_i x; rw [if_pos x]
        have hl := lt_lt x (by decide)
        refine lookC_mono (fun _ _ h => h) (fun q F' h => ?_) (lookC_str (show sk tx tl p + 1 ≤ tl from hl) hF h)
        exact signC_mono (fun _ _ h => h) (fun r h' => ⟨⟨by omega, h'.1.2, h.1.2.2⟩, h'.2⟩) (signC_str h.1.2.1 (by decide) h.2)
      · rename_i x; rw [if_neg x]
        split at h
        · rename_i x; rw [if_pos x]
          have hl := lt_lt x (by decide)
          split at h
          · rename_i y; rw [if_pos y]; exact h
          · rename_i y; rw [if_neg y]
            refine thingC_mono (fun _ _ h => h) (fun q F' h => ?_) (thingC_str (show sk tx tl p + 1 ≤ tl from hl) hF (by omega) h)
            exact signC_mono (fun _ _ h => h) (fun r h' => ⟨⟨by omega, h'.1.2, h.1.2.2⟩, h'.2⟩) (signC_str h.1.2.1 (by decide) h.2)
        · rename_i x; rw [if_neg x]; exact h
end
