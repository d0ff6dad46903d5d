/-! loops and numbers -/
/-- n times -/
def lp {α : Type} (f : Nat → α → α) : Nat → α → α
  | 0, a => a
  | n + 1, a => f n (lp f n a)
theorem lp_s {α : Type} (f : Nat → α → α) (n : Nat) (a : α) : lp f (n + 1) a = f n (lp f n a) := rfl
theorem lp_0 {α : Type} (f : Nat → α → α) (a : α) : lp f 0 a = a := rfl
theorem lp_congr {α : Type} {f g : Nat → α → α} {n : Nat} (h : ∀ k, k < n → ∀ a, f k a = g k a) (a : α) : lp f n a = lp g n a := by
  induction n with
  | zero => rfl
  | succ n ih => rw [lp_s, lp_s, ih (fun k hk => h k (by omega)), h n (by omega)]
theorem lt_irr (x : Int32) : ¬ x < x := fun h => by have := Int32.lt_iff_toInt_lt.mp h; omega
theorem up_at (M : Mm) (o k : Nat) (x : Int32) (a j : Nat) : up M o k x a j = if a = o then (if j = k then x else M o j) else M a j := by
  unfold up upd; split <;> rfl
theorem fa_lt (a b : Int32) : a < b ↔ a.toInt < b.toInt := Int32.lt_iff_toInt_lt
theorem fa_le (a b : Int32) : a ≤ b ↔ a.toInt ≤ b.toInt := Int32.le_iff_toInt_le
theorem fa_eq (a b : Int32) : a = b ↔ a.toInt = b.toInt := ⟨fun h => by rw [h], Int32.toInt_inj.mp⟩
theorem cmp_lt (a b : Int64) : lg_cmp a b < 0 ↔ a < b := by
  unfold lg_cmp
  by_cases h1 : a > b
  · rw [if_pos h1]
    have := Int64.lt_iff_toInt_lt.mp h1
    exact ⟨fun h => absurd h (by decide), fun h => by have := Int64.lt_iff_toInt_lt.mp h; omega⟩
  · rw [if_neg h1]
    by_cases h2 : a = b
    · rw [if_pos h2, h2]
      exact ⟨fun h => absurd h (by decide), fun h => by have := Int64.lt_iff_toInt_lt.mp h; omega⟩
    · rw [if_neg h2]
      have h3 : ¬ a.toInt = b.toInt := fun h => h2 (Int64.toInt_inj.mp h)
      have h4 : ¬ b.toInt < a.toInt := fun h => h1 (Int64.lt_iff_toInt_lt.mpr h)
      exact ⟨fun _ => Int64.lt_iff_toInt_lt.mpr (by omega), fun _ => by decide⟩
theorem cmp_gt (a b : Int64) : 0 < lg_cmp a b ↔ b < a := by
  unfold lg_cmp
  by_cases h1 : a > b
  · rw [if_pos h1]
    exact ⟨fun _ => h1, fun _ => by decide⟩
  · rw [if_neg h1]
    refine ⟨fun h => ?_, fun h => absurd h h1⟩
    by_cases h2 : a = b
    · rw [if_pos h2] at h; exact absurd h (by decide)
    · rw [if_neg h2] at h; exact absurd h (by decide)
theorem wide_lt (a b : Int32) : a.toInt64 < b.toInt64 ↔ a < b := by
  rw [Int64.lt_iff_toInt_lt, Int32.lt_iff_toInt_lt, Int32.toInt_toInt64, Int32.toInt_toInt64]
theorem WP.isb {y pc : Nat} {L st : List Value} {sh sh' : List Sh} {n : Nat × Nat} {M M' : Mm} {Q : Po} {b : Bool} (h : ∀ Q : Po, (if b then Q (some (.int 1)) sh' M' else Q (some (.int 0)) sh' M') → WP y pc L st sh n M Q) : WP y pc L st sh n M Q = if b then Q (some (.int 1)) sh' M' else Q (some (.int 0)) sh' M' := by
  cases b
  · exact WP.is (fun Q hQ => h Q hQ)
  · exact WP.is (fun Q hQ => h Q hQ)
theorem tf (p : Prop) : p = True ∨ p = False := by
  by_cases h : p
  · exact Or.inl (eq_true h)
  · exact Or.inr (eq_false h)
