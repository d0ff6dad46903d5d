/-! all orders lie nines apart: by the kernel -/
def fiN (k : Nat) : Nat := lp (fun c s => s * 10 + c + 1) k 0
def laN (C k : Nat) : Nat := lp (fun c s => s * 10 + C - c) k 0
def orT (C : Nat) : Bool := (List.range 4340).all (fun k => !(tOK C (nI k)) || (decide (fiN C ≤ k) && (decide (k ≤ laN C C) && decide ((k - fiN C) % 9 = 0))))
set_option maxRecDepth 100000 in
set_option maxHeartbeats 0 in
theorem orT_1 : orT 1 = true := by decide +kernel
set_option maxRecDepth 100000 in
set_option maxHeartbeats 0 in
theorem orT_2 : orT 2 = true := by decide +kernel
set_option maxRecDepth 100000 in
set_option maxHeartbeats 0 in
theorem orT_3 : orT 3 = true := by decide +kernel
set_option maxRecDepth 100000 in
set_option maxHeartbeats 0 in
theorem orT_4 : orT 4 = true := by decide +kernel
theorem or_in {C k : Nat} (h0 : 0 < C) (h4 : C ≤ 4) (hk : k < 4340) (h : tOK C (nI k) = true) : fiN C ≤ k ∧ k ≤ laN C C ∧ (k - fiN C) % 9 = 0 := by
  have key : orT C = true := by
    have : C = 1 ∨ C = 2 ∨ C = 3 ∨ C = 4 := by omega
    rcases this with rfl | rfl | rfl | rfl
    · exact orT_1
    · exact orT_2
    · exact orT_3
    · exact orT_4
  have := List.all_eq_true.mp key k (List.mem_range.mpr hk)
  rw [h] at this
  simpa using this
theorem or_fl : ∀ C, C < 5 → fiN C ≤ laN C C ∧ laN C C ≤ 4321 ∧ (laN C C - fiN C) % 9 = 0 := by decide +kernel
theorem or_fi : ∀ C, C < 5 → 0 < C → tOK C (nI (fiN C)) = true := by decide +kernel
