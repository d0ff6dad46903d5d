/-! the rows hold of the bytes and the tables: decided by the kernel -/
noncomputable def okm (y : Nat) : Bool := (List.range (bd y)).all (fun pc => match fetch y pc with | some op => chkb y pc op | none => true)
set_option maxRecDepth 100000 in
set_option maxHeartbeats 0 in
theorem okc_0 : (List.range' 0 1).all okm = true := by decide +kernel
set_option maxRecDepth 100000 in
set_option maxHeartbeats 0 in
theorem okc_1 : (List.range' 1 18).all okm = true := by decide +kernel
set_option maxRecDepth 100000 in
set_option maxHeartbeats 0 in
theorem okc_2 : (List.range' 19 19).all okm = true := by decide +kernel
set_option maxRecDepth 100000 in
set_option maxHeartbeats 0 in
theorem okc_3 : (List.range' 38 25).all okm = true := by decide +kernel
set_option maxRecDepth 100000 in
set_option maxHeartbeats 0 in
theorem okc_4 : (List.range' 63 16).all okm = true := by decide +kernel
set_option maxRecDepth 100000 in
set_option maxHeartbeats 0 in
theorem okc_5 : (List.range' 79 11).all okm = true := by decide +kernel
set_option maxRecDepth 100000 in
set_option maxHeartbeats 0 in
theorem okc_6 : (List.range' 90 16).all okm = true := by decide +kernel
set_option maxRecDepth 100000 in
set_option maxHeartbeats 0 in
theorem okc_7 : (List.range' 106 12).all okm = true := by decide +kernel
set_option maxRecDepth 100000 in
set_option maxHeartbeats 0 in
theorem okc_8 : (List.range' 118 11).all okm = true := by decide +kernel
set_option maxRecDepth 100000 in
set_option maxHeartbeats 0 in
theorem okc_9 : (List.range' 129 13).all okm = true := by decide +kernel
set_option maxRecDepth 100000 in
set_option maxHeartbeats 0 in
theorem okc_10 : (List.range' 142 13).all okm = true := by decide +kernel
set_option maxRecDepth 100000 in
set_option maxHeartbeats 0 in
theorem okc_11 : (List.range' 155 5).all okm = true := by decide +kernel
set_option maxRecDepth 100000 in
set_option maxHeartbeats 0 in
theorem okc_12 : (List.range' 160 14).all okm = true := by decide +kernel
set_option maxRecDepth 100000 in
set_option maxHeartbeats 0 in
theorem okc_13 : (List.range' 174 13).all okm = true := by decide +kernel
set_option maxRecDepth 100000 in
set_option maxHeartbeats 0 in
theorem okc_14 : (List.range' 187 10).all okm = true := by decide +kernel
set_option maxRecDepth 100000 in
set_option maxHeartbeats 0 in
theorem okc_15 : (List.range' 197 8).all okm = true := by decide +kernel
set_option maxRecDepth 100000 in
set_option maxHeartbeats 0 in
theorem okc_16 : (List.range' 205 8).all okm = true := by decide +kernel
set_option maxRecDepth 100000 in
set_option maxHeartbeats 0 in
theorem okc_17 : (List.range' 213 11).all okm = true := by decide +kernel
set_option maxRecDepth 100000 in
set_option maxHeartbeats 0 in
theorem okz : (List.range' 1 223).all mOKb = true := by decide +kernel
set_option maxRecDepth 100000 in
theorem okbd : ∀ y, 224 ≤ y → fetch y = fun _ => none := by
  intro y h
  funext pc
  unfold fetch
  rw [show Nat.blt y 224 = false from by cases hb : Nat.blt y 224 with | false => rfl | true => exact absurd (Nat.le_of_ble_eq_true hb) (by omega)]
  rfl
theorem okm_all {y : Nat} (h : y < 224) : okm y = true := by
  by_cases h0 : y < 1
  · exact List.all_eq_true.mp okc_0 y (List.mem_range'_1.mpr ⟨by omega, by omega⟩)
  by_cases h1 : y < 19
  · exact List.all_eq_true.mp okc_1 y (List.mem_range'_1.mpr ⟨by omega, by omega⟩)
  by_cases h2 : y < 38
  · exact List.all_eq_true.mp okc_2 y (List.mem_range'_1.mpr ⟨by omega, by omega⟩)
  by_cases h3 : y < 63
  · exact List.all_eq_true.mp okc_3 y (List.mem_range'_1.mpr ⟨by omega, by omega⟩)
  by_cases h4 : y < 79
  · exact List.all_eq_true.mp okc_4 y (List.mem_range'_1.mpr ⟨by omega, by omega⟩)
  by_cases h5 : y < 90
  · exact List.all_eq_true.mp okc_5 y (List.mem_range'_1.mpr ⟨by omega, by omega⟩)
  by_cases h6 : y < 106
  · exact List.all_eq_true.mp okc_6 y (List.mem_range'_1.mpr ⟨by omega, by omega⟩)
  by_cases h7 : y < 118
  · exact List.all_eq_true.mp okc_7 y (List.mem_range'_1.mpr ⟨by omega, by omega⟩)
  by_cases h8 : y < 129
  · exact List.all_eq_true.mp okc_8 y (List.mem_range'_1.mpr ⟨by omega, by omega⟩)
  by_cases h9 : y < 142
  · exact List.all_eq_true.mp okc_9 y (List.mem_range'_1.mpr ⟨by omega, by omega⟩)
  by_cases h10 : y < 155
  · exact List.all_eq_true.mp okc_10 y (List.mem_range'_1.mpr ⟨by omega, by omega⟩)
  by_cases h11 : y < 160
  · exact List.all_eq_true.mp okc_11 y (List.mem_range'_1.mpr ⟨by omega, by omega⟩)
  by_cases h12 : y < 174
  · exact List.all_eq_true.mp okc_12 y (List.mem_range'_1.mpr ⟨by omega, by omega⟩)
  by_cases h13 : y < 187
  · exact List.all_eq_true.mp okc_13 y (List.mem_range'_1.mpr ⟨by omega, by omega⟩)
  by_cases h14 : y < 197
  · exact List.all_eq_true.mp okc_14 y (List.mem_range'_1.mpr ⟨by omega, by omega⟩)
  by_cases h15 : y < 205
  · exact List.all_eq_true.mp okc_15 y (List.mem_range'_1.mpr ⟨by omega, by omega⟩)
  by_cases h16 : y < 213
  · exact List.all_eq_true.mp okc_16 y (List.mem_range'_1.mpr ⟨by omega, by omega⟩)
  exact List.all_eq_true.mp okc_17 y (List.mem_range'_1.mpr ⟨by omega, by omega⟩)
theorem chk_all {y pc : Nat} {op : Ap} (h : fetch y pc = some op) : chkb y pc op = true := by
  by_cases hy : y < 224
  · by_cases hp : pc < bd y
    · have h1 := List.all_eq_true.mp (okm_all hy) pc (List.mem_range.mpr hp)
      rw [h] at h1
      exact h1
    · exfalso
      unfold fetch at h
      rw [show Nat.blt pc (bd y) = false from by cases hb : Nat.blt pc (bd y) with | false => rfl | true => exact absurd (Nat.le_of_ble_eq_true hb) (by omega)] at h
      cases hb : Nat.blt y 224 with
      | false => rw [hb] at h; cases h
      | true => rw [hb] at h; cases h
  · rw [okbd y (by omega)] at h; cases h
theorem mok_all {z : Nat} (h : z < 224) (h0 : ¬ z = 0) : mOKb z = true := List.all_eq_true.mp okz z (List.mem_range'_1.mpr ⟨by omega, by omega⟩)
