/-! the rows hold of the bytes and the tables: decided by the kernel -/
noncomputable def okp (y pc : Nat) : Bool := match fetch y pc with | some op => chkb y pc op | none => true
noncomputable def okm (y : Nat) : Bool := (List.range (bd y)).all (okp y)
set_option maxRecDepth 100000 in
set_option maxHeartbeats 0 in
theorem okl_0 : (List.range' 0 60).all (okp 0) = true := by decide +kernel
set_option maxRecDepth 100000 in
set_option maxHeartbeats 0 in
theorem okl_1 : (List.range' 60 60).all (okp 0) = true := by decide +kernel
set_option maxRecDepth 100000 in
set_option maxHeartbeats 0 in
theorem okl_2 : (List.range' 120 60).all (okp 0) = true := by decide +kernel
set_option maxRecDepth 100000 in
set_option maxHeartbeats 0 in
theorem okl_3 : (List.range' 180 60).all (okp 0) = true := by decide +kernel
set_option maxRecDepth 100000 in
set_option maxHeartbeats 0 in
theorem okl_4 : (List.range' 240 60).all (okp 0) = true := by decide +kernel
set_option maxRecDepth 100000 in
set_option maxHeartbeats 0 in
theorem okl_5 : (List.range' 300 60).all (okp 0) = true := by decide +kernel
set_option maxRecDepth 100000 in
set_option maxHeartbeats 0 in
theorem okl_6 : (List.range' 360 60).all (okp 0) = true := by decide +kernel
set_option maxRecDepth 100000 in
set_option maxHeartbeats 0 in
theorem okl_7 : (List.range' 420 60).all (okp 0) = true := by decide +kernel
set_option maxRecDepth 100000 in
set_option maxHeartbeats 0 in
theorem okl_8 : (List.range' 480 60).all (okp 0) = true := by decide +kernel
set_option maxRecDepth 100000 in
set_option maxHeartbeats 0 in
theorem okl_9 : (List.range' 540 60).all (okp 0) = true := by decide +kernel
set_option maxRecDepth 100000 in
set_option maxHeartbeats 0 in
theorem okl_10 : (List.range' 600 60).all (okp 0) = true := by decide +kernel
set_option maxRecDepth 100000 in
set_option maxHeartbeats 0 in
theorem okl_11 : (List.range' 660 60).all (okp 0) = true := by decide +kernel
set_option maxRecDepth 100000 in
set_option maxHeartbeats 0 in
theorem okl_12 : (List.range' 720 60).all (okp 0) = true := by decide +kernel
set_option maxRecDepth 100000 in
set_option maxHeartbeats 0 in
theorem okl_13 : (List.range' 780 60).all (okp 0) = true := by decide +kernel
set_option maxRecDepth 100000 in
set_option maxHeartbeats 0 in
theorem okl_14 : (List.range' 840 60).all (okp 0) = true := by decide +kernel
set_option maxRecDepth 100000 in
set_option maxHeartbeats 0 in
theorem okl_15 : (List.range' 900 60).all (okp 0) = true := by decide +kernel
set_option maxRecDepth 100000 in
set_option maxHeartbeats 0 in
theorem okl_16 : (List.range' 960 60).all (okp 0) = true := by decide +kernel
set_option maxRecDepth 100000 in
set_option maxHeartbeats 0 in
theorem okl_17 : (List.range' 1020 20).all (okp 0) = true := by decide +kernel
theorem okl {pc : Nat} (h : pc < 1040) : okp 0 pc = true := by
  by_cases h0 : pc < 60
  · exact List.all_eq_true.mp okl_0 pc (List.mem_range'_1.mpr ⟨by omega, by omega⟩)
  by_cases h1 : pc < 120
  · exact List.all_eq_true.mp okl_1 pc (List.mem_range'_1.mpr ⟨by omega, by omega⟩)
  by_cases h2 : pc < 180
  · exact List.all_eq_true.mp okl_2 pc (List.mem_range'_1.mpr ⟨by omega, by omega⟩)
  by_cases h3 : pc < 240
  · exact List.all_eq_true.mp okl_3 pc (List.mem_range'_1.mpr ⟨by omega, by omega⟩)
  by_cases h4 : pc < 300
  · exact List.all_eq_true.mp okl_4 pc (List.mem_range'_1.mpr ⟨by omega, by omega⟩)
  by_cases h5 : pc < 360
  · exact List.all_eq_true.mp okl_5 pc (List.mem_range'_1.mpr ⟨by omega, by omega⟩)
  by_cases h6 : pc < 420
  · exact List.all_eq_true.mp okl_6 pc (List.mem_range'_1.mpr ⟨by omega, by omega⟩)
  by_cases h7 : pc < 480
  · exact List.all_eq_true.mp okl_7 pc (List.mem_range'_1.mpr ⟨by omega, by omega⟩)
  by_cases h8 : pc < 540
  · exact List.all_eq_true.mp okl_8 pc (List.mem_range'_1.mpr ⟨by omega, by omega⟩)
  by_cases h9 : pc < 600
  · exact List.all_eq_true.mp okl_9 pc (List.mem_range'_1.mpr ⟨by omega, by omega⟩)
  by_cases h10 : pc < 660
  · exact List.all_eq_true.mp okl_10 pc (List.mem_range'_1.mpr ⟨by omega, by omega⟩)
  by_cases h11 : pc < 720
  · exact List.all_eq_true.mp okl_11 pc (List.mem_range'_1.mpr ⟨by omega, by omega⟩)
  by_cases h12 : pc < 780
  · exact List.all_eq_true.mp okl_12 pc (List.mem_range'_1.mpr ⟨by omega, by omega⟩)
  by_cases h13 : pc < 840
  · exact List.all_eq_true.mp okl_13 pc (List.mem_range'_1.mpr ⟨by omega, by omega⟩)
  by_cases h14 : pc < 900
  · exact List.all_eq_true.mp okl_14 pc (List.mem_range'_1.mpr ⟨by omega, by omega⟩)
  by_cases h15 : pc < 960
  · exact List.all_eq_true.mp okl_15 pc (List.mem_range'_1.mpr ⟨by omega, by omega⟩)
  by_cases h16 : pc < 1020
  · exact List.all_eq_true.mp okl_16 pc (List.mem_range'_1.mpr ⟨by omega, by omega⟩)
  exact List.all_eq_true.mp okl_17 pc (List.mem_range'_1.mpr ⟨by omega, by omega⟩)
set_option maxRecDepth 100000 in
set_option maxHeartbeats 0 in
theorem okc_0 : (List.range' 1 18).all okm = true := by decide +kernel
set_option maxRecDepth 100000 in
set_option maxHeartbeats 0 in
theorem okc_1 : (List.range' 19 19).all okm = true := by decide +kernel
set_option maxRecDepth 100000 in
set_option maxHeartbeats 0 in
theorem okc_2 : (List.range' 38 25).all okm = true := by decide +kernel
set_option maxRecDepth 100000 in
set_option maxHeartbeats 0 in
theorem okc_3 : (List.range' 63 16).all okm = true := by decide +kernel
set_option maxRecDepth 100000 in
set_option maxHeartbeats 0 in
theorem okc_4 : (List.range' 79 11).all okm = true := by decide +kernel
set_option maxRecDepth 100000 in
set_option maxHeartbeats 0 in
theorem okc_5 : (List.range' 90 16).all okm = true := by decide +kernel
set_option maxRecDepth 100000 in
set_option maxHeartbeats 0 in
theorem okc_6 : (List.range' 106 12).all okm = true := by decide +kernel
set_option maxRecDepth 100000 in
set_option maxHeartbeats 0 in
theorem okc_7 : (List.range' 118 11).all okm = true := by decide +kernel
set_option maxRecDepth 100000 in
set_option maxHeartbeats 0 in
theorem okc_8 : (List.range' 129 13).all okm = true := by decide +kernel
set_option maxRecDepth 100000 in
set_option maxHeartbeats 0 in
theorem okc_9 : (List.range' 142 13).all okm = true := by decide +kernel
set_option maxRecDepth 100000 in
set_option maxHeartbeats 0 in
theorem okc_10 : (List.range' 155 5).all okm = true := by decide +kernel
set_option maxRecDepth 100000 in
set_option maxHeartbeats 0 in
theorem okc_11 : (List.range' 160 14).all okm = true := by decide +kernel
set_option maxRecDepth 100000 in
set_option maxHeartbeats 0 in
theorem okc_12 : (List.range' 174 13).all okm = true := by decide +kernel
set_option maxRecDepth 100000 in
set_option maxHeartbeats 0 in
theorem okc_13 : (List.range' 187 10).all okm = true := by decide +kernel
set_option maxRecDepth 100000 in
set_option maxHeartbeats 0 in
theorem okc_14 : (List.range' 197 8).all okm = true := by decide +kernel
set_option maxRecDepth 100000 in
set_option maxHeartbeats 0 in
theorem okc_15 : (List.range' 205 8).all okm = true := by decide +kernel
set_option maxRecDepth 100000 in
set_option maxHeartbeats 0 in
theorem okc_16 : (List.range' 213 9).all okm = true := by decide +kernel
set_option maxRecDepth 100000 in
set_option maxHeartbeats 0 in
theorem okz_0 : (List.range' 1 60).all mOKb = true := by decide +kernel
set_option maxRecDepth 100000 in
set_option maxHeartbeats 0 in
theorem okz_1 : (List.range' 61 60).all mOKb = true := by decide +kernel
set_option maxRecDepth 100000 in
set_option maxHeartbeats 0 in
theorem okz_2 : (List.range' 121 60).all mOKb = true := by decide +kernel
set_option maxRecDepth 100000 in
set_option maxHeartbeats 0 in
theorem okz_3 : (List.range' 181 41).all mOKb = true := by decide +kernel
theorem okbd : ∀ y, 222 ≤ y → fetch y = fun _ => none := by
  intro y h
  funext pc
  unfold fetch
  rw [show Nat.blt y 222 = false from by cases hb : Nat.blt y 222 with | false => rfl | true => exact absurd (Nat.le_of_ble_eq_true hb) (by omega)]
  rfl
theorem okm_all {y pc : Nat} (h : y < 222) (hp : pc < bd y) : okp y pc = true := by
  by_cases h0 : y = 0
  · subst h0; exact okl hp
  by_cases h1 : y < 19
  · exact List.all_eq_true.mp (List.all_eq_true.mp okc_0 y (List.mem_range'_1.mpr ⟨by omega, by omega⟩)) pc (List.mem_range.mpr hp)
  by_cases h2 : y < 38
  · exact List.all_eq_true.mp (List.all_eq_true.mp okc_1 y (List.mem_range'_1.mpr ⟨by omega, by omega⟩)) pc (List.mem_range.mpr hp)
  by_cases h3 : y < 63
  · exact List.all_eq_true.mp (List.all_eq_true.mp okc_2 y (List.mem_range'_1.mpr ⟨by omega, by omega⟩)) pc (List.mem_range.mpr hp)
  by_cases h4 : y < 79
  · exact List.all_eq_true.mp (List.all_eq_true.mp okc_3 y (List.mem_range'_1.mpr ⟨by omega, by omega⟩)) pc (List.mem_range.mpr hp)
  by_cases h5 : y < 90
  · exact List.all_eq_true.mp (List.all_eq_true.mp okc_4 y (List.mem_range'_1.mpr ⟨by omega, by omega⟩)) pc (List.mem_range.mpr hp)
  by_cases h6 : y < 106
  · exact List.all_eq_true.mp (List.all_eq_true.mp okc_5 y (List.mem_range'_1.mpr ⟨by omega, by omega⟩)) pc (List.mem_range.mpr hp)
  by_cases h7 : y < 118
  · exact List.all_eq_true.mp (List.all_eq_true.mp okc_6 y (List.mem_range'_1.mpr ⟨by omega, by omega⟩)) pc (List.mem_range.mpr hp)
  by_cases h8 : y < 129
  · exact List.all_eq_true.mp (List.all_eq_true.mp okc_7 y (List.mem_range'_1.mpr ⟨by omega, by omega⟩)) pc (List.mem_range.mpr hp)
  by_cases h9 : y < 142
  · exact List.all_eq_true.mp (List.all_eq_true.mp okc_8 y (List.mem_range'_1.mpr ⟨by omega, by omega⟩)) pc (List.mem_range.mpr hp)
  by_cases h10 : y < 155
  · exact List.all_eq_true.mp (List.all_eq_true.mp okc_9 y (List.mem_range'_1.mpr ⟨by omega, by omega⟩)) pc (List.mem_range.mpr hp)
  by_cases h11 : y < 160
  · exact List.all_eq_true.mp (List.all_eq_true.mp okc_10 y (List.mem_range'_1.mpr ⟨by omega, by omega⟩)) pc (List.mem_range.mpr hp)
  by_cases h12 : y < 174
  · exact List.all_eq_true.mp (List.all_eq_true.mp okc_11 y (List.mem_range'_1.mpr ⟨by omega, by omega⟩)) pc (List.mem_range.mpr hp)
  by_cases h13 : y < 187
  · exact List.all_eq_true.mp (List.all_eq_true.mp okc_12 y (List.mem_range'_1.mpr ⟨by omega, by omega⟩)) pc (List.mem_range.mpr hp)
  by_cases h14 : y < 197
  · exact List.all_eq_true.mp (List.all_eq_true.mp okc_13 y (List.mem_range'_1.mpr ⟨by omega, by omega⟩)) pc (List.mem_range.mpr hp)
  by_cases h15 : y < 205
  · exact List.all_eq_true.mp (List.all_eq_true.mp okc_14 y (List.mem_range'_1.mpr ⟨by omega, by omega⟩)) pc (List.mem_range.mpr hp)
  by_cases h16 : y < 213
  · exact List.all_eq_true.mp (List.all_eq_true.mp okc_15 y (List.mem_range'_1.mpr ⟨by omega, by omega⟩)) pc (List.mem_range.mpr hp)
  exact List.all_eq_true.mp (List.all_eq_true.mp okc_16 y (List.mem_range'_1.mpr ⟨by omega, by omega⟩)) pc (List.mem_range.mpr hp)
theorem chk_all {y pc : Nat} {op : Ap} (h : fetch y pc = some op) : chkb y pc op = true := by
  by_cases hy : y < 222
  · by_cases hp : pc < bd y
    · have h1 := okm_all hy hp
      unfold okp at h1
      rw [h] at h1
      exact h1
    · exfalso
      unfold fetch at h
      rw [show Nat.blt pc (bd y) = false from by cases hb : Nat.blt pc (bd y) with | false => rfl | true => exact absurd (Nat.le_of_ble_eq_true hb) (by omega)] at h
      cases hb : Nat.blt y 222 with
      | false => rw [hb] at h; cases h
      | true => rw [hb] at h; cases h
  · rw [okbd y (by omega)] at h; cases h
theorem mok_all {z : Nat} (h : z < NMs) (h0 : ¬ z = 0) : mOKb z = true := by
  have h : z < 222 := h
  by_cases h1 : z < 61
  · exact List.all_eq_true.mp okz_0 z (List.mem_range'_1.mpr ⟨by omega, by omega⟩)
  by_cases h2 : z < 121
  · exact List.all_eq_true.mp okz_1 z (List.mem_range'_1.mpr ⟨by omega, by omega⟩)
  by_cases h3 : z < 181
  · exact List.all_eq_true.mp okz_2 z (List.mem_range'_1.mpr ⟨by omega, by omega⟩)
  exact List.all_eq_true.mp okz_3 z (List.mem_range'_1.mpr ⟨by omega, by omega⟩)
