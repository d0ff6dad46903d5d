/-! bits of a number; how many -/
def gb (x : Int32) (i : Nat) : Bool := x.toBitVec.getLsbD i
theorem gb_ext {x y : Int32} (h : ∀ i, i < 32 → gb x i = gb y i) : x = y := Int32.toBitVec_inj.mp (BitVec.eq_of_getLsbD_eq (fun i hi => h i hi))
theorem gb_or (x y : Int32) (i : Nat) : gb (x ||| y) i = (gb x i || gb y i) := by unfold gb; rw [Int32.toBitVec_or, BitVec.getLsbD_or]
theorem gb_and (x y : Int32) (i : Nat) : gb (x &&& y) i = (gb x i && gb y i) := by unfold gb; rw [Int32.toBitVec_and, BitVec.getLsbD_and]
theorem gb_0 (i : Nat) : gb 0 i = false := BitVec.getLsbD_zero
theorem s_l : ∀ n, n < 32 → ((nI n &&& 31).toBitVec.smod 32).toNat = n := by decide +kernel
theorem gb_shl (n : Nat) (hn : n < 32) (x : Int32) {i : Nat} (hi : i < 32) : gb (x <<< (nI n &&& 31)) i = (decide (n ≤ i) && gb x (i - n)) := by
  unfold gb
  rw [Int32.toBitVec_shiftLeft]
  show (x.toBitVec <<< ((nI n &&& 31).toBitVec.smod 32).toNat).getLsbD i = _
  rw [s_l n hn, BitVec.getLsbD_shiftLeft]
  rcases Nat.lt_or_ge i n with h | h
  · simp [h, Nat.not_le.mpr h]
  · simp [hi, h, Nat.not_lt.mpr h]
theorem gb_sshr (n : Nat) (hn : n < 32) (x : Int32) {i : Nat} (hi : i < 32) : gb (x >>> (nI n &&& 31)) i = if n + i < 32 then gb x (n + i) else gb x 31 := by
  unfold gb
  rw [Int32.toBitVec_shiftRight]
  show (x.toBitVec.sshiftRight ((nI n &&& 31).toBitVec.smod 32).toNat).getLsbD i = _
  rw [s_l n hn, BitVec.getLsbD_sshiftRight, BitVec.msb_eq_getLsbD_last]
  simp [hi]
theorem gb_1 : ∀ i, i < 32 → gb 1 i = decide (i = 0) := by decide +kernel
theorem gb_and1 (y : Int32) : y &&& 1 = if gb y 0 then 1 else 0 := by
  apply gb_ext
  intro i hi
  rw [gb_and, gb_1 i hi]
  by_cases q : i = 0
  · subst q
    cases e : gb y 0
    · rw [if_neg (by decide), gb_0]; rfl
    · rw [if_pos rfl, gb_1 0 (by decide)]; rfl
  · cases e : gb y 0
    · rw [if_neg (by decide), gb_0, decide_eq_false q, Bool.and_false]
    · rw [if_pos rfl, gb_1 i hi, decide_eq_false q, Bool.and_false]
theorem bt_gb (s : Int32) {k : Nat} (hk : k < 32) : bt s (nI k) = gb s k := by
  unfold bt
  rw [gb_and1, gb_sshr k hk s (by decide), Nat.add_zero, if_pos hk]
  cases gb s k <;> decide
theorem gb_b1 : ∀ k, k < 32 → ∀ i, i < 32 → gb (1 <<< (nI k &&& 31)) i = decide (i = k) := by decide +kernel
/-- the set of all k < m with b -/
def bS (b : Nat → Bool) (m : Nat) : Int32 := lp (fun k s => s ||| (if b k then 1 <<< (nI k &&& 31) else 0)) m 0
theorem bS_s (b : Nat → Bool) (m : Nat) : bS b (m + 1) = bS b m ||| (if b m then 1 <<< (nI m &&& 31) else 0) := rfl
theorem gb_bS (b : Nat → Bool) {i : Nat} (hi : i < 32) : ∀ m, m ≤ 32 → gb (bS b m) i = (decide (i < m) && b i)
  | 0, _ => by rw [show bS b 0 = 0 from rfl, gb_0, decide_eq_false (by omega), Bool.false_and]
  | m + 1, hm => by
    have ih := gb_bS b hi m (by omega)
    rw [bS_s, gb_or, ih]
    cases q : b m
    · rw [if_neg (by decide), gb_0, Bool.or_false]
      by_cases e : i = m
      · subst e; rw [q, Bool.and_false, Bool.and_false]
      · rw [show decide (i < m + 1) = decide (i < m) from decide_eq_decide.mpr (by omega)]
    · rw [if_pos rfl, gb_b1 m (by omega) i hi]
      by_cases e : i = m
      · subst e; simp [q]
      · rw [show decide (i < m + 1) = decide (i < m) from decide_eq_decide.mpr (by omega), decide_eq_false e, Bool.or_false]
theorem bt_bS (b : Nat → Bool) {m k : Nat} (hk : k < 32) (hm : m ≤ 32) : bt (bS b m) (nI k) = (decide (k < m) && b k) := by
  rw [bt_gb _ hk, gb_bS b hk m hm]
/-- the same as a count of twos -/
def cS (b : Nat → Bool) (m : Nat) : Nat := lp (fun k s => 2 ^ k * (if b k then 1 else 0) + s) m 0
theorem cS_s (b : Nat → Bool) (m : Nat) : cS b (m + 1) = 2 ^ m * (if b m then 1 else 0) + cS b m := rfl
theorem cS_lt (b : Nat → Bool) : ∀ m, cS b m < 2 ^ m
  | 0 => Nat.lt_succ_self 0
  | m + 1 => by
    have := cS_lt b m
    rw [cS_s, Nat.pow_succ]
    split <;> omega
theorem tb_cS (b : Nat → Bool) (i : Nat) : ∀ m, (cS b m).testBit i = (decide (i < m) && b i)
  | 0 => by rw [show cS b 0 = 0 from rfl, Nat.zero_testBit, decide_eq_false (by omega), Bool.false_and]
  | m + 1 => by
    have ih := tb_cS b i m
    rw [cS_s]
    cases q : b m
    · rw [if_neg (by decide), Nat.mul_zero, Nat.zero_add, ih]
      by_cases e : i = m
      · subst e; rw [q, Bool.and_false, Bool.and_false]
      · rw [show decide (i < m + 1) = decide (i < m) from decide_eq_decide.mpr (by omega)]
    · rw [if_pos rfl, Nat.mul_one]
      rcases Nat.lt_trichotomy i m with e | e | e
      · rw [Nat.testBit_two_pow_add_gt e, ih, decide_eq_true e, decide_eq_true (by omega)]
      · subst e
        rw [Nat.testBit_two_pow_add_eq, Nat.testBit_lt_two_pow (cS_lt b i), decide_eq_true (by omega), q]; rfl
      · have : 2 ^ m + cS b m < 2 ^ i := by
          have h1 := cS_lt b m
          have h2 : 2 ^ (m + 1) ≤ 2 ^ i := Nat.pow_le_pow_right (by decide) e
          rw [Nat.pow_succ] at h2
          omega
        rw [Nat.testBit_lt_two_pow this, decide_eq_false (by omega), Bool.false_and]
theorem gb_nI (n : Nat) {i : Nat} (hi : i < 32) : gb (nI n) i = n.testBit i := by
  show (BitVec.ofNat 32 n).getLsbD i = _
  rw [BitVec.getLsbD_ofNat]
  simp [hi]
theorem bS_nI (b : Nat → Bool) {m : Nat} (hm : m ≤ 32) : bS b m = nI (cS b m) := by
  apply gb_ext
  intro i hi
  rw [gb_bS b hi m hm, gb_nI _ hi, tb_cS]
def nS (b : Nat → Bool) (m : Nat) : Nat := lp (fun k s => s + (if b k then 1 else 0)) m 0
theorem nS_s (b : Nat → Bool) (m : Nat) : nS b (m + 1) = nS b m + (if b m then 1 else 0) := rfl
theorem pc_s (n k : Nat) : pc n (k + 1) = pc n k + (n.testBit k).toNat := rfl
theorem pc_cS (b : Nat → Bool) (m : Nat) : ∀ k, k ≤ m → pc (cS b m) k = nS b k
  | 0, _ => rfl
  | k + 1, hk => by
    rw [pc_s, nS_s, pc_cS b m k (by omega), tb_cS, decide_eq_true (by omega), Bool.true_and]
    cases b k <;> rfl
theorem pc_far {n m : Nat} (h : n < 2 ^ m) : ∀ d, pc n (m + d) = pc n m
  | 0 => rfl
  | d + 1 => by
    have : n < 2 ^ (m + d) := Nat.lt_of_lt_of_le h (Nat.pow_le_pow_right (by decide) (by omega))
    rw [← Nat.add_assoc, pc_s, pc_far h d, Nat.testBit_lt_two_pow this]; rfl
theorem e_j_bitCount {A B : Nat} {M : Mm} {Q : Po} {x : Int32} : WP 220 0 [.int x] [] (shw A B) (0, 0) M Q = Q (some (.int (bcE x))) (shw A B) M := by
  unfold bcE bc5 bc4 bc3 bc2 bc1 ush
  simp only [w_j_bitCount_0, w_j_bitCount_1, w_j_bitCount_2, w_j_bitCount_3, w_j_bitCount_4, w_j_bitCount_7, w_j_bitCount_8, w_j_bitCount_9, w_j_bitCount_10, w_j_bitCount_11, w_j_bitCount_14, w_j_bitCount_15, w_j_bitCount_16, w_j_bitCount_17, w_j_bitCount_18, w_j_bitCount_21, w_j_bitCount_22, w_j_bitCount_23, w_j_bitCount_24, w_j_bitCount_25, w_j_bitCount_26, w_j_bitCount_27, w_j_bitCount_28, w_j_bitCount_29, w_j_bitCount_32, w_j_bitCount_33, w_j_bitCount_34, w_j_bitCount_35, w_j_bitCount_36, w_j_bitCount_38, w_j_bitCount_39, w_j_bitCount_40, w_j_bitCount_41, w_j_bitCount_42, w_j_bitCount_43, w_j_bitCount_45, w_j_bitCount_46, w_j_bitCount_47, w_j_bitCount_48, w_j_bitCount_49, w_j_bitCount_51, w_j_bitCount_52, i10, Bool.false_eq_true, eq_self, true_or, or_true, if_true, if_false, gv_int, gv_ref, av_some, al_some, un_int, un_ref, un_mk, ok4_0, ok4_1, ok4_2, ok4_3, ok4_4, Kn_some, Kn_none, true_and, and_true]
theorem bc_pc {n : Nat} (h : n < 65536) : bcE (nI n) = nI (pc n 16) := by
  by_cases h0 : n < 4096
  · exact of_decide_eq_true (List.all_eq_true.mp bcT_0 n (List.mem_range'_1.mpr ⟨by omega, by omega⟩))
  by_cases h1 : n < 8192
  · exact of_decide_eq_true (List.all_eq_true.mp bcT_1 n (List.mem_range'_1.mpr ⟨by omega, by omega⟩))
  by_cases h2 : n < 12288
  · exact of_decide_eq_true (List.all_eq_true.mp bcT_2 n (List.mem_range'_1.mpr ⟨by omega, by omega⟩))
  by_cases h3 : n < 16384
  · exact of_decide_eq_true (List.all_eq_true.mp bcT_3 n (List.mem_range'_1.mpr ⟨by omega, by omega⟩))
  by_cases h4 : n < 20480
  · exact of_decide_eq_true (List.all_eq_true.mp bcT_4 n (List.mem_range'_1.mpr ⟨by omega, by omega⟩))
  by_cases h5 : n < 24576
  · exact of_decide_eq_true (List.all_eq_true.mp bcT_5 n (List.mem_range'_1.mpr ⟨by omega, by omega⟩))
  by_cases h6 : n < 28672
  · exact of_decide_eq_true (List.all_eq_true.mp bcT_6 n (List.mem_range'_1.mpr ⟨by omega, by omega⟩))
  by_cases h7 : n < 32768
  · exact of_decide_eq_true (List.all_eq_true.mp bcT_7 n (List.mem_range'_1.mpr ⟨by omega, by omega⟩))
  by_cases h8 : n < 36864
  · exact of_decide_eq_true (List.all_eq_true.mp bcT_8 n (List.mem_range'_1.mpr ⟨by omega, by omega⟩))
  by_cases h9 : n < 40960
  · exact of_decide_eq_true (List.all_eq_true.mp bcT_9 n (List.mem_range'_1.mpr ⟨by omega, by omega⟩))
  by_cases h10 : n < 45056
  · exact of_decide_eq_true (List.all_eq_true.mp bcT_10 n (List.mem_range'_1.mpr ⟨by omega, by omega⟩))
  by_cases h11 : n < 49152
  · exact of_decide_eq_true (List.all_eq_true.mp bcT_11 n (List.mem_range'_1.mpr ⟨by omega, by omega⟩))
  by_cases h12 : n < 53248
  · exact of_decide_eq_true (List.all_eq_true.mp bcT_12 n (List.mem_range'_1.mpr ⟨by omega, by omega⟩))
  by_cases h13 : n < 57344
  · exact of_decide_eq_true (List.all_eq_true.mp bcT_13 n (List.mem_range'_1.mpr ⟨by omega, by omega⟩))
  by_cases h14 : n < 61440
  · exact of_decide_eq_true (List.all_eq_true.mp bcT_14 n (List.mem_range'_1.mpr ⟨by omega, by omega⟩))
  exact of_decide_eq_true (List.all_eq_true.mp bcT_15 n (List.mem_range'_1.mpr ⟨by omega, by omega⟩))
/-- how many are in a set -/
theorem bc_bS (b : Nat → Bool) {m : Nat} (hm : m ≤ 16) : bcE (bS b m) = nI (nS b m) := by
  have h1 := cS_lt b m
  have h2 : 2 ^ m ≤ 2 ^ 16 := Nat.pow_le_pow_right (by decide) hm
  have h3 := pc_far h1 (16 - m)
  rw [show m + (16 - m) = 16 by omega] at h3
  rw [bS_nI b (by omega), bc_pc (by omega), h3, pc_cS b m m (Nat.le_refl m)]
theorem bS_congr {b b' : Nat → Bool} {m : Nat} (h : ∀ k, k < m → b k = b' k) : bS b m = bS b' m := by
  unfold bS
  exact lp_congr (fun k hk a => by rw [h k hk]) 0
theorem nS_congr {b b' : Nat → Bool} {m : Nat} (h : ∀ k, k < m → b k = b' k) : nS b m = nS b' m := by
  unfold nS
  exact lp_congr (fun k hk a => by rw [h k hk]) 0
