/-! the component: worths, packed hands -/
theorem e_v_of {A B o i j : Nat} {M : Mm} {Q : Po} (ho : isVV o) (hi : i < 4) (hj : j < 4) : WP 97 0 [.ref o, .int (nI i), .int (nI j)] [] (shw A B) (0, 0) M Q = Q (some (.int (M (o + 1) (i * 4 + j)))) (shw A B) M := by
  have g : vp_in (nI (i * 4 + j)) 16 := vp_in_nI (by omega) (by decide)
  have e4 : nI i * 4 + nI j = nI (i * 4 + j) := by rw [show (4 : Int32) = nI 4 from rfl, pk_mul, nI_add]
  simp only [w_v_of_0, w_v_of_1, w_v_of_4, w_v_of_5, w_v_of_6, w_v_of_7, w_v_of_8, w_v_of_9, w_v_of_10, xvv_0 ho, yvv_1 ho, e4, g, nI_clamp (show i * 4 + j < 2 ^ 31 by omega), i10, Bool.false_eq_true, eq_self, true_or, or_true, if_true, if_false, gv_int, gv_ref, av_some, al_some, un_int, un_ref, un_mk, ok4_0, ok4_1, ok4_2, ok4_3, ok4_4, Kn_some, Kn_none, true_and, and_true]
def ldE (w : Nat → Int32) (i j : Nat) : Int32 := w (i * 4 + j) - w (i * 4 + i)
theorem e_v_lead {A B o i j : Nat} {M : Mm} {Q : Po} (ho : isVV o) (hi : i < 4) (hj : j < 4) : WP 102 0 [.ref o, .int (nI i), .int (nI j)] [] (shw A B) (0, 0) M Q = Q (some (.int (ldE (M (o + 1)) i j))) (shw A B) M := by
  unfold ldE
  simp only [w_v_lead_0, w_v_lead_1, w_v_lead_2, w_v_lead_3, w_v_lead_6, w_v_lead_7, w_v_lead_8, w_v_lead_9, w_v_lead_12, w_v_lead_13, e_v_of ho hi hj, e_v_of ho hi hi, zvv ho, i10, Bool.false_eq_true, eq_self, true_or, or_true, if_true, if_false, gv_int, gv_ref, av_some, al_some, un_int, un_ref, un_mk, ok4_0, ok4_1, ok4_2, ok4_3, ok4_4, Kn_some, Kn_none, true_and, and_true]
theorem e_v_pairBit {A B i j : Nat} {M : Mm} {Q : Po} : WP 103 0 [.int (nI i), .int (nI j)] [] (shw A B) (0, 0) M Q = Q (some (.int (1 <<< (nI (i * 4 + j) &&& 31)))) (shw A B) M := by
  have e4 : nI i * 4 + nI j = nI (i * 4 + j) := by rw [show (4 : Int32) = nI 4 from rfl, pk_mul, nI_add]
  simp only [w_v_pairBit_0, w_v_pairBit_1, w_v_pairBit_2, w_v_pairBit_3, w_v_pairBit_4, w_v_pairBit_5, w_v_pairBit_6, w_v_pairBit_7, e4, i10, Bool.false_eq_true, eq_self, true_or, or_true, if_true, if_false, gv_int, gv_ref, av_some, al_some, un_int, un_ref, un_mk, ok4_0, ok4_1, ok4_2, ok4_3, ok4_4, Kn_some, Kn_none, true_and, and_true]
def pkE (h : Nat → Int32) (n : Nat) : Int32 := lp (fun t s => s ||| ((h t + 1) <<< (3 * nI t &&& 31))) n 0
theorem e_h_packed {A B o : Nat} {M : Mm} {Q : Po} (ho : isHH o) : WP 17 0 [.ref o, mk, mk] [] (shw A B) (0, 0) M Q = Q (some (.int (pkE (M (o + 1)) 7))) (shw A B) M := by
  refine WP.is (fun Q hQ => ?_)
  simp only [w_h_packed_0, w_h_packed_1, w_h_packed_2, w_h_packed_3, w_h_packed_5, w_h_packed_7, w_h_packed_10, w_h_packed_11, w_h_packed_12, w_h_packed_15, w_h_packed_16, w_h_packed_17, w_h_packed_18, w_h_packed_19, w_h_packed_20, w_h_packed_21, w_h_packed_22, w_h_packed_23, w_h_packed_24, w_h_packed_25, w_h_packed_28, w_h_packed_31, w_h_packed_32, i10, Bool.false_eq_true, eq_self, true_or, or_true, if_true, if_false, gv_int, gv_ref, av_some, al_some, un_int, un_ref, un_mk, ok4_0, ok4_1, ok4_2, ok4_3, ok4_4, Kn_some, Kn_none, true_and, and_true]
  refine for_up (n := 7) (P := fun k => WP 17 4 [.ref o, .int (pkE (M (o + 1)) k), .int (nI k)] [] (shw A B) (0, 0) M Q) ?_ ?_
  · rw [w_h_packed_4]
    simp only [w_h_packed_0, w_h_packed_1, w_h_packed_2, w_h_packed_3, w_h_packed_5, w_h_packed_7, w_h_packed_10, w_h_packed_11, w_h_packed_12, w_h_packed_15, w_h_packed_16, w_h_packed_17, w_h_packed_18, w_h_packed_19, w_h_packed_20, w_h_packed_21, w_h_packed_22, w_h_packed_23, w_h_packed_24, w_h_packed_25, w_h_packed_28, w_h_packed_31, w_h_packed_32, (show (nI 7 < 7) = False by decide), i10, Bool.false_eq_true, eq_self, true_or, or_true, if_true, if_false, gv_int, gv_ref, av_some, al_some, un_int, un_ref, un_mk, ok4_0, ok4_1, ok4_2, ok4_3, ok4_4, Kn_some, Kn_none, true_and, and_true]
    exact hQ
  · intro k hk ih
    have g1 : nI k < 7 := nI_lt (b := 7) hk (by decide)
    have g2 : vp_in (nI k) 7 := vp_in_nI hk (by decide)
    have e : pkE (M (o + 1)) (k + 1) = pkE (M (o + 1)) k ||| ((M (o + 1) k + 1) <<< (3 * nI k &&& 31)) := rfl
    rw [e] at ih
    generalize pkE (M (o + 1)) k = b0 at ih ⊢
    rw [w_h_packed_4]
    simp only [w_h_packed_0, w_h_packed_1, w_h_packed_2, w_h_packed_3, w_h_packed_5, w_h_packed_7, w_h_packed_10, w_h_packed_11, w_h_packed_12, w_h_packed_15, w_h_packed_16, w_h_packed_17, w_h_packed_18, w_h_packed_19, w_h_packed_20, w_h_packed_21, w_h_packed_22, w_h_packed_23, w_h_packed_24, w_h_packed_25, w_h_packed_28, w_h_packed_31, w_h_packed_32, g1, g2, xhh_0 ho, yhh_1 ho, nI_clamp (show k < 2 ^ 31 by omega), nI_1, i10, Bool.false_eq_true, eq_self, true_or, or_true, if_true, if_false, gv_int, gv_ref, av_some, al_some, un_int, un_ref, un_mk, ok4_0, ok4_1, ok4_2, ok4_3, ok4_4, Kn_some, Kn_none, true_and, and_true]
    exact ih
def upF (code : Int32) (k : Nat) (f : Nat → Int32) : Nat → Int32 := fun j => if j < k then (code >>> (3 * nI j &&& 31) &&& 7) - 1 else f j
theorem upF_s (x : Int32) (k : Nat) (f : Nat → Int32) : upd (upF x k f) k ((x >>> (3 * nI k &&& 31) &&& 7) - 1) = upF x (k + 1) f := by
  funext j
  unfold upd upF
  by_cases q : j = k
  · rw [if_pos q, if_pos (by omega), q]
  · rw [if_neg q]
    by_cases r : j < k
    · rw [if_pos r, if_pos (by omega)]
    · rw [if_neg r, if_neg (by omega)]
theorem upF_0 (x : Int32) (f : Nat → Int32) : upF x 0 f = f := by
  funext j; unfold upF; rw [if_neg (Nat.not_lt_zero _)]
theorem e_h_unpack {A B o : Nat} {M : Mm} {Q : Po} {x : Int32} (ho : isHH o) : WP 18 0 [.ref o, .int x, mk] [] (shw A B) (0, 0) M Q = Q none (shw A B) (st M (o + 1) (upF x 7 (M (o + 1)))) := by
  refine WP.is (fun Q hQ => ?_)
  simp only [w_h_unpack_0, w_h_unpack_1, w_h_unpack_3, w_h_unpack_5, w_h_unpack_8, w_h_unpack_9, w_h_unpack_12, w_h_unpack_13, w_h_unpack_14, w_h_unpack_15, w_h_unpack_16, w_h_unpack_17, w_h_unpack_18, w_h_unpack_20, w_h_unpack_21, w_h_unpack_22, w_h_unpack_23, w_h_unpack_24, w_h_unpack_27, w_h_unpack_30, i10, Bool.false_eq_true, eq_self, true_or, or_true, if_true, if_false, gv_int, gv_ref, av_some, al_some, un_int, un_ref, un_mk, ok4_0, ok4_1, ok4_2, ok4_3, ok4_4, Kn_some, Kn_none, true_and, and_true]
  have := for_up (n := 7) (P := fun k => WP 18 2 [.ref o, .int x, .int (nI k)] [] (shw A B) (0, 0) (st M (o + 1) (upF x k (M (o + 1)))) Q) ?_ ?_
  · rw [upF_0, st_self] at this
    exact this
  · rw [w_h_unpack_2]
    simp only [w_h_unpack_0, w_h_unpack_1, w_h_unpack_3, w_h_unpack_5, w_h_unpack_8, w_h_unpack_9, w_h_unpack_12, w_h_unpack_13, w_h_unpack_14, w_h_unpack_15, w_h_unpack_16, w_h_unpack_17, w_h_unpack_18, w_h_unpack_20, w_h_unpack_21, w_h_unpack_22, w_h_unpack_23, w_h_unpack_24, w_h_unpack_27, w_h_unpack_30, (show (nI 7 < 7) = False by decide), i10, Bool.false_eq_true, eq_self, true_or, or_true, if_true, if_false, gv_int, gv_ref, av_some, al_some, un_int, un_ref, un_mk, ok4_0, ok4_1, ok4_2, ok4_3, ok4_4, Kn_some, Kn_none, true_and, and_true]
    exact hQ
  · intro k hk ih
    have g1 : nI k < 7 := nI_lt (b := 7) hk (by decide)
    have g2 : vp_in (nI k) 7 := vp_in_nI hk (by decide)
    rw [w_h_unpack_2]
    simp only [w_h_unpack_0, w_h_unpack_1, w_h_unpack_3, w_h_unpack_5, w_h_unpack_8, w_h_unpack_9, w_h_unpack_12, w_h_unpack_13, w_h_unpack_14, w_h_unpack_15, w_h_unpack_16, w_h_unpack_17, w_h_unpack_18, w_h_unpack_20, w_h_unpack_21, w_h_unpack_22, w_h_unpack_23, w_h_unpack_24, w_h_unpack_27, w_h_unpack_30, g1, g2, xhh_0 ho, yhh_1 ho, nI_clamp (show k < 2 ^ 31 by omega), up_st, upF_s, nI_1, i10, Bool.false_eq_true, eq_self, true_or, or_true, if_true, if_false, gv_int, gv_ref, av_some, al_some, un_int, un_ref, un_mk, ok4_0, ok4_1, ok4_2, ok4_3, ok4_4, Kn_some, Kn_none, true_and, and_true]
    exact ih
