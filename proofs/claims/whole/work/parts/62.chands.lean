/-! the component: hands -/
theorem e_h_put {A B o t : Nat} {M : Mm} {Q : Po} {c : Int32} (ho : isHH o) (ht : t < 7) : WP 11 0 [.ref o, .int (nI t), .int c] [] (shw A B) (0, 0) M Q = Q none (shw A B) (up M (o + 1) t c) := by
  have g : vp_in (nI t) 7 := vp_in_nI ht (by decide)
  simp only [w_h_put_0, w_h_put_1, w_h_put_4, w_h_put_5, w_h_put_6, w_h_put_7, xhh_0 ho, yhh_1 ho, g, nI_clamp (show t < 2 ^ 31 by omega), i10, Bool.false_eq_true, eq_self, true_or, or_true, if_true, if_false, gv_int, gv_ref, av_some, al_some, un_int, un_ref, un_mk, ok4_0, ok4_1, ok4_2, ok4_3, ok4_4, Kn_some, Kn_none, true_and, and_true]
theorem e_h_exchange {A B o t u : Nat} {M : Mm} {Q : Po} (ho : isHH o) (ht : t < 7) (hu : u < 7) : WP 13 0 [.ref o, .int (nI t), .int (nI u), mk] [] (shw A B) (0, 0) M Q = Q none (shw A B) (up (up M (o + 1) t (M (o + 1) u)) (o + 1) u (M (o + 1) t)) := by
  have g : vp_in (nI t) 7 := vp_in_nI ht (by decide)
  have g2 : vp_in (nI u) 7 := vp_in_nI hu (by decide)
  simp only [w_h_exchange_0, w_h_exchange_1, w_h_exchange_4, w_h_exchange_5, w_h_exchange_6, w_h_exchange_7, w_h_exchange_8, w_h_exchange_11, w_h_exchange_12, w_h_exchange_13, w_h_exchange_16, w_h_exchange_17, w_h_exchange_18, w_h_exchange_19, w_h_exchange_20, w_h_exchange_23, w_h_exchange_24, w_h_exchange_25, w_h_exchange_26, xhh_0 ho, yhh_1 ho, g, g2, nI_clamp (show t < 2 ^ 31 by omega), nI_clamp (show u < 2 ^ 31 by omega), i10, Bool.false_eq_true, eq_self, true_or, or_true, if_true, if_false, gv_int, gv_ref, av_some, al_some, un_int, un_ref, un_mk, ok4_0, ok4_1, ok4_2, ok4_3, ok4_4, Kn_some, Kn_none, true_and, and_true]
def flF (x : Int32) (k : Nat) (f : Nat → Int32) : Nat → Int32 := fun j => if j < k then x else f j
theorem flF_s (x : Int32) (k : Nat) (f : Nat → Int32) : upd (flF x k f) k x = flF x (k + 1) f := by
  funext j
  unfold upd flF
  by_cases q : j = k
  · rw [if_pos q, if_pos (by omega)]
  · rw [if_neg q]
    by_cases r : j < k
    · rw [if_pos r, if_pos (by omega)]
    · rw [if_neg r, if_neg (by omega)]
theorem flF_0 (x : Int32) (f : Nat → Int32) : flF x 0 f = f := by
  funext j; unfold flF; rw [if_neg (Nat.not_lt_zero _)]
theorem e_j_fill {A B o n : Nat} {M : Mm} {Q : Po} {x : Int32} (ho : aln (shw A B) o = some (0, n)) (hn : n ≤ 1000) : WP 221 0 [.ref o, .int x, mk, mk] [] (shw A B) (0, 0) M Q = Q none (shw A B) (st M o (flF x n (M o))) := by
  refine WP.is (fun Q hQ => ?_)
  simp only [w_j_fill_0, w_j_fill_1, w_j_fill_2, w_j_fill_3, w_j_fill_4, w_j_fill_6, w_j_fill_7, w_j_fill_10, w_j_fill_11, w_j_fill_12, w_j_fill_13, w_j_fill_14, w_j_fill_17, w_j_fill_20, ho, i10, Bool.false_eq_true, eq_self, true_or, or_true, if_true, if_false, gv_int, gv_ref, av_some, al_some, un_int, un_ref, un_mk, ok4_0, ok4_1, ok4_2, ok4_3, ok4_4, Kn_some, Kn_none, true_and, and_true]
  have := for_up (n := n) (P := fun k => WP 221 5 [.ref o, .int x, .int (nI k), .int (nI n)] [] (shw A B) (0, 0) (st M o (flF x k (M o))) Q) ?_ ?_
  · rw [flF_0, st_self] at this
    exact this
  · rw [w_j_fill_5]
    simp only [w_j_fill_0, w_j_fill_1, w_j_fill_2, w_j_fill_3, w_j_fill_4, w_j_fill_6, w_j_fill_7, w_j_fill_10, w_j_fill_11, w_j_fill_12, w_j_fill_13, w_j_fill_14, w_j_fill_17, w_j_fill_20, lt_irr, i10, Bool.false_eq_true, eq_self, true_or, or_true, if_true, if_false, gv_int, gv_ref, av_some, al_some, un_int, un_ref, un_mk, ok4_0, ok4_1, ok4_2, ok4_3, ok4_4, Kn_some, Kn_none, true_and, and_true]
    exact hQ
  · intro k hk ih
    have g1 : nI k < nI n := nI_lt hk (by omega)
    have g : vp_in (nI k) (n : Nat) := vp_in_nI hk (by omega)
    rw [w_j_fill_5]
    simp only [w_j_fill_0, w_j_fill_1, w_j_fill_2, w_j_fill_3, w_j_fill_4, w_j_fill_6, w_j_fill_7, w_j_fill_10, w_j_fill_11, w_j_fill_12, w_j_fill_13, w_j_fill_14, w_j_fill_17, w_j_fill_20, g1, g, ho, nI_clamp (show k < 2 ^ 31 by omega), up_st, flF_s, nI_1, i10, Bool.false_eq_true, eq_self, true_or, or_true, if_true, if_false, gv_int, gv_ref, av_some, al_some, un_int, un_ref, un_mk, ok4_0, ok4_1, ok4_2, ok4_3, ok4_4, Kn_some, Kn_none, true_and, and_true]
    exact ih
theorem e_h_layAllOnTable {A B o : Nat} {M : Mm} {Q : Po} (ho : isHH o) : WP 9 0 [.ref o] [] (shw A B) (0, 0) M Q = Q none (shw A B) (st M (o + 1) (flF (-1) 7 (M (o + 1)))) := by
  simp only [w_h_layAllOnTable_0, w_h_layAllOnTable_1, w_h_layAllOnTable_4, w_h_layAllOnTable_5, w_h_layAllOnTable_8, xhh_0 ho, e_j_fill (yhh_1 ho) (by decide), i10, Bool.false_eq_true, eq_self, true_or, or_true, if_true, if_false, gv_int, gv_ref, av_some, al_some, un_int, un_ref, un_mk, ok4_0, ok4_1, ok4_2, ok4_3, ok4_4, Kn_some, Kn_none, true_and, and_true]
theorem e_p_pence {A B o K C N : Nat} {M : Mm} {Q : Po} {kd : Nat → Nat} (ho : isPP o) (h : CP M o K C N) (hk : ∀ t, t < N → M (o + 9) t = nI (kd t) ∧ kd t < 5) : WP 43 0 [.ref o, mk, mk] [] (shw A B) (0, 0) M Q = Q (some (.int (costE (M (o + 1)) kd N))) (shw A B) M := by
  obtain ⟨⟨h1, h2, h3⟩, h4, h5, h6⟩ := h
  refine WP.is (fun Q hQ => ?_)
  simp only [w_p_pence_0, w_p_pence_1, w_p_pence_2, w_p_pence_3, w_p_pence_5, w_p_pence_6, w_p_pence_9, w_p_pence_12, w_p_pence_13, w_p_pence_14, w_p_pence_17, w_p_pence_18, w_p_pence_21, w_p_pence_22, w_p_pence_23, w_p_pence_24, w_p_pence_25, w_p_pence_26, w_p_pence_29, w_p_pence_32, w_p_pence_33, i10, Bool.false_eq_true, eq_self, true_or, or_true, if_true, if_false, gv_int, gv_ref, av_some, al_some, un_int, un_ref, un_mk, ok4_0, ok4_1, ok4_2, ok4_3, ok4_4, Kn_some, Kn_none, true_and, and_true]
  refine for_up (n := N) (P := fun k => WP 43 4 [.ref o, .int (costE (M (o + 1)) kd k), .int (nI k)] [] (shw A B) (0, 0) M Q) ?_ ?_
  · rw [w_p_pence_4]
    simp only [w_p_pence_0, w_p_pence_1, w_p_pence_2, w_p_pence_3, w_p_pence_5, w_p_pence_6, w_p_pence_9, w_p_pence_12, w_p_pence_13, w_p_pence_14, w_p_pence_17, w_p_pence_18, w_p_pence_21, w_p_pence_22, w_p_pence_23, w_p_pence_24, w_p_pence_25, w_p_pence_26, w_p_pence_29, w_p_pence_32, w_p_pence_33, xpp_2 ho, h3, lt_irr, i10, Bool.false_eq_true, eq_self, true_or, or_true, if_true, if_false, gv_int, gv_ref, av_some, al_some, un_int, un_ref, un_mk, ok4_0, ok4_1, ok4_2, ok4_3, ok4_4, Kn_some, Kn_none, true_and, and_true]
    exact hQ
  · intro k hkN ih
    have g1 : nI k < nI N := nI_lt hkN (by omega)
    have g2 : vp_in (nI k) 7 := vp_in_nI (by omega) (by decide)
    obtain ⟨e1, e2⟩ := hk k hkN
    have g3 : vp_in (nI (kd k)) 5 := vp_in_nI e2 (by decide)
    have e : costE (M (o + 1)) kd (k + 1) = costE (M (o + 1)) kd k + M (o + 1) (kd k) := rfl
    rw [e] at ih
    generalize costE (M (o + 1)) kd k = b0 at ih ⊢
    rw [w_p_pence_4]
    simp only [w_p_pence_0, w_p_pence_1, w_p_pence_2, w_p_pence_3, w_p_pence_5, w_p_pence_6, w_p_pence_9, w_p_pence_12, w_p_pence_13, w_p_pence_14, w_p_pence_17, w_p_pence_18, w_p_pence_21, w_p_pence_22, w_p_pence_23, w_p_pence_24, w_p_pence_25, w_p_pence_26, w_p_pence_29, w_p_pence_32, w_p_pence_33, xpp_2 ho, h3, g1, g2, xpp_4 ho, xpp_12 ho, ypp_9 ho, ypp_1 ho, nI_clamp (show k < 2 ^ 31 by omega), e1, g3, nI_clamp (show kd k < 2 ^ 31 by omega), nI_1, i10, Bool.false_eq_true, eq_self, true_or, or_true, if_true, if_false, gv_int, gv_ref, av_some, al_some, un_int, un_ref, un_mk, ok4_0, ok4_1, ok4_2, ok4_3, ok4_4, Kn_some, Kn_none, true_and, and_true]
    exact ih
theorem e_h_illOf {A B o p K C N : Nat} {M : Mm} {Q : Po} {kd : Nat → Nat} (ho : isHH o) (hp : isPP p) (h : CP M p K C N) (hk : ∀ t, t < N → M (p + 9) t = nI (kd t) ∧ kd t < 5) (hh : HV (M (o + 1)) C) : WP 15 0 [.ref o, .ref p, mk, mk, mk] [] (shw A B) (0, 0) M Q = Q (some (.int (illE (M (p + 3)) kd (M (o + 1)) N))) (shw A B) M := by
  obtain ⟨⟨h1, h2, h3⟩, h4, h5, h6⟩ := id h
  refine WP.is (fun Q hQ => ?_)
  simp only [w_h_illOf_0, w_h_illOf_1, w_h_illOf_2, w_h_illOf_3, w_h_illOf_5, w_h_illOf_6, w_h_illOf_9, w_h_illOf_12, w_h_illOf_13, w_h_illOf_16, w_h_illOf_17, w_h_illOf_18, w_h_illOf_20, w_h_illOf_21, w_h_illOf_23, w_h_illOf_26, w_h_illOf_29, w_h_illOf_30, w_h_illOf_32, w_h_illOf_33, w_h_illOf_36, w_h_illOf_37, w_h_illOf_38, w_h_illOf_41, w_h_illOf_44, w_h_illOf_45, w_h_illOf_46, w_h_illOf_48, w_h_illOf_49, w_h_illOf_50, w_h_illOf_51, w_h_illOf_54, w_h_illOf_57, w_h_illOf_58, i10, Bool.false_eq_true, eq_self, true_or, or_true, if_true, if_false, gv_int, gv_ref, av_some, al_some, un_int, un_ref, un_mk, ok4_0, ok4_1, ok4_2, ok4_3, ok4_4, Kn_some, Kn_none, true_and, and_true]
  refine for_up (n := N) (P := fun k => ∀ j4, WP 15 4 [.ref o, .ref p, .int (illE (M (p + 3)) kd (M (o + 1)) k), .int (nI k), j4] [] (shw A B) (0, 0) M Q) ?_ ?_ _
  · intro j4
    rw [w_h_illOf_4]
    simp only [w_h_illOf_0, w_h_illOf_1, w_h_illOf_2, w_h_illOf_3, w_h_illOf_5, w_h_illOf_6, w_h_illOf_9, w_h_illOf_12, w_h_illOf_13, w_h_illOf_16, w_h_illOf_17, w_h_illOf_18, w_h_illOf_20, w_h_illOf_21, w_h_illOf_23, w_h_illOf_26, w_h_illOf_29, w_h_illOf_30, w_h_illOf_32, w_h_illOf_33, w_h_illOf_36, w_h_illOf_37, w_h_illOf_38, w_h_illOf_41, w_h_illOf_44, w_h_illOf_45, w_h_illOf_46, w_h_illOf_48, w_h_illOf_49, w_h_illOf_50, w_h_illOf_51, w_h_illOf_54, w_h_illOf_57, w_h_illOf_58, xpp_2 hp, h3, lt_irr, i10, Bool.false_eq_true, eq_self, true_or, or_true, if_true, if_false, gv_int, gv_ref, av_some, al_some, un_int, un_ref, un_mk, ok4_0, ok4_1, ok4_2, ok4_3, ok4_4, Kn_some, Kn_none, true_and, and_true]
    exact hQ
  · intro k hkN ih j4
    have g1 : nI k < nI N := nI_lt hkN (by omega)
    have g2 : vp_in (nI k) 7 := vp_in_nI (by omega) (by decide)
    obtain ⟨e1, e2⟩ := hk k hkN
    have e : illE (M (p + 3)) kd (M (o + 1)) (k + 1) = illE (M (p + 3)) kd (M (o + 1)) k ||| (if M (o + 1) k < 0 then (0 : Int32) else if bt (M (p + 3) (M (o + 1) k).toNatClampNeg) (nI (kd k)) then (1 : Int32) <<< (M (o + 1) k &&& 31) else 0) := rfl
    rw [e] at ih
    generalize illE (M (p + 3)) kd (M (o + 1)) k = b0 at ih ⊢
    rw [w_h_illOf_4]
    rcases hh k (by omega) with q | ⟨c, c1, q⟩
    · rw [q, if_pos (by decide), Int32.or_zero] at ih
      have n1 : inb (-1) C = false := by rw [inb_i (by omega)]; simp
      simp only [w_h_illOf_0, w_h_illOf_1, w_h_illOf_2, w_h_illOf_3, w_h_illOf_5, w_h_illOf_6, w_h_illOf_9, w_h_illOf_12, w_h_illOf_13, w_h_illOf_16, w_h_illOf_17, w_h_illOf_18, w_h_illOf_20, w_h_illOf_21, w_h_illOf_23, w_h_illOf_26, w_h_illOf_29, w_h_illOf_30, w_h_illOf_32, w_h_illOf_33, w_h_illOf_36, w_h_illOf_37, w_h_illOf_38, w_h_illOf_41, w_h_illOf_44, w_h_illOf_45, w_h_illOf_46, w_h_illOf_48, w_h_illOf_49, w_h_illOf_50, w_h_illOf_51, w_h_illOf_54, w_h_illOf_57, w_h_illOf_58, xpp_2 hp, h3, g1, g2, xhh_0 ho, yhh_1 ho, nI_clamp (show k < 2 ^ 31 by omega), q, e_p_hasChild hp h, zpp hp, n1, nI_1, i10, Bool.false_eq_true, eq_self, true_or, or_true, if_true, if_false, gv_int, gv_ref, av_some, al_some, un_int, un_ref, un_mk, ok4_0, ok4_1, ok4_2, ok4_3, ok4_4, Kn_some, Kn_none, true_and, and_true]
      exact ih _
    · have n1 : inb (nI c) C = true := by rw [inb_iff, nI_toInt (by omega)]; omega
      rw [q, if_neg (nI_pos (by omega)), nI_clamp (show c < 2 ^ 31 by omega)] at ih
      cases s : bt (M (p + 3) c) (nI (kd k))
      · rw [s] at ih
        simp only [Bool.false_eq_true, if_false, Int32.or_zero] at ih
        simp only [w_h_illOf_0, w_h_illOf_1, w_h_illOf_2, w_h_illOf_3, w_h_illOf_5, w_h_illOf_6, w_h_illOf_9, w_h_illOf_12, w_h_illOf_13, w_h_illOf_16, w_h_illOf_17, w_h_illOf_18, w_h_illOf_20, w_h_illOf_21, w_h_illOf_23, w_h_illOf_26, w_h_illOf_29, w_h_illOf_30, w_h_illOf_32, w_h_illOf_33, w_h_illOf_36, w_h_illOf_37, w_h_illOf_38, w_h_illOf_41, w_h_illOf_44, w_h_illOf_45, w_h_illOf_46, w_h_illOf_48, w_h_illOf_49, w_h_illOf_50, w_h_illOf_51, w_h_illOf_54, w_h_illOf_57, w_h_illOf_58, xpp_2 hp, h3, g1, g2, xhh_0 ho, yhh_1 ho, xpp_12 hp, ypp_9 hp, nI_clamp (show k < 2 ^ 31 by omega), q, e1, e_p_hasChild hp h, e_p_isBanned hp (show c < 4 by omega), s, zpp hp, n1, nI_1, i10, Bool.false_eq_true, eq_self, true_or, or_true, if_true, if_false, gv_int, gv_ref, av_some, al_some, un_int, un_ref, un_mk, ok4_0, ok4_1, ok4_2, ok4_3, ok4_4, Kn_some, Kn_none, true_and, and_true]
        exact ih _
      · rw [s] at ih
        simp only [if_true] at ih
        simp only [w_h_illOf_0, w_h_illOf_1, w_h_illOf_2, w_h_illOf_3, w_h_illOf_5, w_h_illOf_6, w_h_illOf_9, w_h_illOf_12, w_h_illOf_13, w_h_illOf_16, w_h_illOf_17, w_h_illOf_18, w_h_illOf_20, w_h_illOf_21, w_h_illOf_23, w_h_illOf_26, w_h_illOf_29, w_h_illOf_30, w_h_illOf_32, w_h_illOf_33, w_h_illOf_36, w_h_illOf_37, w_h_illOf_38, w_h_illOf_41, w_h_illOf_44, w_h_illOf_45, w_h_illOf_46, w_h_illOf_48, w_h_illOf_49, w_h_illOf_50, w_h_illOf_51, w_h_illOf_54, w_h_illOf_57, w_h_illOf_58, xpp_2 hp, h3, g1, g2, xhh_0 ho, yhh_1 ho, xpp_12 hp, ypp_9 hp, nI_clamp (show k < 2 ^ 31 by omega), q, e1, e_p_hasChild hp h, e_p_isBanned hp (show c < 4 by omega), s, zpp hp, n1, nI_1, i10, Bool.false_eq_true, eq_self, true_or, or_true, if_true, if_false, gv_int, gv_ref, av_some, al_some, un_int, un_ref, un_mk, ok4_0, ok4_1, ok4_2, ok4_3, ok4_4, Kn_some, Kn_none, true_and, and_true]
        exact ih _
