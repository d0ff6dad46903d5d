/-! the reference: what it reads, loops -/
theorem e_m_allEnvy {A B : Nat} {M : Mm} {Q : Po} {K c n : Nat} (h : MD M K c n) : WP 166 0 [.ref 58, mk, mk, mk] [] (shw A B) (0, 0) M Q = Q (some (.int (allE (wT M) (M 63) (M 65) n c))) (shw A B) M := by
  refine WP.is (fun Q hQ => ?_)
  obtain ⟨h1, h2, h3, h4, h5, h6, h7⟩ := id h
  simp only [w_m_allEnvy_0, w_m_allEnvy_1, w_m_allEnvy_2, w_m_allEnvy_3, w_m_allEnvy_5, w_m_allEnvy_6, w_m_allEnvy_9, w_m_allEnvy_12, w_m_allEnvy_13, w_m_allEnvy_15, w_m_allEnvy_16, w_m_allEnvy_19, w_m_allEnvy_22, w_m_allEnvy_23, w_m_allEnvy_24, w_m_allEnvy_25, w_m_allEnvy_26, w_m_allEnvy_29, w_m_allEnvy_30, w_m_allEnvy_31, w_m_allEnvy_34, w_m_allEnvy_37, w_m_allEnvy_40, w_m_allEnvy_43, w_m_allEnvy_44, xm_3, cl_58, i10, Bool.false_eq_true, eq_self, true_or, or_true, if_true, if_false, gv_int, gv_ref, av_some, al_some, un_int, un_ref, un_mk, ok4_0, ok4_1, ok4_2, ok4_3, ok4_4, Kn_some, Kn_none, true_and, and_true]
  refine for_up (n := c) (P := fun i => ∀ jd, WP 166 4 [.ref 58, .int (lp (fun i s => lp (fun j s => s + ev (wT M) (M 63) (M 65) n i j) c s) i 0), .int (nI i), jd] [] (shw A B) (0, 0) M Q) ?_ ?_ mk
  · intro jd
    rw [w_m_allEnvy_4]
    simp only [w_m_allEnvy_0, w_m_allEnvy_1, w_m_allEnvy_2, w_m_allEnvy_3, w_m_allEnvy_5, w_m_allEnvy_6, w_m_allEnvy_9, w_m_allEnvy_12, w_m_allEnvy_13, w_m_allEnvy_15, w_m_allEnvy_16, w_m_allEnvy_19, w_m_allEnvy_22, w_m_allEnvy_23, w_m_allEnvy_24, w_m_allEnvy_25, w_m_allEnvy_26, w_m_allEnvy_29, w_m_allEnvy_30, w_m_allEnvy_31, w_m_allEnvy_34, w_m_allEnvy_37, w_m_allEnvy_40, w_m_allEnvy_43, w_m_allEnvy_44, xm_3, cl_58, h2, lt_irr, i10, Bool.false_eq_true, eq_self, true_or, or_true, if_true, if_false, gv_int, gv_ref, av_some, al_some, un_int, un_ref, un_mk, ok4_0, ok4_1, ok4_2, ok4_3, ok4_4, Kn_some, Kn_none, true_and, and_true]
    exact hQ
  · intro i hi ih jd
    have g1 : nI i < nI c := nI_lt hi (by omega)
    rw [w_m_allEnvy_4]
    simp only [w_m_allEnvy_0, w_m_allEnvy_1, w_m_allEnvy_2, w_m_allEnvy_3, w_m_allEnvy_5, w_m_allEnvy_6, w_m_allEnvy_9, w_m_allEnvy_12, w_m_allEnvy_13, w_m_allEnvy_15, w_m_allEnvy_16, w_m_allEnvy_19, w_m_allEnvy_22, w_m_allEnvy_23, w_m_allEnvy_24, w_m_allEnvy_25, w_m_allEnvy_26, w_m_allEnvy_29, w_m_allEnvy_30, w_m_allEnvy_31, w_m_allEnvy_34, w_m_allEnvy_37, w_m_allEnvy_40, w_m_allEnvy_43, w_m_allEnvy_44, xm_3, cl_58, h2, g1, i10, Bool.false_eq_true, eq_self, true_or, or_true, if_true, if_false, gv_int, gv_ref, av_some, al_some, un_int, un_ref, un_mk, ok4_0, ok4_1, ok4_2, ok4_3, ok4_4, Kn_some, Kn_none, true_and, and_true]
    simp only [lp_s] at ih
    generalize lp (fun i s => lp (fun j s => s + ev (wT M) (M 63) (M 65) n i j) c s) i 0 = s0 at ih ⊢
    refine for_up (n := c) (P := fun j => WP 166 14 [.ref 58, .int (lp (fun j s => s + ev (wT M) (M 63) (M 65) n i j) j s0), .int (nI i), .int (nI j)] [] (shw A B) (0, 0) M Q) ?_ ?_
    · rw [w_m_allEnvy_14]
      simp only [w_m_allEnvy_0, w_m_allEnvy_1, w_m_allEnvy_2, w_m_allEnvy_3, w_m_allEnvy_5, w_m_allEnvy_6, w_m_allEnvy_9, w_m_allEnvy_12, w_m_allEnvy_13, w_m_allEnvy_15, w_m_allEnvy_16, w_m_allEnvy_19, w_m_allEnvy_22, w_m_allEnvy_23, w_m_allEnvy_24, w_m_allEnvy_25, w_m_allEnvy_26, w_m_allEnvy_29, w_m_allEnvy_30, w_m_allEnvy_31, w_m_allEnvy_34, w_m_allEnvy_37, w_m_allEnvy_40, w_m_allEnvy_43, w_m_allEnvy_44, xm_3, cl_58, h2, lt_irr, nI_1, i10, Bool.false_eq_true, eq_self, true_or, or_true, if_true, if_false, gv_int, gv_ref, av_some, al_some, un_int, un_ref, un_mk, ok4_0, ok4_1, ok4_2, ok4_3, ok4_4, Kn_some, Kn_none, true_and, and_true]
      exact ih _
    · intro j hj ih2
      have g2 : nI j < nI c := nI_lt hj (by omega)
      rw [w_m_allEnvy_14]
      simp only [w_m_allEnvy_0, w_m_allEnvy_1, w_m_allEnvy_2, w_m_allEnvy_3, w_m_allEnvy_5, w_m_allEnvy_6, w_m_allEnvy_9, w_m_allEnvy_12, w_m_allEnvy_13, w_m_allEnvy_15, w_m_allEnvy_16, w_m_allEnvy_19, w_m_allEnvy_22, w_m_allEnvy_23, w_m_allEnvy_24, w_m_allEnvy_25, w_m_allEnvy_26, w_m_allEnvy_29, w_m_allEnvy_30, w_m_allEnvy_31, w_m_allEnvy_34, w_m_allEnvy_37, w_m_allEnvy_40, w_m_allEnvy_43, w_m_allEnvy_44, xm_3, cl_58, h2, g2, nI_1, e_m_envyOf h (show i < 4 by omega), cl_58, i10, Bool.false_eq_true, eq_self, true_or, or_true, if_true, if_false, gv_int, gv_ref, av_some, al_some, un_int, un_ref, un_mk, ok4_0, ok4_1, ok4_2, ok4_3, ok4_4, Kn_some, Kn_none, true_and, and_true]
      exact ih2
theorem e_m_tears {A B : Nat} {M : Mm} {Q : Po} {K c n : Nat} (h : MD M K c n) : WP 167 0 [.ref 58, mk, mk, mk] [] (shw A B) (0, 0) M Q = Q (some (.int (tearE (wT M) (M 63) (M 65) n c))) (shw A B) M := by
  refine WP.is (fun Q hQ => ?_)
  obtain ⟨h1, h2, h3, h4, h5, h6, h7⟩ := id h
  simp only [w_m_tears_0, w_m_tears_1, w_m_tears_2, w_m_tears_3, w_m_tears_5, w_m_tears_6, w_m_tears_9, w_m_tears_12, w_m_tears_13, w_m_tears_15, w_m_tears_16, w_m_tears_19, w_m_tears_22, w_m_tears_23, w_m_tears_24, w_m_tears_25, w_m_tears_26, w_m_tears_29, w_m_tears_32, w_m_tears_33, w_m_tears_36, w_m_tears_37, w_m_tears_38, w_m_tears_39, w_m_tears_42, w_m_tears_45, w_m_tears_48, w_m_tears_51, w_m_tears_52, xm_3, cl_58, i10, Bool.false_eq_true, eq_self, true_or, or_true, if_true, if_false, gv_int, gv_ref, av_some, al_some, un_int, un_ref, un_mk, ok4_0, ok4_1, ok4_2, ok4_3, ok4_4, Kn_some, Kn_none, true_and, and_true]
  refine for_up (n := c) (P := fun i => ∀ jd, WP 167 4 [.ref 58, .int (lp (fun i s => lp (fun j s => s + (if 0 < ev (wT M) (M 63) (M 65) n i j then 1 else 0)) c s) i 0), .int (nI i), jd] [] (shw A B) (0, 0) M Q) ?_ ?_ mk
  · intro jd
    rw [w_m_tears_4]
    simp only [w_m_tears_0, w_m_tears_1, w_m_tears_2, w_m_tears_3, w_m_tears_5, w_m_tears_6, w_m_tears_9, w_m_tears_12, w_m_tears_13, w_m_tears_15, w_m_tears_16, w_m_tears_19, w_m_tears_22, w_m_tears_23, w_m_tears_24, w_m_tears_25, w_m_tears_26, w_m_tears_29, w_m_tears_32, w_m_tears_33, w_m_tears_36, w_m_tears_37, w_m_tears_38, w_m_tears_39, w_m_tears_42, w_m_tears_45, w_m_tears_48, w_m_tears_51, w_m_tears_52, xm_3, cl_58, h2, lt_irr, i10, Bool.false_eq_true, eq_self, true_or, or_true, if_true, if_false, gv_int, gv_ref, av_some, al_some, un_int, un_ref, un_mk, ok4_0, ok4_1, ok4_2, ok4_3, ok4_4, Kn_some, Kn_none, true_and, and_true]
    exact hQ
  · intro i hi ih jd
    have g1 : nI i < nI c := nI_lt hi (by omega)
    rw [w_m_tears_4]
    simp only [w_m_tears_0, w_m_tears_1, w_m_tears_2, w_m_tears_3, w_m_tears_5, w_m_tears_6, w_m_tears_9, w_m_tears_12, w_m_tears_13, w_m_tears_15, w_m_tears_16, w_m_tears_19, w_m_tears_22, w_m_tears_23, w_m_tears_24, w_m_tears_25, w_m_tears_26, w_m_tears_29, w_m_tears_32, w_m_tears_33, w_m_tears_36, w_m_tears_37, w_m_tears_38, w_m_tears_39, w_m_tears_42, w_m_tears_45, w_m_tears_48, w_m_tears_51, w_m_tears_52, xm_3, cl_58, h2, g1, i10, Bool.false_eq_true, eq_self, true_or, or_true, if_true, if_false, gv_int, gv_ref, av_some, al_some, un_int, un_ref, un_mk, ok4_0, ok4_1, ok4_2, ok4_3, ok4_4, Kn_some, Kn_none, true_and, and_true]
    simp only [lp_s] at ih
    generalize lp (fun i s => lp (fun j s => s + (if 0 < ev (wT M) (M 63) (M 65) n i j then (1 : Int32) else 0)) c s) i 0 = s0 at ih ⊢
    refine for_up (n := c) (P := fun j => WP 167 14 [.ref 58, .int (lp (fun j s => s + (if 0 < ev (wT M) (M 63) (M 65) n i j then (1 : Int32) else 0)) j s0), .int (nI i), .int (nI j)] [] (shw A B) (0, 0) M Q) ?_ ?_
    · rw [w_m_tears_14]
      simp only [w_m_tears_0, w_m_tears_1, w_m_tears_2, w_m_tears_3, w_m_tears_5, w_m_tears_6, w_m_tears_9, w_m_tears_12, w_m_tears_13, w_m_tears_15, w_m_tears_16, w_m_tears_19, w_m_tears_22, w_m_tears_23, w_m_tears_24, w_m_tears_25, w_m_tears_26, w_m_tears_29, w_m_tears_32, w_m_tears_33, w_m_tears_36, w_m_tears_37, w_m_tears_38, w_m_tears_39, w_m_tears_42, w_m_tears_45, w_m_tears_48, w_m_tears_51, w_m_tears_52, xm_3, cl_58, h2, lt_irr, nI_1, i10, Bool.false_eq_true, eq_self, true_or, or_true, if_true, if_false, gv_int, gv_ref, av_some, al_some, un_int, un_ref, un_mk, ok4_0, ok4_1, ok4_2, ok4_3, ok4_4, Kn_some, Kn_none, true_and, and_true]
      exact ih _
    · intro j hj ih2
      have g2 : nI j < nI c := nI_lt hj (by omega)
      rw [w_m_tears_14]
      simp only [w_m_tears_0, w_m_tears_1, w_m_tears_2, w_m_tears_3, w_m_tears_5, w_m_tears_6, w_m_tears_9, w_m_tears_12, w_m_tears_13, w_m_tears_15, w_m_tears_16, w_m_tears_19, w_m_tears_22, w_m_tears_23, w_m_tears_24, w_m_tears_25, w_m_tears_26, w_m_tears_29, w_m_tears_32, w_m_tears_33, w_m_tears_36, w_m_tears_37, w_m_tears_38, w_m_tears_39, w_m_tears_42, w_m_tears_45, w_m_tears_48, w_m_tears_51, w_m_tears_52, xm_3, cl_58, h2, g2, nI_1, e_m_envyOf h (show i < 4 by omega), cl_58, i10, Bool.false_eq_true, eq_self, true_or, or_true, if_true, if_false, gv_int, gv_ref, av_some, al_some, un_int, un_ref, un_mk, ok4_0, ok4_1, ok4_2, ok4_3, ok4_4, Kn_some, Kn_none, true_and, and_true]
      simp only [lp_s] at ih2
      split at ih2
      · rename_i q; rw [if_pos q]; exact ih2
      · rename_i q; rw [if_neg q]; exact ih2
theorem e_m_ill {A B : Nat} {M : Mm} {Q : Po} {K c n : Nat} (h : MD M K c n) (hv : HV (M 65) c) : WP 168 0 [.ref 58, mk, mk] [] (shw A B) (0, 0) M Q = Q (some (.int (illE (M 61) (kN M) (M 65) n))) (shw A B) M := by
  refine WP.is (fun Q hQ => ?_)
  obtain ⟨h1, h2, h3, h4, h5, h6, h7⟩ := id h
  simp only [w_m_ill_0, w_m_ill_1, w_m_ill_2, w_m_ill_3, w_m_ill_5, w_m_ill_6, w_m_ill_9, w_m_ill_12, w_m_ill_13, w_m_ill_14, w_m_ill_17, w_m_ill_18, w_m_ill_19, w_m_ill_22, w_m_ill_23, w_m_ill_26, w_m_ill_27, w_m_ill_30, w_m_ill_31, w_m_ill_32, w_m_ill_33, w_m_ill_34, w_m_ill_37, w_m_ill_38, w_m_ill_39, w_m_ill_42, w_m_ill_45, w_m_ill_46, w_m_ill_47, w_m_ill_50, w_m_ill_51, w_m_ill_52, w_m_ill_53, w_m_ill_56, w_m_ill_57, w_m_ill_58, w_m_ill_59, w_m_ill_62, w_m_ill_65, w_m_ill_66, xm_7, xm_9, al_65, xm_4, al_61, xm_8, al_64, i10, Bool.false_eq_true, eq_self, true_or, or_true, if_true, if_false, gv_int, gv_ref, av_some, al_some, un_int, un_ref, un_mk, ok4_0, ok4_1, ok4_2, ok4_3, ok4_4, Kn_some, Kn_none, true_and, and_true]
  refine for_up (n := n) (P := fun k => WP 168 4 [.ref 58, .int (illE (M 61) (kN M) (M 65) k), .int (nI k)] [] (shw A B) (0, 0) M Q) ?_ ?_
  · rw [w_m_ill_4]
    simp only [w_m_ill_0, w_m_ill_1, w_m_ill_2, w_m_ill_3, w_m_ill_5, w_m_ill_6, w_m_ill_9, w_m_ill_12, w_m_ill_13, w_m_ill_14, w_m_ill_17, w_m_ill_18, w_m_ill_19, w_m_ill_22, w_m_ill_23, w_m_ill_26, w_m_ill_27, w_m_ill_30, w_m_ill_31, w_m_ill_32, w_m_ill_33, w_m_ill_34, w_m_ill_37, w_m_ill_38, w_m_ill_39, w_m_ill_42, w_m_ill_45, w_m_ill_46, w_m_ill_47, w_m_ill_50, w_m_ill_51, w_m_ill_52, w_m_ill_53, w_m_ill_56, w_m_ill_57, w_m_ill_58, w_m_ill_59, w_m_ill_62, w_m_ill_65, w_m_ill_66, xm_7, xm_9, al_65, xm_4, al_61, xm_8, al_64, h3, lt_irr, i10, Bool.false_eq_true, eq_self, true_or, or_true, if_true, if_false, gv_int, gv_ref, av_some, al_some, un_int, un_ref, un_mk, ok4_0, ok4_1, ok4_2, ok4_3, ok4_4, Kn_some, Kn_none, true_and, and_true]
    exact hQ
  · intro k hk ih
    have g1 : nI k < nI n := nI_lt hk (by omega)
    have g2 : vp_in (nI k) 7 := vp_in_nI (by omega) (by decide)
    have g4 := kN_ok h (show k < 7 by omega)
    rw [w_m_ill_4]
    simp only [illE, lp_s] at ih ⊢
    generalize lp (fun t s => s ||| (if M 65 t < 0 then (0 : Int32) else if bt (M 61 (M 65 t).toNatClampNeg) (nI (kN M t)) then (1 : Int32) <<< (M 65 t &&& 31) else 0)) k 0 = s0 at ih ⊢
    simp only [w_m_ill_0, w_m_ill_1, w_m_ill_2, w_m_ill_3, w_m_ill_5, w_m_ill_6, w_m_ill_9, w_m_ill_12, w_m_ill_13, w_m_ill_14, w_m_ill_17, w_m_ill_18, w_m_ill_19, w_m_ill_22, w_m_ill_23, w_m_ill_26, w_m_ill_27, w_m_ill_30, w_m_ill_31, w_m_ill_32, w_m_ill_33, w_m_ill_34, w_m_ill_37, w_m_ill_38, w_m_ill_39, w_m_ill_42, w_m_ill_45, w_m_ill_46, w_m_ill_47, w_m_ill_50, w_m_ill_51, w_m_ill_52, w_m_ill_53, w_m_ill_56, w_m_ill_57, w_m_ill_58, w_m_ill_59, w_m_ill_62, w_m_ill_65, w_m_ill_66, xm_7, xm_9, al_65, xm_4, al_61, xm_8, al_64, h3, g1, g2, nI_clamp (show k < 2 ^ 31 by omega), nI_1, g4.2, e_m_has, i10, Bool.false_eq_true, eq_self, true_or, or_true, if_true, if_false, gv_int, gv_ref, av_some, al_some, un_int, un_ref, un_mk, ok4_0, ok4_1, ok4_2, ok4_3, ok4_4, Kn_some, Kn_none, true_and, and_true]
    by_cases g3 : M 65 k < 0
    · rw [if_pos g3] at ih ⊢; exact ih
    · rw [if_neg g3] at ih ⊢
      have g5 : vp_in (M 65 k) 4 := by
        rcases hv k (by omega) with e | ⟨j, e1, e2⟩
        · rw [e] at g3; exact absurd (by decide) g3
        · rw [e2]; exact vp_in_nI (by omega) (by decide)
      refine ⟨g5, ?_⟩
      cases g6 : bt (M 61 (M 65 k).toNatClampNeg) (nI (kN M k))
      · simp only [g6, Bool.false_eq_true, if_false, if_true] at ih ⊢; exact ih
      · simp only [g6, i10, if_false, if_true] at ih ⊢; exact ih
theorem e_m_costs {A B : Nat} {M : Mm} {Q : Po} {K c n : Nat} (h : MD M K c n) : WP 169 0 [.ref 58, mk, mk] [] (shw A B) (0, 0) M Q = Q (some (.int (costE (M 59) (kN M) n))) (shw A B) M := by
  refine WP.is (fun Q hQ => ?_)
  obtain ⟨h1, h2, h3, h4, h5, h6, h7⟩ := id h
  simp only [w_m_costs_0, w_m_costs_1, w_m_costs_2, w_m_costs_3, w_m_costs_5, w_m_costs_6, w_m_costs_9, w_m_costs_12, w_m_costs_13, w_m_costs_14, w_m_costs_17, w_m_costs_18, w_m_costs_21, w_m_costs_22, w_m_costs_23, w_m_costs_24, w_m_costs_25, w_m_costs_26, w_m_costs_29, w_m_costs_32, w_m_costs_33, xm_7, xm_1, al_59, xm_8, al_64, i10, Bool.false_eq_true, eq_self, true_or, or_true, if_true, if_false, gv_int, gv_ref, av_some, al_some, un_int, un_ref, un_mk, ok4_0, ok4_1, ok4_2, ok4_3, ok4_4, Kn_some, Kn_none, true_and, and_true]
  refine for_up (n := n) (P := fun k => WP 169 4 [.ref 58, .int (costE (M 59) (kN M) k), .int (nI k)] [] (shw A B) (0, 0) M Q) ?_ ?_
  · rw [w_m_costs_4]
    simp only [w_m_costs_0, w_m_costs_1, w_m_costs_2, w_m_costs_3, w_m_costs_5, w_m_costs_6, w_m_costs_9, w_m_costs_12, w_m_costs_13, w_m_costs_14, w_m_costs_17, w_m_costs_18, w_m_costs_21, w_m_costs_22, w_m_costs_23, w_m_costs_24, w_m_costs_25, w_m_costs_26, w_m_costs_29, w_m_costs_32, w_m_costs_33, xm_7, xm_1, al_59, xm_8, al_64, h3, lt_irr, i10, Bool.false_eq_true, eq_self, true_or, or_true, if_true, if_false, gv_int, gv_ref, av_some, al_some, un_int, un_ref, un_mk, ok4_0, ok4_1, ok4_2, ok4_3, ok4_4, Kn_some, Kn_none, true_and, and_true]
    exact hQ
  · intro k hk ih
    have g1 : nI k < nI n := nI_lt hk (by omega)
    have g2 : vp_in (nI k) 7 := vp_in_nI (by omega) (by decide)
    have g4 := kN_ok h (show k < 7 by omega)
    have g5 : vp_in (nI (kN M k)) 5 := vp_in_nI g4.1 (by decide)
    rw [w_m_costs_4]
    simp only [w_m_costs_0, w_m_costs_1, w_m_costs_2, w_m_costs_3, w_m_costs_5, w_m_costs_6, w_m_costs_9, w_m_costs_12, w_m_costs_13, w_m_costs_14, w_m_costs_17, w_m_costs_18, w_m_costs_21, w_m_costs_22, w_m_costs_23, w_m_costs_24, w_m_costs_25, w_m_costs_26, w_m_costs_29, w_m_costs_32, w_m_costs_33, xm_7, xm_1, al_59, xm_8, al_64, h3, g1, g2, nI_clamp (show k < 2 ^ 31 by omega), nI_1, g4.2, g5, nI_clamp (show kN M k < 2 ^ 31 by omega), i10, Bool.false_eq_true, eq_self, true_or, or_true, if_true, if_false, gv_int, gv_ref, av_some, al_some, un_int, un_ref, un_mk, ok4_0, ok4_1, ok4_2, ok4_3, ok4_4, Kn_some, Kn_none, true_and, and_true]
    exact ih
theorem e_m_canSwap {A B : Nat} {M : Mm} {Q : Po} {a b : Nat} (ha : a < 7) (hb : b < 7) : WP 179 0 [.ref 58, .int (nI a), .int (nI b)] [] (shw A B) (0, 0) M Q = if csw (M 65 a) (M 65 b) then Q (some (.int 1)) (shw A B) M else Q (some (.int 0)) (shw A B) M := by
  have g1 : vp_in (nI a) 7 := vp_in_nI ha (by decide)
  have g2 : vp_in (nI b) 7 := vp_in_nI hb (by decide)
  simp only [w_m_canSwap_0, w_m_canSwap_1, w_m_canSwap_4, w_m_canSwap_5, w_m_canSwap_6, w_m_canSwap_9, w_m_canSwap_10, w_m_canSwap_13, w_m_canSwap_14, w_m_canSwap_15, w_m_canSwap_18, w_m_canSwap_19, w_m_canSwap_22, w_m_canSwap_23, w_m_canSwap_24, w_m_canSwap_25, w_m_canSwap_28, w_m_canSwap_29, w_m_canSwap_30, w_m_canSwap_33, w_m_canSwap_34, w_m_canSwap_37, w_m_canSwap_38, xm_9, al_65, g1, g2, nI_clamp (show a < 2 ^ 31 by omega), nI_clamp (show b < 2 ^ 31 by omega), i10, Bool.false_eq_true, eq_self, true_or, or_true, if_true, if_false, gv_int, gv_ref, av_some, al_some, un_int, un_ref, un_mk, ok4_0, ok4_1, ok4_2, ok4_3, ok4_4, Kn_some, Kn_none, true_and, and_true]
  unfold csw
  simp only [decide_eq_true_eq]
  by_cases q1 : M 65 a < 0 <;> by_cases q2 : M 65 b < 0 <;> by_cases q3 : M 65 a = M 65 b <;> simp only [q1, q2, q3, if_true, if_false, not_true_eq_false, not_false_eq_true, true_and, false_and, and_true, and_false]
theorem e_m_gain {A B : Nat} {M : Mm} {Q : Po} {K c n a b i : Nat} (h : MD M K c n) (ha : a < 7) (hb : b < 7) (hi : i < 4) (he : M 65 a = nI i) : WP 181 0 [.ref 58, .int (nI a), .int (nI b), mk] [] (shw A B) (0, 0) M Q = Q (some (.int (wT M i b - wT M i a))) (shw A B) M := by
  have g1 : vp_in (nI a) 7 := vp_in_nI ha (by decide)
  have g2 : vp_in (nI b) 7 := vp_in_nI hb (by decide)
  have g4 := kN_ok h ha
  have g5 := kN_ok h hb
  simp only [w_m_gain_0, w_m_gain_1, w_m_gain_4, w_m_gain_5, w_m_gain_6, w_m_gain_7, w_m_gain_8, w_m_gain_9, w_m_gain_10, w_m_gain_13, w_m_gain_14, w_m_gain_15, w_m_gain_18, w_m_gain_19, w_m_gain_20, w_m_gain_21, w_m_gain_24, w_m_gain_25, w_m_gain_26, w_m_gain_29, w_m_gain_30, xm_9, al_65, xm_8, al_64, cl_58, g1, g2, nI_clamp (show a < 2 ^ 31 by omega), nI_clamp (show b < 2 ^ 31 by omega), he, g4.2, g5.2, e_m_worthOf hi g4.1, e_m_worthOf hi g5.1, cl_58, i10, Bool.false_eq_true, eq_self, true_or, or_true, if_true, if_false, gv_int, gv_ref, av_some, al_some, un_int, un_ref, un_mk, ok4_0, ok4_1, ok4_2, ok4_3, ok4_4, Kn_some, Kn_none, true_and, and_true]
  rfl
theorem e_m_agree {A B : Nat} {M : Mm} {Q : Po} {K c n a b i j : Nat} (h : MD M K c n) (ha : a < 7) (hb : b < 7) (hi : i < 4) (he : M 65 a = nI i) (hj : j < 4) (he2 : M 65 b = nI j) : WP 182 0 [.ref 58, .int (nI a), .int (nI b), mk, mk] [] (shw A B) (0, 0) M Q = if agE (wT M i b - wT M i a) (wT M j a - wT M j b) then Q (some (.int 1)) (shw A B) M else Q (some (.int 0)) (shw A B) M := by
  simp only [w_m_agree_0, w_m_agree_1, w_m_agree_2, w_m_agree_3, w_m_agree_6, w_m_agree_7, w_m_agree_8, w_m_agree_9, w_m_agree_10, w_m_agree_13, w_m_agree_15, w_m_agree_16, w_m_agree_19, w_m_agree_21, w_m_agree_24, w_m_agree_25, w_m_agree_27, w_m_agree_28, w_m_agree_31, w_m_agree_32, w_m_agree_35, w_m_agree_36, cl_58, e_m_gain h ha hb hi he, e_m_gain h hb ha hj he2, cl_58, i10, Bool.false_eq_true, eq_self, true_or, or_true, if_true, if_false, gv_int, gv_ref, av_some, al_some, un_int, un_ref, un_mk, ok4_0, ok4_1, ok4_2, ok4_3, ok4_4, Kn_some, Kn_none, true_and, and_true]
  unfold agE
  simp only [decide_eq_true_eq]
  by_cases q1 : wT M i b - wT M i a < 0 <;> by_cases q2 : wT M j a - wT M j b < 0 <;> by_cases q3 : 0 < wT M i b - wT M i a + (wT M j a - wT M j b) <;> simp only [q1, q2, q3, if_true, if_false, not_true_eq_false, not_false_eq_true, true_and, false_and, and_true, and_false]
theorem e_m_swapNow {A B : Nat} {M : Mm} {Q : Po} {a b : Nat} (ha : a < 7) (hb : b < 7) : WP 180 0 [.ref 58, .int (nI a), .int (nI b), mk] [] (shw A B) (0, 0) M Q = Q none (shw A B) (up (up M 65 a (M 65 b)) 65 b (M 65 a)) := by
  have g1 : vp_in (nI a) 7 := vp_in_nI ha (by decide)
  have g2 : vp_in (nI b) 7 := vp_in_nI hb (by decide)
  simp only [w_m_swapNow_0, w_m_swapNow_1, w_m_swapNow_4, w_m_swapNow_5, w_m_swapNow_6, w_m_swapNow_7, w_m_swapNow_8, w_m_swapNow_11, w_m_swapNow_12, w_m_swapNow_13, w_m_swapNow_16, w_m_swapNow_17, w_m_swapNow_18, w_m_swapNow_19, w_m_swapNow_20, w_m_swapNow_23, w_m_swapNow_24, w_m_swapNow_25, w_m_swapNow_26, xm_9, al_65, g1, g2, nI_clamp (show a < 2 ^ 31 by omega), nI_clamp (show b < 2 ^ 31 by omega), i10, Bool.false_eq_true, eq_self, true_or, or_true, if_true, if_false, gv_int, gv_ref, av_some, al_some, un_int, un_ref, un_mk, ok4_0, ok4_1, ok4_2, ok4_3, ok4_4, Kn_some, Kn_none, true_and, and_true]
theorem e_m_save {A B : Nat} {M : Mm} {Q : Po} : WP 188 0 [.ref 58, mk] [] (shw A B) (0, 0) M Q = Q none (shw A B) (st M 74 (ov (M 65) (M 74) 7)) := by
  refine WP.is (fun Q hQ => ?_)
  simp only [w_m_save_0, w_m_save_1, w_m_save_3, w_m_save_5, w_m_save_8, w_m_save_9, w_m_save_12, w_m_save_13, w_m_save_14, w_m_save_17, w_m_save_18, w_m_save_19, w_m_save_20, w_m_save_23, w_m_save_26, xm_28, al_74, xm_9, al_65, i10, Bool.false_eq_true, eq_self, true_or, or_true, if_true, if_false, gv_int, gv_ref, av_some, al_some, un_int, un_ref, un_mk, ok4_0, ok4_1, ok4_2, ok4_3, ok4_4, Kn_some, Kn_none, true_and, and_true]
  have := for_up (n := 7) (P := fun k => WP 188 2 [.ref 58, .int (nI k)] [] (shw A B) (0, 0) (st M 74 (ov (M 65) (M 74) k)) Q) ?_ ?_
  · rw [ov_0, st_self] at this; exact this
  · rw [w_m_save_2]
    simp only [w_m_save_0, w_m_save_1, w_m_save_3, w_m_save_5, w_m_save_8, w_m_save_9, w_m_save_12, w_m_save_13, w_m_save_14, w_m_save_17, w_m_save_18, w_m_save_19, w_m_save_20, w_m_save_23, w_m_save_26, xm_28, al_74, xm_9, al_65, (show (nI 7 < 7) = False by decide), i10, Bool.false_eq_true, eq_self, true_or, or_true, if_true, if_false, gv_int, gv_ref, av_some, al_some, un_int, un_ref, un_mk, ok4_0, ok4_1, ok4_2, ok4_3, ok4_4, Kn_some, Kn_none, true_and, and_true]
    exact hQ
  · intro k hk ih
    have g1 : (nI k < 7) = True := eq_true (nI_lt hk (by decide))
    have g2 : vp_in (nI k) 7 := vp_in_nI (by omega) (by decide)
    rw [w_m_save_2]
    simp only [w_m_save_0, w_m_save_1, w_m_save_3, w_m_save_5, w_m_save_8, w_m_save_9, w_m_save_12, w_m_save_13, w_m_save_14, w_m_save_17, w_m_save_18, w_m_save_19, w_m_save_20, w_m_save_23, w_m_save_26, xm_28, al_74, xm_9, al_65, g1, g2, nI_clamp (show k < 2 ^ 31 by omega), nI_1, i10, Bool.false_eq_true, eq_self, true_or, or_true, if_true, if_false, gv_int, gv_ref, av_some, al_some, un_int, un_ref, un_mk, ok4_0, ok4_1, ok4_2, ok4_3, ok4_4, Kn_some, Kn_none, true_and, and_true]
    rw [up_st, show st M 74 (ov (M 65) (M 74) k) 65 = M 65 from rfl, ov_s]
    exact ih
theorem e_m_putBack {A B : Nat} {M : Mm} {Q : Po} : WP 189 0 [.ref 58, mk] [] (shw A B) (0, 0) M Q = Q none (shw A B) (st M 65 (ov (M 74) (M 65) 7)) := by
  refine WP.is (fun Q hQ => ?_)
  simp only [w_m_putBack_0, w_m_putBack_1, w_m_putBack_3, w_m_putBack_5, w_m_putBack_8, w_m_putBack_9, w_m_putBack_12, w_m_putBack_13, w_m_putBack_14, w_m_putBack_17, w_m_putBack_18, w_m_putBack_19, w_m_putBack_20, w_m_putBack_23, w_m_putBack_26, xm_9, al_65, xm_28, al_74, i10, Bool.false_eq_true, eq_self, true_or, or_true, if_true, if_false, gv_int, gv_ref, av_some, al_some, un_int, un_ref, un_mk, ok4_0, ok4_1, ok4_2, ok4_3, ok4_4, Kn_some, Kn_none, true_and, and_true]
  have := for_up (n := 7) (P := fun k => WP 189 2 [.ref 58, .int (nI k)] [] (shw A B) (0, 0) (st M 65 (ov (M 74) (M 65) k)) Q) ?_ ?_
  · rw [ov_0, st_self] at this; exact this
  · rw [w_m_putBack_2]
    simp only [w_m_putBack_0, w_m_putBack_1, w_m_putBack_3, w_m_putBack_5, w_m_putBack_8, w_m_putBack_9, w_m_putBack_12, w_m_putBack_13, w_m_putBack_14, w_m_putBack_17, w_m_putBack_18, w_m_putBack_19, w_m_putBack_20, w_m_putBack_23, w_m_putBack_26, xm_9, al_65, xm_28, al_74, (show (nI 7 < 7) = False by decide), i10, Bool.false_eq_true, eq_self, true_or, or_true, if_true, if_false, gv_int, gv_ref, av_some, al_some, un_int, un_ref, un_mk, ok4_0, ok4_1, ok4_2, ok4_3, ok4_4, Kn_some, Kn_none, true_and, and_true]
    exact hQ
  · intro k hk ih
    have g1 : (nI k < 7) = True := eq_true (nI_lt hk (by decide))
    have g2 : vp_in (nI k) 7 := vp_in_nI (by omega) (by decide)
    rw [w_m_putBack_2]
    simp only [w_m_putBack_0, w_m_putBack_1, w_m_putBack_3, w_m_putBack_5, w_m_putBack_8, w_m_putBack_9, w_m_putBack_12, w_m_putBack_13, w_m_putBack_14, w_m_putBack_17, w_m_putBack_18, w_m_putBack_19, w_m_putBack_20, w_m_putBack_23, w_m_putBack_26, xm_9, al_65, xm_28, al_74, g1, g2, nI_clamp (show k < 2 ^ 31 by omega), nI_1, i10, Bool.false_eq_true, eq_self, true_or, or_true, if_true, if_false, gv_int, gv_ref, av_some, al_some, un_int, un_ref, un_mk, ok4_0, ok4_1, ok4_2, ok4_3, ok4_4, Kn_some, Kn_none, true_and, and_true]
    rw [up_st, show st M 65 (ov (M 74) (M 65) k) 74 = M 74 from rfl, ov_s]
    exact ih
