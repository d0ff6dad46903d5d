/-! both answer alike: more that is read -/
theorem inb_r {x k : Int32} (n : Nat) (hk : k.toInt = n) : inb x (n + 1) = decide (¬ x < 0 ∧ ¬ k < x) := by
  have e0 : (x < 0) ↔ x.toInt < 0 := by rw [Int32.lt_iff_toInt_lt, show (0 : Int32).toInt = 0 from rfl]
  have e1 : (k < x) ↔ (n : Int) < x.toInt := by rw [Int32.lt_iff_toInt_lt, hk]
  unfold inb
  rw [decide_eq_decide, e0, e1]
  omega
theorem j_kind {A B : Nat} {M : Mm} {x y : Int32} (hj : JJ M A B) : WP 109 0 [.ref 0, .int x, .int y] [] (shw A B) (0, 0) M (JQ 171 [.ref 58, .int x, .int y]) := by
  obtain ⟨K, C, N, h⟩ := id hj
  obtain ⟨h0, h1, h2, h3, h4, h5, h6, h7, h8, h9, h10⟩ := id h
  have hp := h0.pp
  obtain ⟨c1, c2, c3, c4, c5, c6, c7, c8⟩ := id h1
  obtain ⟨d1, d2, d3, d4⟩ := id h2
  obtain ⟨⟨m1, m2, m3⟩, m4, m5, m6⟩ := id c2.1
  have hv : HV (M 4) C := by rw [d1]; exact d2
  have rd := fun (Q : Po) => e_m_kind (A := A) (B := B) (M := M) (Q := Q) (k := x) (what := y) c1
  cases hk : inb x K
  · simp only [w_c_kind_0, w_c_kind_1, w_c_kind_4, w_c_kind_5, w_c_kind_8, w_c_kind_11, w_c_kind_13, w_c_kind_14, w_c_kind_15, w_c_kind_40, w_c_kind_41, w_c_kind_44, w_c_kind_47, w_c_kind_48, w_c_kind_49, w_c_kind_50, w_c_kind_51, w_c_kind_54, w_c_kind_57, w_c_kind_58, w_c_kind_59, w_c_kind_60, w_c_kind_62, xc_8, e_p_hasKind hp c2.1, hk, cl_0, cl_1, cl_3, cl_5, cl_7, cl_12, cl_15, cl_21, cl_29, zpp hp, i10, Bool.false_eq_true, eq_self, true_or, or_true, if_true, if_false, gv_int, gv_ref, av_some, al_some, un_int, un_ref, un_mk, ok4_0, ok4_1, ok4_2, ok4_3, ok4_4, Kn_some, Kn_none, true_and, and_true]
    refine JQ.mk ?_
    rw [rd, hk]
    exact ⟨rfl, rfl, hj⟩
  · obtain ⟨j, j1, rfl⟩ := inb_of hk (by omega)
    have g : vp_in (nI j) 5 := vp_in_nI (by omega) (by decide)
    rw [nI_clamp (show j < 2 ^ 31 by omega)] at rd
    by_cases q0 : y = 0
    · simp only [w_c_kind_0, w_c_kind_1, w_c_kind_4, w_c_kind_5, w_c_kind_8, w_c_kind_11, w_c_kind_13, w_c_kind_14, w_c_kind_15, w_c_kind_40, w_c_kind_41, w_c_kind_44, w_c_kind_47, w_c_kind_48, w_c_kind_49, w_c_kind_50, w_c_kind_51, w_c_kind_54, w_c_kind_57, w_c_kind_58, w_c_kind_59, w_c_kind_60, w_c_kind_62, xc_8, e_p_hasKind hp c2.1, hk, cl_0, cl_1, cl_3, cl_5, cl_7, cl_12, cl_15, cl_21, cl_29, zpp hp, eq_true q0, xpp_4 hp, ypp_1 hp, g, nI_clamp (show j < 2 ^ 31 by omega), (c3 j j1).1, i10, Bool.false_eq_true, eq_self, true_or, or_true, if_true, if_false, gv_int, gv_ref, av_some, al_some, un_int, un_ref, un_mk, ok4_0, ok4_1, ok4_2, ok4_3, ok4_4, Kn_some, Kn_none, true_and, and_true]
      refine JQ.mk ?_
      rw [rd, hk, if_pos rfl, if_pos q0]
      exact ⟨rfl, rfl, hj⟩
    · by_cases q1 : y = 1
      · simp only [w_c_kind_0, w_c_kind_1, w_c_kind_4, w_c_kind_5, w_c_kind_8, w_c_kind_11, w_c_kind_13, w_c_kind_14, w_c_kind_15, w_c_kind_40, w_c_kind_41, w_c_kind_44, w_c_kind_47, w_c_kind_48, w_c_kind_49, w_c_kind_50, w_c_kind_51, w_c_kind_54, w_c_kind_57, w_c_kind_58, w_c_kind_59, w_c_kind_60, w_c_kind_62, xc_8, e_p_hasKind hp c2.1, hk, cl_0, cl_1, cl_3, cl_5, cl_7, cl_12, cl_15, cl_21, cl_29, zpp hp, eq_false q0, eq_true q1, xpp_5 hp, ypp_2 hp, g, nI_clamp (show j < 2 ^ 31 by omega), (c3 j j1).2, i10, Bool.false_eq_true, eq_self, true_or, or_true, if_true, if_false, gv_int, gv_ref, av_some, al_some, un_int, un_ref, un_mk, ok4_0, ok4_1, ok4_2, ok4_3, ok4_4, Kn_some, Kn_none, true_and, and_true]
        refine JQ.mk ?_
        rw [rd, hk, if_pos rfl, if_neg q0, if_pos q1]
        exact ⟨rfl, rfl, hj⟩
      · simp only [w_c_kind_0, w_c_kind_1, w_c_kind_4, w_c_kind_5, w_c_kind_8, w_c_kind_11, w_c_kind_13, w_c_kind_14, w_c_kind_15, w_c_kind_40, w_c_kind_41, w_c_kind_44, w_c_kind_47, w_c_kind_48, w_c_kind_49, w_c_kind_50, w_c_kind_51, w_c_kind_54, w_c_kind_57, w_c_kind_58, w_c_kind_59, w_c_kind_60, w_c_kind_62, xc_8, e_p_hasKind hp c2.1, hk, cl_0, cl_1, cl_3, cl_5, cl_7, cl_12, cl_15, cl_21, cl_29, zpp hp, eq_false q0, eq_false q1, i10, Bool.false_eq_true, eq_self, true_or, or_true, if_true, if_false, gv_int, gv_ref, av_some, al_some, un_int, un_ref, un_mk, ok4_0, ok4_1, ok4_2, ok4_3, ok4_4, Kn_some, Kn_none, true_and, and_true]
        refine JQ.mk ?_
        rw [rd, hk, if_pos rfl, if_neg q0, if_neg q1]
        exact ⟨rfl, rfl, hj⟩
theorem j_child {A B : Nat} {M : Mm} {x y : Int32} (hj : JJ M A B) : WP 110 0 [.ref 0, .int x, .int y] [] (shw A B) (0, 0) M (JQ 172 [.ref 58, .int x, .int y]) := by
  obtain ⟨K, C, N, h⟩ := id hj
  obtain ⟨h0, h1, h2, h3, h4, h5, h6, h7, h8, h9, h10⟩ := id h
  have hp := h0.pp
  obtain ⟨c1, c2, c3, c4, c5, c6, c7, c8⟩ := id h1
  obtain ⟨d1, d2, d3, d4⟩ := id h2
  obtain ⟨⟨m1, m2, m3⟩, m4, m5, m6⟩ := id c2.1
  have hv : HV (M 4) C := by rw [d1]; exact d2
  have rd := fun (Q : Po) => e_m_child (A := A) (B := B) (M := M) (Q := Q) (k := x) (what := y) c1
  cases hk : inb x C
  · simp only [w_c_child_0, w_c_child_1, w_c_child_4, w_c_child_5, w_c_child_8, w_c_child_11, w_c_child_13, w_c_child_14, w_c_child_15, w_c_child_44, w_c_child_45, w_c_child_48, w_c_child_51, w_c_child_52, w_c_child_53, w_c_child_54, w_c_child_55, w_c_child_58, w_c_child_59, w_c_child_60, w_c_child_63, w_c_child_66, w_c_child_69, w_c_child_70, w_c_child_71, w_c_child_74, w_c_child_75, w_c_child_76, w_c_child_79, w_c_child_80, w_c_child_81, w_c_child_84, w_c_child_87, w_c_child_88, w_c_child_89, w_c_child_90, w_c_child_92, xc_8, xc_1, cl_0, e_p_hasChild hp c2.1, hk, cl_0, cl_1, cl_3, cl_5, cl_7, cl_12, cl_15, cl_21, cl_29, zpp hp, i10, Bool.false_eq_true, eq_self, true_or, or_true, if_true, if_false, gv_int, gv_ref, av_some, al_some, un_int, un_ref, un_mk, ok4_0, ok4_1, ok4_2, ok4_3, ok4_4, Kn_some, Kn_none, true_and, and_true]
    refine JQ.mk ?_
    rw [rd, hk]
    exact ⟨rfl, rfl, hj⟩
  · obtain ⟨j, j1, rfl⟩ := inb_of hk (by omega)
    have g : vp_in (nI j) 4 := vp_in_nI (by omega) (by decide)
    rw [nI_clamp (show j < 2 ^ 31 by omega)] at rd
    by_cases q0 : y = 0
    · simp only [w_c_child_0, w_c_child_1, w_c_child_4, w_c_child_5, w_c_child_8, w_c_child_11, w_c_child_13, w_c_child_14, w_c_child_15, w_c_child_44, w_c_child_45, w_c_child_48, w_c_child_51, w_c_child_52, w_c_child_53, w_c_child_54, w_c_child_55, w_c_child_58, w_c_child_59, w_c_child_60, w_c_child_63, w_c_child_66, w_c_child_69, w_c_child_70, w_c_child_71, w_c_child_74, w_c_child_75, w_c_child_76, w_c_child_79, w_c_child_80, w_c_child_81, w_c_child_84, w_c_child_87, w_c_child_88, w_c_child_89, w_c_child_90, w_c_child_92, xc_8, xc_1, cl_0, e_p_hasChild hp c2.1, hk, cl_0, cl_1, cl_3, cl_5, cl_7, cl_12, cl_15, cl_21, cl_29, zpp hp, eq_true q0, xpp_6 hp, ypp_3 hp, g, nI_clamp (show j < 2 ^ 31 by omega), c4 j j1, i10, Bool.false_eq_true, eq_self, true_or, or_true, if_true, if_false, gv_int, gv_ref, av_some, al_some, un_int, un_ref, un_mk, ok4_0, ok4_1, ok4_2, ok4_3, ok4_4, Kn_some, Kn_none, true_and, and_true]
      refine JQ.mk ?_
      rw [rd, hk, if_pos rfl, if_pos q0]
      exact ⟨rfl, rfl, hj⟩
    by_cases q1 : y = 1
    · simp only [w_c_child_0, w_c_child_1, w_c_child_4, w_c_child_5, w_c_child_8, w_c_child_11, w_c_child_13, w_c_child_14, w_c_child_15, w_c_child_44, w_c_child_45, w_c_child_48, w_c_child_51, w_c_child_52, w_c_child_53, w_c_child_54, w_c_child_55, w_c_child_58, w_c_child_59, w_c_child_60, w_c_child_63, w_c_child_66, w_c_child_69, w_c_child_70, w_c_child_71, w_c_child_74, w_c_child_75, w_c_child_76, w_c_child_79, w_c_child_80, w_c_child_81, w_c_child_84, w_c_child_87, w_c_child_88, w_c_child_89, w_c_child_90, w_c_child_92, xc_8, xc_1, cl_0, e_p_hasChild hp c2.1, hk, cl_0, cl_1, cl_3, cl_5, cl_7, cl_12, cl_15, cl_21, cl_29, zpp hp, eq_false q0, eq_true q1, xpp_2 hp, m3, e_h_bagOf isHH_3 m6, show (3 + 1 : Nat) = 4 from rfl, d1, show ((1 : Int32) = 0) = False by decide, i10, Bool.false_eq_true, eq_self, true_or, or_true, if_true, if_false, gv_int, gv_ref, av_some, al_some, un_int, un_ref, un_mk, ok4_0, ok4_1, ok4_2, ok4_3, ok4_4, Kn_some, Kn_none, true_and, and_true]
      refine JQ.mk ?_
      rw [rd, hk, if_pos rfl, if_neg q0, if_pos q1]
      exact ⟨rfl, rfl, hj⟩
    by_cases q2 : y = 2
    · simp only [w_c_child_0, w_c_child_1, w_c_child_4, w_c_child_5, w_c_child_8, w_c_child_11, w_c_child_13, w_c_child_14, w_c_child_15, w_c_child_44, w_c_child_45, w_c_child_48, w_c_child_51, w_c_child_52, w_c_child_53, w_c_child_54, w_c_child_55, w_c_child_58, w_c_child_59, w_c_child_60, w_c_child_63, w_c_child_66, w_c_child_69, w_c_child_70, w_c_child_71, w_c_child_74, w_c_child_75, w_c_child_76, w_c_child_79, w_c_child_80, w_c_child_81, w_c_child_84, w_c_child_87, w_c_child_88, w_c_child_89, w_c_child_90, w_c_child_92, xc_8, xc_1, cl_0, e_p_hasChild hp c2.1, hk, cl_0, cl_1, cl_3, cl_5, cl_7, cl_12, cl_15, cl_21, cl_29, zpp hp, q2, show ((2 : Int32) = 0) = False by decide, show ((2 : Int32) = 1) = False by decide, i10, Bool.false_eq_true, eq_self, true_or, or_true, if_true, if_false, gv_int, gv_ref, av_some, al_some, un_int, un_ref, un_mk, ok4_0, ok4_1, ok4_2, ok4_3, ok4_4, Kn_some, Kn_none, true_and, and_true]
      refine c_worthsNow hp c2 hv (fun f hw => ?_)
      simp only [w_c_child_0, w_c_child_1, w_c_child_4, w_c_child_5, w_c_child_8, w_c_child_11, w_c_child_13, w_c_child_14, w_c_child_15, w_c_child_44, w_c_child_45, w_c_child_48, w_c_child_51, w_c_child_52, w_c_child_53, w_c_child_54, w_c_child_55, w_c_child_58, w_c_child_59, w_c_child_60, w_c_child_63, w_c_child_66, w_c_child_69, w_c_child_70, w_c_child_71, w_c_child_74, w_c_child_75, w_c_child_76, w_c_child_79, w_c_child_80, w_c_child_81, w_c_child_84, w_c_child_87, w_c_child_88, w_c_child_89, w_c_child_90, w_c_child_92, xc_8, xc_1, cl_0, e_v_of isVV_5 (show j < 4 by omega) (show j < 4 by omega), hw j j j1 j1, cl_0, cl_1, cl_3, cl_5, cl_7, cl_12, cl_15, cl_21, cl_29, zpp hp, i10, Bool.false_eq_true, eq_self, true_or, or_true, if_true, if_false, gv_int, gv_ref, av_some, al_some, un_int, un_ref, un_mk, ok4_0, ok4_1, ok4_2, ok4_3, ok4_4, Kn_some, Kn_none, true_and, and_true]
      refine JQ.mk ?_
      rw [e_m_child (h.s6 f).2.1.1, hk, if_pos rfl, if_neg (by decide), if_neg (by decide), if_pos rfl]
      refine ⟨?_, rfl, K, C, N, h.s6 f⟩
      rw [d1, nI_clamp (show j < 2 ^ 31 by omega)]
      rfl
    by_cases q3 : y = 3
    · simp only [w_c_child_0, w_c_child_1, w_c_child_4, w_c_child_5, w_c_child_8, w_c_child_11, w_c_child_13, w_c_child_14, w_c_child_15, w_c_child_44, w_c_child_45, w_c_child_48, w_c_child_51, w_c_child_52, w_c_child_53, w_c_child_54, w_c_child_55, w_c_child_58, w_c_child_59, w_c_child_60, w_c_child_63, w_c_child_66, w_c_child_69, w_c_child_70, w_c_child_71, w_c_child_74, w_c_child_75, w_c_child_76, w_c_child_79, w_c_child_80, w_c_child_81, w_c_child_84, w_c_child_87, w_c_child_88, w_c_child_89, w_c_child_90, w_c_child_92, xc_8, xc_1, cl_0, e_p_hasChild hp c2.1, hk, cl_0, cl_1, cl_3, cl_5, cl_7, cl_12, cl_15, cl_21, cl_29, zpp hp, eq_false q0, eq_false q1, eq_false q2, eq_true q3, xpp_7 hp, ypp_4 hp, g, nI_clamp (show j < 2 ^ 31 by omega), c2.2.2.2.1 j j1, show ((3 : Int32) = 0) = False by decide, show ((3 : Int32) = 1) = False by decide, show ((3 : Int32) = 2) = False by decide, i10, Bool.false_eq_true, eq_self, true_or, or_true, if_true, if_false, gv_int, gv_ref, av_some, al_some, un_int, un_ref, un_mk, ok4_0, ok4_1, ok4_2, ok4_3, ok4_4, Kn_some, Kn_none, true_and, and_true]
      refine JQ.mk ?_
      rw [rd, hk, if_pos rfl, if_neg q0, if_neg q1, if_neg q2, if_pos q3]
      exact ⟨rfl, rfl, hj⟩
    · simp only [w_c_child_0, w_c_child_1, w_c_child_4, w_c_child_5, w_c_child_8, w_c_child_11, w_c_child_13, w_c_child_14, w_c_child_15, w_c_child_44, w_c_child_45, w_c_child_48, w_c_child_51, w_c_child_52, w_c_child_53, w_c_child_54, w_c_child_55, w_c_child_58, w_c_child_59, w_c_child_60, w_c_child_63, w_c_child_66, w_c_child_69, w_c_child_70, w_c_child_71, w_c_child_74, w_c_child_75, w_c_child_76, w_c_child_79, w_c_child_80, w_c_child_81, w_c_child_84, w_c_child_87, w_c_child_88, w_c_child_89, w_c_child_90, w_c_child_92, xc_8, xc_1, cl_0, e_p_hasChild hp c2.1, hk, cl_0, cl_1, cl_3, cl_5, cl_7, cl_12, cl_15, cl_21, cl_29, zpp hp, eq_false q0, eq_false q1, eq_false q2, eq_false q3, i10, Bool.false_eq_true, eq_self, true_or, or_true, if_true, if_false, gv_int, gv_ref, av_some, al_some, un_int, un_ref, un_mk, ok4_0, ok4_1, ok4_2, ok4_3, ok4_4, Kn_some, Kn_none, true_and, and_true]
      refine JQ.mk ?_
      rw [rd, hk, if_pos rfl, if_neg q0, if_neg q1, if_neg q2, if_neg q3]
      exact ⟨rfl, rfl, hj⟩
theorem j_gives {A B : Nat} {M : Mm} {x y : Int32} (hj : JJ M A B) : WP 111 0 [.ref 0, .int x, .int y] [] (shw A B) (0, 0) M (JQ 173 [.ref 58, .int x, .int y]) := by
  obtain ⟨K, C, N, h⟩ := id hj
  obtain ⟨h0, h1, h2, h3, h4, h5, h6, h7, h8, h9, h10⟩ := id h
  have hp := h0.pp
  obtain ⟨c1, c2, c3, c4, c5, c6, c7, c8⟩ := id h1
  obtain ⟨d1, d2, d3, d4⟩ := id h2
  obtain ⟨⟨m1, m2, m3⟩, m4, m5, m6⟩ := id c2.1
  have hv : HV (M 4) C := by rw [d1]; exact d2
  have rd := fun (Q : Po) => e_m_gives (A := A) (B := B) (M := M) (Q := Q) (k := x) (q := y) c1
  cases hk : inb x C
  · simp only [w_c_gives_0, w_c_gives_1, w_c_gives_4, w_c_gives_5, w_c_gives_8, w_c_gives_11, w_c_gives_12, w_c_gives_15, w_c_gives_16, w_c_gives_19, w_c_gives_22, w_c_gives_24, w_c_gives_25, w_c_gives_26, w_c_gives_29, w_c_gives_30, w_c_gives_31, w_c_gives_34, xc_8, e_p_hasChild hp c2.1, hk, cl_0, cl_1, cl_3, cl_5, cl_7, cl_12, cl_15, cl_21, cl_29, zpp hp, i10, Bool.false_eq_true, eq_self, true_or, or_true, if_true, if_false, gv_int, gv_ref, av_some, al_some, un_int, un_ref, un_mk, ok4_0, ok4_1, ok4_2, ok4_3, ok4_4, Kn_some, Kn_none, true_and, and_true]
    refine JQ.mk ?_
    rw [rd, hk]
    exact ⟨rfl, rfl, hj⟩
  · cases hy : inb y K
    · simp only [w_c_gives_0, w_c_gives_1, w_c_gives_4, w_c_gives_5, w_c_gives_8, w_c_gives_11, w_c_gives_12, w_c_gives_15, w_c_gives_16, w_c_gives_19, w_c_gives_22, w_c_gives_24, w_c_gives_25, w_c_gives_26, w_c_gives_29, w_c_gives_30, w_c_gives_31, w_c_gives_34, xc_8, e_p_hasChild hp c2.1, e_p_hasKind hp c2.1, hk, hy, cl_0, cl_1, cl_3, cl_5, cl_7, cl_12, cl_15, cl_21, cl_29, zpp hp, i10, Bool.false_eq_true, eq_self, true_or, or_true, if_true, if_false, gv_int, gv_ref, av_some, al_some, un_int, un_ref, un_mk, ok4_0, ok4_1, ok4_2, ok4_3, ok4_4, Kn_some, Kn_none, true_and, and_true]
      refine JQ.mk ?_
      rw [rd, hk, hy]
      exact ⟨rfl, rfl, hj⟩
    · obtain ⟨i, i1, rfl⟩ := inb_of hk (by omega)
      obtain ⟨j, j1, rfl⟩ := inb_of hy (by omega)
      simp only [w_c_gives_0, w_c_gives_1, w_c_gives_4, w_c_gives_5, w_c_gives_8, w_c_gives_11, w_c_gives_12, w_c_gives_15, w_c_gives_16, w_c_gives_19, w_c_gives_22, w_c_gives_24, w_c_gives_25, w_c_gives_26, w_c_gives_29, w_c_gives_30, w_c_gives_31, w_c_gives_34, xc_8, e_p_hasChild hp c2.1, e_p_hasKind hp c2.1, hk, hy, cl_0, cl_1, cl_3, cl_5, cl_7, cl_12, cl_15, cl_21, cl_29, zpp hp, e_p_priceOf hp (show i < 4 by omega) (show j < 5 by omega), (c5 i j i1 j1).1, i10, Bool.false_eq_true, eq_self, true_or, or_true, if_true, if_false, gv_int, gv_ref, av_some, al_some, un_int, un_ref, un_mk, ok4_0, ok4_1, ok4_2, ok4_3, ok4_4, Kn_some, Kn_none, true_and, and_true]
      refine JQ.mk ?_
      rw [rd, hk, hy]
      exact ⟨by rw [nI_clamp (show i < 2 ^ 31 by omega), nI_clamp (show j < 2 ^ 31 by omega)], rfl, hj⟩
theorem j_thing {A B : Nat} {M : Mm} {x y : Int32} (hj : JJ M A B) : WP 112 0 [.ref 0, .int x, .int y] [] (shw A B) (0, 0) M (JQ 174 [.ref 58, .int x, .int y]) := by
  obtain ⟨K, C, N, h⟩ := id hj
  obtain ⟨h0, h1, h2, h3, h4, h5, h6, h7, h8, h9, h10⟩ := id h
  have hp := h0.pp
  obtain ⟨c1, c2, c3, c4, c5, c6, c7, c8⟩ := id h1
  obtain ⟨d1, d2, d3, d4⟩ := id h2
  obtain ⟨⟨m1, m2, m3⟩, m4, m5, m6⟩ := id c2.1
  have hv : HV (M 4) C := by rw [d1]; exact d2
  have rd := fun (Q : Po) => e_m_thing (A := A) (B := B) (M := M) (Q := Q) (t := x) (what := y) c1
  cases hk : inb x N
  · simp only [w_c_thing_0, w_c_thing_1, w_c_thing_4, w_c_thing_5, w_c_thing_8, w_c_thing_11, w_c_thing_13, w_c_thing_14, w_c_thing_15, w_c_thing_40, w_c_thing_41, w_c_thing_44, w_c_thing_47, w_c_thing_48, w_c_thing_49, w_c_thing_50, w_c_thing_51, w_c_thing_54, w_c_thing_55, w_c_thing_58, w_c_thing_59, w_c_thing_61, xc_8, xc_1, e_p_hasThing hp c2.1, hk, cl_0, cl_1, cl_3, cl_5, cl_7, cl_12, cl_15, cl_21, cl_29, zpp hp, i10, Bool.false_eq_true, eq_self, true_or, or_true, if_true, if_false, gv_int, gv_ref, av_some, al_some, un_int, un_ref, un_mk, ok4_0, ok4_1, ok4_2, ok4_3, ok4_4, Kn_some, Kn_none, true_and, and_true]
    refine JQ.mk ?_
    rw [rd, hk]
    exact ⟨rfl, rfl, hj⟩
  · obtain ⟨j, j1, rfl⟩ := inb_of hk (by omega)
    have g : vp_in (nI j) 7 := vp_in_nI (by omega) (by decide)
    rw [nI_clamp (show j < 2 ^ 31 by omega)] at rd
    by_cases q0 : y = 0
    · simp only [w_c_thing_0, w_c_thing_1, w_c_thing_4, w_c_thing_5, w_c_thing_8, w_c_thing_11, w_c_thing_13, w_c_thing_14, w_c_thing_15, w_c_thing_40, w_c_thing_41, w_c_thing_44, w_c_thing_47, w_c_thing_48, w_c_thing_49, w_c_thing_50, w_c_thing_51, w_c_thing_54, w_c_thing_55, w_c_thing_58, w_c_thing_59, w_c_thing_61, xc_8, xc_1, e_p_hasThing hp c2.1, hk, cl_0, cl_1, cl_3, cl_5, cl_7, cl_12, cl_15, cl_21, cl_29, zpp hp, eq_true q0, xpp_12 hp, ypp_9 hp, g, nI_clamp (show j < 2 ^ 31 by omega), (c2.2.1 j j1).1, i10, Bool.false_eq_true, eq_self, true_or, or_true, if_true, if_false, gv_int, gv_ref, av_some, al_some, un_int, un_ref, un_mk, ok4_0, ok4_1, ok4_2, ok4_3, ok4_4, Kn_some, Kn_none, true_and, and_true]
      refine JQ.mk ?_
      rw [rd, hk, if_pos rfl, if_pos q0]
      exact ⟨by rw [(kN_ok c1 (show j < 7 by omega)).2], rfl, hj⟩
    · by_cases q1 : y = 1
      · simp only [w_c_thing_0, w_c_thing_1, w_c_thing_4, w_c_thing_5, w_c_thing_8, w_c_thing_11, w_c_thing_13, w_c_thing_14, w_c_thing_15, w_c_thing_40, w_c_thing_41, w_c_thing_44, w_c_thing_47, w_c_thing_48, w_c_thing_49, w_c_thing_50, w_c_thing_51, w_c_thing_54, w_c_thing_55, w_c_thing_58, w_c_thing_59, w_c_thing_61, xc_8, xc_1, e_p_hasThing hp c2.1, hk, cl_0, cl_1, cl_3, cl_5, cl_7, cl_12, cl_15, cl_21, cl_29, zpp hp, eq_false q0, eq_true q1, e_h_holderOf isHH_3 (show j < 7 by omega), show (3 + 1 : Nat) = 4 from rfl, d1, i10, Bool.false_eq_true, eq_self, true_or, or_true, if_true, if_false, gv_int, gv_ref, av_some, al_some, un_int, un_ref, un_mk, ok4_0, ok4_1, ok4_2, ok4_3, ok4_4, Kn_some, Kn_none, true_and, and_true]
        refine JQ.mk ?_
        rw [rd, hk, if_pos rfl, if_neg q0, if_pos q1]
        exact ⟨rfl, rfl, hj⟩
      · simp only [w_c_thing_0, w_c_thing_1, w_c_thing_4, w_c_thing_5, w_c_thing_8, w_c_thing_11, w_c_thing_13, w_c_thing_14, w_c_thing_15, w_c_thing_40, w_c_thing_41, w_c_thing_44, w_c_thing_47, w_c_thing_48, w_c_thing_49, w_c_thing_50, w_c_thing_51, w_c_thing_54, w_c_thing_55, w_c_thing_58, w_c_thing_59, w_c_thing_61, xc_8, xc_1, e_p_hasThing hp c2.1, hk, cl_0, cl_1, cl_3, cl_5, cl_7, cl_12, cl_15, cl_21, cl_29, zpp hp, eq_false q0, eq_false q1, i10, Bool.false_eq_true, eq_self, true_or, or_true, if_true, if_false, gv_int, gv_ref, av_some, al_some, un_int, un_ref, un_mk, ok4_0, ok4_1, ok4_2, ok4_3, ok4_4, Kn_some, Kn_none, true_and, and_true]
        refine JQ.mk ?_
        rw [rd, hk, if_pos rfl, if_neg q0, if_neg q1]
        exact ⟨rfl, rfl, hj⟩
theorem j_envy {A B : Nat} {M : Mm} {x y : Int32} (hj : JJ M A B) : WP 113 0 [.ref 0, .int x, .int y] [] (shw A B) (0, 0) M (JQ 175 [.ref 58, .int x, .int y]) := by
  obtain ⟨K, C, N, h⟩ := id hj
  obtain ⟨h0, h1, h2, h3, h4, h5, h6, h7, h8, h9, h10⟩ := id h
  have hp := h0.pp
  obtain ⟨c1, c2, c3, c4, c5, c6, c7, c8⟩ := id h1
  obtain ⟨d1, d2, d3, d4⟩ := id h2
  obtain ⟨⟨m1, m2, m3⟩, m4, m5, m6⟩ := id c2.1
  have hv : HV (M 4) C := by rw [d1]; exact d2
  by_cases q : inb x C = true ∧ inb y C = true ∧ ¬ x = y
  · simp only [w_c_envy_0, w_c_envy_1, w_c_envy_4, w_c_envy_5, w_c_envy_6, w_c_envy_9, w_c_envy_12, w_c_envy_14, w_c_envy_15, w_c_envy_16, w_c_envy_19, w_c_envy_20, w_c_envy_23, w_c_envy_24, w_c_envy_25, w_c_envy_28, xc_8, cl_0, e_p_hasPair hp c2.1, eq_true q, cl_0, cl_1, cl_3, cl_5, cl_7, cl_12, cl_15, cl_21, cl_29, zpp hp, i10, Bool.false_eq_true, eq_self, true_or, or_true, if_true, if_false, gv_int, gv_ref, av_some, al_some, un_int, un_ref, un_mk, ok4_0, ok4_1, ok4_2, ok4_3, ok4_4, Kn_some, Kn_none, true_and, and_true]
    obtain ⟨i, i1, rfl⟩ := inb_of q.1 (by omega)
    obtain ⟨j, j1, rfl⟩ := inb_of q.2.1 (by omega)
    refine c_worthsNow hp c2 hv (fun f hw => ?_)
    have eg : (if bt (st M 6 f (A + 4) i) (nI j) then (if 0 < ldE (st M 6 f (5 + 1)) i j then ldE (st M 6 f (5 + 1)) i j else 0) else 0) = ev (wT M) (M 63) (M 65) N i j := by
      unfold ldE
      rw [hw i j i1 j1, hw i i i1 i1, (h.s6 f).2.1.2.1.2.2.2.1 i i1, d1]
      rfl
    simp only [w_c_envy_0, w_c_envy_1, w_c_envy_4, w_c_envy_5, w_c_envy_6, w_c_envy_9, w_c_envy_12, w_c_envy_14, w_c_envy_15, w_c_envy_16, w_c_envy_19, w_c_envy_20, w_c_envy_23, w_c_envy_24, w_c_envy_25, w_c_envy_28, xc_8, cl_0, e_v_grudge isVV_5 hp (h.s6 f).2.1.2.1.1 i1 j1, eg, cl_0, cl_1, cl_3, cl_5, cl_7, cl_12, cl_15, cl_21, cl_29, zpp hp, i10, Bool.false_eq_true, eq_self, true_or, or_true, if_true, if_false, gv_int, gv_ref, av_some, al_some, un_int, un_ref, un_mk, ok4_0, ok4_1, ok4_2, ok4_3, ok4_4, Kn_some, Kn_none, true_and, and_true]
    refine JQ.mk ?_
    rw [e_m_envy (h.s6 f).2.1.1, if_pos q, nI_clamp (show i < 2 ^ 31 by omega), nI_clamp (show j < 2 ^ 31 by omega)]
    exact ⟨rfl, rfl, K, C, N, h.s6 f⟩
  · simp only [w_c_envy_0, w_c_envy_1, w_c_envy_4, w_c_envy_5, w_c_envy_6, w_c_envy_9, w_c_envy_12, w_c_envy_14, w_c_envy_15, w_c_envy_16, w_c_envy_19, w_c_envy_20, w_c_envy_23, w_c_envy_24, w_c_envy_25, w_c_envy_28, xc_8, cl_0, e_p_hasPair hp c2.1, eq_false q, cl_0, cl_1, cl_3, cl_5, cl_7, cl_12, cl_15, cl_21, cl_29, zpp hp, i10, Bool.false_eq_true, eq_self, true_or, or_true, if_true, if_false, gv_int, gv_ref, av_some, al_some, un_int, un_ref, un_mk, ok4_0, ok4_1, ok4_2, ok4_3, ok4_4, Kn_some, Kn_none, true_and, and_true]
    refine JQ.mk ?_
    rw [e_m_envy c1, if_neg q]
    exact ⟨rfl, rfl, hj⟩
theorem j_seed {A B : Nat} {M : Mm} {x : Int32} (hj : JJ M A B) : WP 136 0 [.ref 0, .int x, mk] [] (shw A B) (0, 0) M (JQ 217 [.ref 58, .int x, mk]) := by
  obtain ⟨K, C, N, h⟩ := id hj
  obtain ⟨h0, h1, h2, h3, h4, h5, h6, h7, h8, h9, h10⟩ := id h
  have hp := h0.pp
  obtain ⟨c1, c2, c3, c4, c5, c6, c7, c8⟩ := id h1
  obtain ⟨d1, d2, d3, d4⟩ := id h2
  obtain ⟨⟨m1, m2, m3⟩, m4, m5, m6⟩ := id c2.1
  have hv : HV (M 4) C := by rw [d1]; exact d2
  by_cases q : x < 0
  · simp only [w_c_seed_0, w_c_seed_1, w_c_seed_4, w_c_seed_6, w_c_seed_7, w_c_seed_8, w_c_seed_11, w_c_seed_12, w_c_seed_13, w_c_seed_14, w_c_seed_17, w_c_seed_18, xc_10, eq_true q, i10, Bool.false_eq_true, eq_self, true_or, or_true, if_true, if_false, gv_int, gv_ref, av_some, al_some, un_int, un_ref, un_mk, ok4_0, ok4_1, ok4_2, ok4_3, ok4_4, Kn_some, Kn_none, true_and, and_true]
    refine JQ.mk ?_
    rw [e_m_seed, if_pos q]
    exact ⟨rfl, rfl, hj⟩
  · simp only [w_c_seed_0, w_c_seed_1, w_c_seed_4, w_c_seed_6, w_c_seed_7, w_c_seed_8, w_c_seed_11, w_c_seed_12, w_c_seed_13, w_c_seed_14, w_c_seed_17, w_c_seed_18, xc_10, eq_false q, i10, Bool.false_eq_true, eq_self, true_or, or_true, if_true, if_false, gv_int, gv_ref, av_some, al_some, un_int, un_ref, un_mk, ok4_0, ok4_1, ok4_2, ok4_3, ok4_4, Kn_some, Kn_none, true_and, and_true]
    refine JQ.mk ?_
    rw [e_m_seed, if_neg q, h8.1]
    refine ⟨rfl, rfl, K, C, N, h0, h1.fr h0 (fun c c1 c2 => ?_) ⟨rfl, rfl, rfl⟩ ⟨rfl, rfl, rfl, rfl, rfl, rfl⟩, h2, h3, h4, h5, h6, h7, ⟨rfl, q⟩, h9, h10⟩
    rw [up_c, if_neg (by omega), up_c, if_neg (by omega)]
theorem j_judge {A B : Nat} {M : Mm} (hj : JJ M A B) : WP 135 0 [.ref 0] [] (shw A B) (0, 0) M (JQ 216 [.ref 58, mk]) := by
  obtain ⟨K, C, N, h⟩ := id hj
  obtain ⟨h0, h1, h2, h3, h4, h5, h6, h7, h8, h9, h10⟩ := id h
  have hp := h0.pp
  obtain ⟨c1, c2, c3, c4, c5, c6, c7, c8⟩ := id h1
  obtain ⟨d1, d2, d3, d4⟩ := id h2
  obtain ⟨⟨m1, m2, m3⟩, m4, m5, m6⟩ := id c2.1
  have hv : HV (M 4) C := by rw [d1]; exact d2
  obtain ⟨b, b1, b2, b3, b4⟩ := h7
  have ej : ∀ f k, k + f ≤ b → jdE (M 65) (M 13) (M 14) f k = jdE (M 65) (M 81) (M 82) f k := by
    intro f
    induction f with
    | zero => intro k hk; rfl
    | succ f ih =>
      intro k hk
      have := b4 k (by omega)
      unfold jdE
      rw [this.1, this.2.1, ih (k + 1) (by omega)]
  have hb : ∀ k, k < b → ∃ t, t < 7 ∧ M 13 k = nI t := by
    intro k hk
    obtain ⟨e, -, t, t1, t2⟩ := b4 k hk
    exact ⟨t, t1, e.trans t2⟩
  simp only [w_c_judge_0, w_c_judge_1, w_c_judge_4, w_c_judge_5, w_c_judge_8, w_c_judge_11, xc_4, xc_1, cl_12, e_n_firstWrong isHH_3 b2 b1 hb, cl_0, cl_1, cl_3, cl_5, cl_7, cl_12, cl_15, cl_21, cl_29, zpp hp, show (3 + 1 : Nat) = 4 from rfl, d1, ej b 0 (by omega), i10, Bool.false_eq_true, eq_self, true_or, or_true, if_true, if_false, gv_int, gv_ref, av_some, al_some, un_int, un_ref, un_mk, ok4_0, ok4_1, ok4_2, ok4_3, ok4_4, Kn_some, Kn_none, true_and, and_true]
  refine JQ.mk ?_
  rw [e_m_judge ⟨b3, b1, fun k hk => (b4 k hk).2.2⟩]
  exact ⟨rfl, rfl, hj⟩
theorem j_write {A B : Nat} {M : Mm} {x y : Int32} (hj : JJ M A B) : WP 133 0 [.ref 0, .int x, .int y] [] (shw A B) (0, 0) M (JQ 214 [.ref 58, .int x, .int y]) := by
  obtain ⟨K, C, N, h⟩ := id hj
  obtain ⟨h0, h1, h2, h3, h4, h5, h6, h7, h8, h9, h10⟩ := id h
  have hp := h0.pp
  obtain ⟨c1, c2, c3, c4, c5, c6, c7, c8⟩ := id h1
  obtain ⟨d1, d2, d3, d4⟩ := id h2
  obtain ⟨⟨m1, m2, m3⟩, m4, m5, m6⟩ := id c2.1
  have hv : HV (M 4) C := by rw [d1]; exact d2
  obtain ⟨b, b1, b2, b3, b4⟩ := id h7
  have rd := fun (M' : Mm) (Q : Po) (hm : MD M' K C N) (hb : M' 58 37 = nI b) => e_m_write (A := A) (B := B) (M := M') (Q := Q) (t := x) (k := y) hm hb b1
  have no : ¬ (inb x N = true ∧ (y = -1 ∨ inb y C = true)) → JQ 214 [.ref 58, .int x, .int y] (some (.int (-1000000001))) (shw A B) M := by
    intro z
    refine JQ.mk ?_
    rw [rd M _ c1 b3, if_neg z]
    exact ⟨rfl, rfl, hj⟩
  have fin : inb x N = true ∧ (y = -1 ∨ inb y C = true) → WP 133 30 [.ref 0, .int x, .int y] [] (shw A B) (0, 0) M (JQ 214 [.ref 58, .int x, .int y]) := by
    intro z
    obtain ⟨t, t1, rfl⟩ := inb_of z.1 (by omega)
    by_cases q : b = 15
    · simp only [w_c_write_0, w_c_write_1, w_c_write_4, w_c_write_5, w_c_write_8, w_c_write_11, w_c_write_12, w_c_write_13, w_c_write_16, w_c_write_17, w_c_write_20, w_c_write_21, w_c_write_24, w_c_write_27, w_c_write_29, w_c_write_30, w_c_write_31, w_c_write_34, w_c_write_37, w_c_write_39, w_c_write_42, w_c_write_44, w_c_write_45, w_c_write_46, w_c_write_49, w_c_write_50, w_c_write_51, w_c_write_54, w_c_write_55, w_c_write_58, w_c_write_61, xc_8, xc_4, cl_12, e_n_entries, b2, q, show (nI 15 < 15) = False by decide, cl_0, cl_1, cl_3, cl_5, cl_7, cl_12, cl_15, cl_21, cl_29, zpp hp, i10, Bool.false_eq_true, eq_self, true_or, or_true, if_true, if_false, gv_int, gv_ref, av_some, al_some, un_int, un_ref, un_mk, ok4_0, ok4_1, ok4_2, ok4_3, ok4_4, Kn_some, Kn_none, true_and, and_true]
      refine JQ.mk ?_
      rw [rd M _ c1 b3, if_pos z, if_pos q]
      exact ⟨rfl, rfl, hj⟩
    · have g : nI b < 15 := nI_lt (b := 15) (by omega) (by decide)
      simp only [w_c_write_0, w_c_write_1, w_c_write_4, w_c_write_5, w_c_write_8, w_c_write_11, w_c_write_12, w_c_write_13, w_c_write_16, w_c_write_17, w_c_write_20, w_c_write_21, w_c_write_24, w_c_write_27, w_c_write_29, w_c_write_30, w_c_write_31, w_c_write_34, w_c_write_37, w_c_write_39, w_c_write_42, w_c_write_44, w_c_write_45, w_c_write_46, w_c_write_49, w_c_write_50, w_c_write_51, w_c_write_54, w_c_write_55, w_c_write_58, w_c_write_61, xc_8, xc_4, cl_12, e_n_entries, b2, g, e_n_addEntry b2 (show b < 15 by omega), show ∀ X x, up X 12 5 x 12 5 = x from fun _ _ => rfl, cl_0, cl_1, cl_3, cl_5, cl_7, cl_12, cl_15, cl_21, cl_29, zpp hp, i10, Bool.false_eq_true, eq_self, true_or, or_true, if_true, if_false, gv_int, gv_ref, av_some, al_some, un_int, un_ref, un_mk, ok4_0, ok4_1, ok4_2, ok4_3, ok4_4, Kn_some, Kn_none, true_and, and_true]
      refine JQ.mk ?_
      rw [rd _ _ (show MD (up (up (up M 13 b (nI t)) 14 b y) 12 5 (nI (b + 1))) K C N from c1) b3, if_pos z, if_neg q]
      refine ⟨rfl, rfl, K, C, N, h0, h1.fr h0 (fun c c1 c2 => ?_) ⟨rfl, rfl, rfl⟩ ⟨rfl, rfl, rfl, rfl, rfl, rfl⟩, h2, h3, h4, h5, h6, ⟨b + 1, by omega, rfl, rfl, ?_⟩, h8, h9, h10⟩
      · rw [up_c, if_neg (by omega), up_c, if_neg (by omega), up_c, if_neg (by omega), up_c, if_neg (by omega), up_c, if_neg (by omega), up_c, if_neg (by omega)]
      · intro k hk
        show upd (M 13) b (nI t) k = upd (M 81) b (nI t) k ∧ upd (M 14) b y k = upd (M 82) b y k ∧ ∃ t', t' < 7 ∧ upd (M 81) b (nI t) k = nI t'
        simp only [upd_at]
        by_cases q2 : k = b
        · simp only [q2, if_true]; exact ⟨trivial, trivial, t, by omega, rfl⟩
        · simp only [q2, if_false]; exact b4 k (by omega)
  cases ht : inb x N
  · simp only [w_c_write_0, w_c_write_1, w_c_write_4, w_c_write_5, w_c_write_8, w_c_write_11, w_c_write_12, w_c_write_13, w_c_write_16, w_c_write_17, w_c_write_20, w_c_write_21, w_c_write_24, w_c_write_27, w_c_write_29, w_c_write_31, w_c_write_34, w_c_write_37, w_c_write_39, w_c_write_42, w_c_write_44, w_c_write_45, w_c_write_46, w_c_write_49, w_c_write_50, w_c_write_51, w_c_write_54, w_c_write_55, w_c_write_58, w_c_write_61, xc_8, xc_4, cl_12, e_p_hasThing hp c2.1, ht, cl_0, cl_1, cl_3, cl_5, cl_7, cl_12, cl_15, cl_21, cl_29, zpp hp, i10, Bool.false_eq_true, eq_self, true_or, or_true, if_true, if_false, gv_int, gv_ref, av_some, al_some, un_int, un_ref, un_mk, ok4_0, ok4_1, ok4_2, ok4_3, ok4_4, Kn_some, Kn_none, true_and, and_true]
    exact no (fun z => by rw [ht] at z; exact absurd z.1 (by decide))
  · by_cases q : y = -1
    · simp only [w_c_write_0, w_c_write_1, w_c_write_4, w_c_write_5, w_c_write_8, w_c_write_11, w_c_write_12, w_c_write_13, w_c_write_16, w_c_write_17, w_c_write_20, w_c_write_21, w_c_write_24, w_c_write_27, w_c_write_29, w_c_write_31, w_c_write_34, w_c_write_37, w_c_write_39, w_c_write_42, w_c_write_44, w_c_write_45, w_c_write_46, w_c_write_49, w_c_write_50, w_c_write_51, w_c_write_54, w_c_write_55, w_c_write_58, w_c_write_61, xc_8, xc_4, cl_12, e_p_hasThing hp c2.1, ht, eq_true q, cl_0, cl_1, cl_3, cl_5, cl_7, cl_12, cl_15, cl_21, cl_29, zpp hp, i10, Bool.false_eq_true, eq_self, true_or, or_true, if_true, if_false, gv_int, gv_ref, av_some, al_some, un_int, un_ref, un_mk, ok4_0, ok4_1, ok4_2, ok4_3, ok4_4, Kn_some, Kn_none, true_and, and_true]
      exact fin ⟨ht, Or.inl q⟩
    · cases hy : inb y C
      · simp only [w_c_write_0, w_c_write_1, w_c_write_4, w_c_write_5, w_c_write_8, w_c_write_11, w_c_write_12, w_c_write_13, w_c_write_16, w_c_write_17, w_c_write_20, w_c_write_21, w_c_write_24, w_c_write_27, w_c_write_29, w_c_write_31, w_c_write_34, w_c_write_37, w_c_write_39, w_c_write_42, w_c_write_44, w_c_write_45, w_c_write_46, w_c_write_49, w_c_write_50, w_c_write_51, w_c_write_54, w_c_write_55, w_c_write_58, w_c_write_61, xc_8, xc_4, cl_12, e_p_hasThing hp c2.1, e_p_hasChild hp c2.1, ht, hy, eq_false q, cl_0, cl_1, cl_3, cl_5, cl_7, cl_12, cl_15, cl_21, cl_29, zpp hp, i10, Bool.false_eq_true, eq_self, true_or, or_true, if_true, if_false, gv_int, gv_ref, av_some, al_some, un_int, un_ref, un_mk, ok4_0, ok4_1, ok4_2, ok4_3, ok4_4, Kn_some, Kn_none, true_and, and_true]
        exact no (fun z => z.2.elim q (fun e => by rw [hy] at e; cases e))
      · simp only [w_c_write_0, w_c_write_1, w_c_write_4, w_c_write_5, w_c_write_8, w_c_write_11, w_c_write_12, w_c_write_13, w_c_write_16, w_c_write_17, w_c_write_20, w_c_write_21, w_c_write_24, w_c_write_27, w_c_write_29, w_c_write_31, w_c_write_34, w_c_write_37, w_c_write_39, w_c_write_42, w_c_write_44, w_c_write_45, w_c_write_46, w_c_write_49, w_c_write_50, w_c_write_51, w_c_write_54, w_c_write_55, w_c_write_58, w_c_write_61, xc_8, xc_4, cl_12, e_p_hasThing hp c2.1, e_p_hasChild hp c2.1, ht, hy, eq_false q, cl_0, cl_1, cl_3, cl_5, cl_7, cl_12, cl_15, cl_21, cl_29, zpp hp, i10, Bool.false_eq_true, eq_self, true_or, or_true, if_true, if_false, gv_int, gv_ref, av_some, al_some, un_int, un_ref, un_mk, ok4_0, ok4_1, ok4_2, ok4_3, ok4_4, Kn_some, Kn_none, true_and, and_true]
        exact fin ⟨ht, Or.inr hy⟩
theorem j_swaps {A B : Nat} {M : Mm} {x : Int32} (hj : JJ M A B) : WP 120 0 [.ref 0, .int x] [] (shw A B) (0, 0) M (JQ 191 [.ref 58, .int x]) := by
  obtain ⟨K, C, N, h⟩ := id hj
  obtain ⟨h0, h1, h2, h3, h4, h5, h6, h7, h8, h9, h10⟩ := id h
  have hp := h0.pp
  obtain ⟨c1, c2, c3, c4, c5, c6, c7, c8⟩ := id h1
  obtain ⟨d1, d2, d3, d4⟩ := id h2
  obtain ⟨⟨m1, m2, m3⟩, m4, m5, m6⟩ := id c2.1
  have hv : HV (M 4) C := by rw [d1]; exact d2
  by_cases q : x = -1
  · simp only [w_c_swaps_0, w_c_swaps_1, w_c_swaps_2, w_c_swaps_5, w_c_swaps_6, w_c_swaps_9, w_c_swaps_10, w_c_swaps_13, w_c_swaps_14, w_c_swaps_17, w_c_swaps_20, w_c_swaps_23, w_c_swaps_24, w_c_swaps_27, w_c_swaps_28, w_c_swaps_31, w_c_swaps_32, w_c_swaps_35, w_c_swaps_36, w_c_swaps_39, xc_5, xc_8, xc_1, cl_15, eq_true q, e_t_countOfSwaps hp isHH_3 c2 hv, cl_0, cl_1, cl_3, cl_5, cl_7, cl_12, cl_15, cl_21, cl_29, zpp hp, show (3 + 1 : Nat) = 4 from rfl, d1, i10, Bool.false_eq_true, eq_self, true_or, or_true, if_true, if_false, gv_int, gv_ref, av_some, al_some, un_int, un_ref, un_mk, ok4_0, ok4_1, ok4_2, ok4_3, ok4_4, Kn_some, Kn_none, true_and, and_true]
    refine JQ.mk ?_
    rw [e_m_swaps c1 d2]
    exact ⟨by unfold swR; rw [if_pos q], rfl, hj⟩
  · simp only [w_c_swaps_0, w_c_swaps_1, w_c_swaps_2, w_c_swaps_5, w_c_swaps_6, w_c_swaps_9, w_c_swaps_10, w_c_swaps_13, w_c_swaps_14, w_c_swaps_17, w_c_swaps_20, w_c_swaps_23, w_c_swaps_24, w_c_swaps_27, w_c_swaps_28, w_c_swaps_31, w_c_swaps_32, w_c_swaps_35, w_c_swaps_36, w_c_swaps_39, xc_5, xc_8, xc_1, cl_15, eq_false q, e_t_swapAt hp isHH_3 c2 hv, cl_0, cl_1, cl_3, cl_5, cl_7, cl_12, cl_15, cl_21, cl_29, zpp hp, show (3 + 1 : Nat) = 4 from rfl, d1, i10, Bool.false_eq_true, eq_self, true_or, or_true, if_true, if_false, gv_int, gv_ref, av_some, al_some, un_int, un_ref, un_mk, ok4_0, ok4_1, ok4_2, ok4_3, ok4_4, Kn_some, Kn_none, true_and, and_true]
    refine JQ.mk ?_
    rw [e_m_swaps c1 d2]
    exact ⟨by rw [swR_A q], rfl, hj⟩
theorem lastE_s (da : Nat → Int32) (kd : Nat → Nat) (n : Nat) (d : Int32) : lastE da kd (n + 1) d = lastE da kd n d ||| (if da (kd n) < d then (0 : Int32) else 1 <<< (nI n &&& 31)) := rfl
theorem j_lasts {A B : Nat} {M : Mm} {x : Int32} (hj : JJ M A B) : WP 126 0 [.ref 0, .int x, mk, mk] [] (shw A B) (0, 0) M (JQ 203 [.ref 58, .int x, mk, mk]) := by
  obtain ⟨K, C, N, h⟩ := id hj
  obtain ⟨h0, h1, h2, h3, h4, h5, h6, h7, h8, h9, h10⟩ := id h
  have hp := h0.pp
  obtain ⟨c1, c2, c3, c4, c5, c6, c7, c8⟩ := id h1
  obtain ⟨d1, d2, d3, d4⟩ := id h2
  obtain ⟨⟨m1, m2, m3⟩, m4, m5, m6⟩ := id c2.1
  have hv : HV (M 4) C := by rw [d1]; exact d2
  have ei : inb x 100 = decide (¬ x < 0 ∧ ¬ 99 < x) := inb_r 99 rfl
  have out : inb x 100 = false → JQ 203 [.ref 58, .int x, mk, mk] (some (.int (-1000000002))) (shw A B) M := by
    intro e
    refine JQ.mk ?_
    rw [e_m_lasts c1, e]
    exact ⟨rfl, rfl, hj⟩
  by_cases q1 : x < 0
  · simp only [w_c_lasts_0, w_c_lasts_1, w_c_lasts_4, w_c_lasts_5, w_c_lasts_7, w_c_lasts_10, w_c_lasts_12, w_c_lasts_13, w_c_lasts_14, w_c_lasts_15, w_c_lasts_16, w_c_lasts_18, w_c_lasts_19, w_c_lasts_22, w_c_lasts_25, w_c_lasts_28, w_c_lasts_29, w_c_lasts_32, w_c_lasts_35, w_c_lasts_36, w_c_lasts_39, w_c_lasts_42, w_c_lasts_43, w_c_lasts_44, w_c_lasts_45, w_c_lasts_46, w_c_lasts_49, w_c_lasts_50, w_c_lasts_51, w_c_lasts_52, w_c_lasts_53, w_c_lasts_54, w_c_lasts_55, w_c_lasts_58, w_c_lasts_61, w_c_lasts_62, xc_8, eq_true q1, i10, Bool.false_eq_true, eq_self, true_or, or_true, if_true, if_false, gv_int, gv_ref, av_some, al_some, un_int, un_ref, un_mk, ok4_0, ok4_1, ok4_2, ok4_3, ok4_4, Kn_some, Kn_none, true_and, and_true]
    exact out (by rw [ei]; exact decide_eq_false (fun z => z.1 q1))
  by_cases q2 : 99 < x
  · simp only [w_c_lasts_0, w_c_lasts_1, w_c_lasts_4, w_c_lasts_5, w_c_lasts_7, w_c_lasts_10, w_c_lasts_12, w_c_lasts_13, w_c_lasts_14, w_c_lasts_15, w_c_lasts_16, w_c_lasts_18, w_c_lasts_19, w_c_lasts_22, w_c_lasts_25, w_c_lasts_28, w_c_lasts_29, w_c_lasts_32, w_c_lasts_35, w_c_lasts_36, w_c_lasts_39, w_c_lasts_42, w_c_lasts_43, w_c_lasts_44, w_c_lasts_45, w_c_lasts_46, w_c_lasts_49, w_c_lasts_50, w_c_lasts_51, w_c_lasts_52, w_c_lasts_53, w_c_lasts_54, w_c_lasts_55, w_c_lasts_58, w_c_lasts_61, w_c_lasts_62, xc_8, eq_false q1, eq_true q2, i10, Bool.false_eq_true, eq_self, true_or, or_true, if_true, if_false, gv_int, gv_ref, av_some, al_some, un_int, un_ref, un_mk, ok4_0, ok4_1, ok4_2, ok4_3, ok4_4, Kn_some, Kn_none, true_and, and_true]
    exact out (by rw [ei]; exact decide_eq_false (fun z => z.2 q2))
  have ein : inb x 100 = true := by rw [ei]; exact decide_eq_true ⟨q1, q2⟩
  simp only [w_c_lasts_0, w_c_lasts_1, w_c_lasts_4, w_c_lasts_5, w_c_lasts_7, w_c_lasts_10, w_c_lasts_12, w_c_lasts_13, w_c_lasts_14, w_c_lasts_15, w_c_lasts_16, w_c_lasts_18, w_c_lasts_19, w_c_lasts_22, w_c_lasts_25, w_c_lasts_28, w_c_lasts_29, w_c_lasts_32, w_c_lasts_35, w_c_lasts_36, w_c_lasts_39, w_c_lasts_42, w_c_lasts_43, w_c_lasts_44, w_c_lasts_45, w_c_lasts_46, w_c_lasts_49, w_c_lasts_50, w_c_lasts_51, w_c_lasts_52, w_c_lasts_53, w_c_lasts_54, w_c_lasts_55, w_c_lasts_58, w_c_lasts_61, w_c_lasts_62, xc_8, eq_false q1, eq_false q2, i10, Bool.false_eq_true, eq_self, true_or, or_true, if_true, if_false, gv_int, gv_ref, av_some, al_some, un_int, un_ref, un_mk, ok4_0, ok4_1, ok4_2, ok4_3, ok4_4, Kn_some, Kn_none, true_and, and_true]
  refine for_up (n := N) (P := fun k => WP 126 17 [.ref 0, .int x, .int (lastE (M 60) (kN M) k x), .int (nI k)] [] (shw A B) (0, 0) M (JQ 203 [.ref 58, .int x, mk, mk])) ?_ ?_
  · rw [w_c_lasts_17]
    simp only [w_c_lasts_0, w_c_lasts_1, w_c_lasts_4, w_c_lasts_5, w_c_lasts_7, w_c_lasts_10, w_c_lasts_12, w_c_lasts_13, w_c_lasts_14, w_c_lasts_15, w_c_lasts_16, w_c_lasts_18, w_c_lasts_19, w_c_lasts_22, w_c_lasts_25, w_c_lasts_28, w_c_lasts_29, w_c_lasts_32, w_c_lasts_35, w_c_lasts_36, w_c_lasts_39, w_c_lasts_42, w_c_lasts_43, w_c_lasts_44, w_c_lasts_45, w_c_lasts_46, w_c_lasts_49, w_c_lasts_50, w_c_lasts_51, w_c_lasts_52, w_c_lasts_53, w_c_lasts_54, w_c_lasts_55, w_c_lasts_58, w_c_lasts_61, w_c_lasts_62, xc_8, xpp_2 hp, m3, lt_irr, i10, Bool.false_eq_true, eq_self, true_or, or_true, if_true, if_false, gv_int, gv_ref, av_some, al_some, un_int, un_ref, un_mk, ok4_0, ok4_1, ok4_2, ok4_3, ok4_4, Kn_some, Kn_none, true_and, and_true]
    refine JQ.mk ?_
    rw [e_m_lasts c1, ein]
    exact ⟨rfl, rfl, hj⟩
  · intro k hk ih
    have g1 : nI k < nI N := nI_lt hk (by omega)
    have g2 : vp_in (nI k) 7 := vp_in_nI (by omega) (by decide)
    obtain ⟨e1, e2⟩ := c2.2.1 k hk
    have g3 : vp_in (nI (kN M k)) 5 := vp_in_nI e2 (by decide)
    have e3 := (c3 (kN M k) (c8 k hk)).2
    rw [lastE_s] at ih
    generalize lastE (M 60) (kN M) k x = b0 at ih ⊢
    rw [w_c_lasts_17]
    by_cases q : M 60 (kN M k) < x
    · rw [if_pos q, Int32.or_zero] at ih
      simp only [w_c_lasts_0, w_c_lasts_1, w_c_lasts_4, w_c_lasts_5, w_c_lasts_7, w_c_lasts_10, w_c_lasts_12, w_c_lasts_13, w_c_lasts_14, w_c_lasts_15, w_c_lasts_16, w_c_lasts_18, w_c_lasts_19, w_c_lasts_22, w_c_lasts_25, w_c_lasts_28, w_c_lasts_29, w_c_lasts_32, w_c_lasts_35, w_c_lasts_36, w_c_lasts_39, w_c_lasts_42, w_c_lasts_43, w_c_lasts_44, w_c_lasts_45, w_c_lasts_46, w_c_lasts_49, w_c_lasts_50, w_c_lasts_51, w_c_lasts_52, w_c_lasts_53, w_c_lasts_54, w_c_lasts_55, w_c_lasts_58, w_c_lasts_61, w_c_lasts_62, xc_8, xpp_2 hp, m3, g1, g2, xpp_5 hp, xpp_12 hp, ypp_2 hp, ypp_9 hp, nI_clamp (show k < 2 ^ 31 by omega), e1, g3, nI_clamp (show kN M k < 2 ^ 31 by omega), e3, q, nI_1, i10, Bool.false_eq_true, eq_self, true_or, or_true, if_true, if_false, gv_int, gv_ref, av_some, al_some, un_int, un_ref, un_mk, ok4_0, ok4_1, ok4_2, ok4_3, ok4_4, Kn_some, Kn_none, true_and, and_true]
      exact ih
    · rw [if_neg q] at ih
      simp only [w_c_lasts_0, w_c_lasts_1, w_c_lasts_4, w_c_lasts_5, w_c_lasts_7, w_c_lasts_10, w_c_lasts_12, w_c_lasts_13, w_c_lasts_14, w_c_lasts_15, w_c_lasts_16, w_c_lasts_18, w_c_lasts_19, w_c_lasts_22, w_c_lasts_25, w_c_lasts_28, w_c_lasts_29, w_c_lasts_32, w_c_lasts_35, w_c_lasts_36, w_c_lasts_39, w_c_lasts_42, w_c_lasts_43, w_c_lasts_44, w_c_lasts_45, w_c_lasts_46, w_c_lasts_49, w_c_lasts_50, w_c_lasts_51, w_c_lasts_52, w_c_lasts_53, w_c_lasts_54, w_c_lasts_55, w_c_lasts_58, w_c_lasts_61, w_c_lasts_62, xc_8, xpp_2 hp, m3, g1, g2, xpp_5 hp, xpp_12 hp, ypp_2 hp, ypp_9 hp, nI_clamp (show k < 2 ^ 31 by omega), e1, g3, nI_clamp (show kN M k < 2 ^ 31 by omega), e3, q, nI_1, i10, Bool.false_eq_true, eq_self, true_or, or_true, if_true, if_false, gv_int, gv_ref, av_some, al_some, un_int, un_ref, un_mk, ok4_0, ok4_1, ok4_2, ok4_3, ok4_4, Kn_some, Kn_none, true_and, and_true]
      exact ih
theorem riseE_s (v : Int32) (k : Nat) : riseE v (k + 1) = if riseE v k + riseE v k / 10 < 999999 then riseE v k + riseE v k / 10 else 999999 := rfl
theorem mn_r (a : Int32) : (if (999999 : Int32) < a then (999999 : Int32) else a) = if a < 999999 then a else 999999 := by
  by_cases q : (999999 : Int32) < a
  · rw [if_pos q, if_neg]
    intro z
    have := Int32.lt_iff_toInt_lt.mp q
    have := Int32.lt_iff_toInt_lt.mp z
    omega
  · rw [if_neg q]
    by_cases r : a < 999999
    · rw [if_pos r]
    · rw [if_neg r]
      apply Int32.toInt_inj.mp
      have := mt Int32.lt_iff_toInt_lt.mpr q
      have := mt Int32.lt_iff_toInt_lt.mpr r
      omega
theorem j_rises {A B : Nat} {M : Mm} {x : Int32} (hj : JJ M A B) : WP 127 0 [.ref 0, .int x, mk, mk] [] (shw A B) (0, 0) M (JQ 204 [.ref 58, .int x, mk, mk]) := by
  obtain ⟨K, C, N, h⟩ := id hj
  obtain ⟨h0, h1, h2, h3, h4, h5, h6, h7, h8, h9, h10⟩ := id h
  have hp := h0.pp
  obtain ⟨c1, c2, c3, c4, c5, c6, c7, c8⟩ := id h1
  obtain ⟨d1, d2, d3, d4⟩ := id h2
  obtain ⟨⟨m1, m2, m3⟩, m4, m5, m6⟩ := id c2.1
  have hv : HV (M 4) C := by rw [d1]; exact d2
  have ei : inb x 31 = decide (¬ x < 0 ∧ ¬ 30 < x) := inb_r 30 rfl
  have out : inb x 31 = false → JQ 204 [.ref 58, .int x, mk, mk] (some (.int (-1000000002))) (shw A B) M := by
    intro e
    refine JQ.mk ?_
    rw [e_m_rises c1, e]
    exact ⟨rfl, rfl, hj⟩
  by_cases q1 : x < 0
  · simp only [w_c_rises_0, w_c_rises_1, w_c_rises_4, w_c_rises_5, w_c_rises_7, w_c_rises_10, w_c_rises_12, w_c_rises_13, w_c_rises_14, w_c_rises_17, w_c_rises_20, w_c_rises_21, w_c_rises_22, w_c_rises_24, w_c_rises_25, w_c_rises_28, w_c_rises_29, w_c_rises_30, w_c_rises_32, w_c_rises_33, w_c_rises_34, w_c_rises_37, w_c_rises_40, w_c_rises_41, w_c_rises_44, w_c_rises_47, w_c_rises_48, xc_8, eq_true q1, i10, Bool.false_eq_true, eq_self, true_or, or_true, if_true, if_false, gv_int, gv_ref, av_some, al_some, un_int, un_ref, un_mk, ok4_0, ok4_1, ok4_2, ok4_3, ok4_4, Kn_some, Kn_none, true_and, and_true]
    exact out (by rw [ei]; exact decide_eq_false (fun z => z.1 q1))
  by_cases q2 : 30 < x
  · simp only [w_c_rises_0, w_c_rises_1, w_c_rises_4, w_c_rises_5, w_c_rises_7, w_c_rises_10, w_c_rises_12, w_c_rises_13, w_c_rises_14, w_c_rises_17, w_c_rises_20, w_c_rises_21, w_c_rises_22, w_c_rises_24, w_c_rises_25, w_c_rises_28, w_c_rises_29, w_c_rises_30, w_c_rises_32, w_c_rises_33, w_c_rises_34, w_c_rises_37, w_c_rises_40, w_c_rises_41, w_c_rises_44, w_c_rises_47, w_c_rises_48, xc_8, eq_false q1, eq_true q2, i10, Bool.false_eq_true, eq_self, true_or, or_true, if_true, if_false, gv_int, gv_ref, av_some, al_some, un_int, un_ref, un_mk, ok4_0, ok4_1, ok4_2, ok4_3, ok4_4, Kn_some, Kn_none, true_and, and_true]
    exact out (by rw [ei]; exact decide_eq_false (fun z => z.2 q2))
  have ein : inb x 31 = true := by rw [ei]; exact decide_eq_true ⟨q1, q2⟩
  obtain ⟨m, n1, rfl⟩ := inb_of ein (by decide)
  have ec := costE_congr (kd := kN M) N (fun t ht => (c3 (kN M t) (c8 t ht)).1)
  have g3 : ¬ (10 : Int32) = 0 := by decide
  simp only [w_c_rises_0, w_c_rises_1, w_c_rises_4, w_c_rises_5, w_c_rises_7, w_c_rises_10, w_c_rises_12, w_c_rises_13, w_c_rises_14, w_c_rises_17, w_c_rises_20, w_c_rises_21, w_c_rises_22, w_c_rises_24, w_c_rises_25, w_c_rises_28, w_c_rises_29, w_c_rises_30, w_c_rises_32, w_c_rises_33, w_c_rises_34, w_c_rises_37, w_c_rises_40, w_c_rises_41, w_c_rises_44, w_c_rises_47, w_c_rises_48, xc_8, eq_false q1, eq_false q2, e_p_pence hp c2.1 c2.2.1, zpp hp, ec, i10, Bool.false_eq_true, eq_self, true_or, or_true, if_true, if_false, gv_int, gv_ref, av_some, al_some, un_int, un_ref, un_mk, ok4_0, ok4_1, ok4_2, ok4_3, ok4_4, Kn_some, Kn_none, true_and, and_true]
  refine for_up (n := m) (P := fun k => WP 127 23 [.ref 0, .int (nI m), .int (riseE (costE (M 59) (kN M) N) k), .int (nI k)] [] (shw A B) (0, 0) M (JQ 204 [.ref 58, .int (nI m), mk, mk])) ?_ ?_
  · rw [w_c_rises_23]
    simp only [w_c_rises_0, w_c_rises_1, w_c_rises_4, w_c_rises_5, w_c_rises_7, w_c_rises_10, w_c_rises_12, w_c_rises_13, w_c_rises_14, w_c_rises_17, w_c_rises_20, w_c_rises_21, w_c_rises_22, w_c_rises_24, w_c_rises_25, w_c_rises_28, w_c_rises_29, w_c_rises_30, w_c_rises_32, w_c_rises_33, w_c_rises_34, w_c_rises_37, w_c_rises_40, w_c_rises_41, w_c_rises_44, w_c_rises_47, w_c_rises_48, xc_8, lt_irr, i10, Bool.false_eq_true, eq_self, true_or, or_true, if_true, if_false, gv_int, gv_ref, av_some, al_some, un_int, un_ref, un_mk, ok4_0, ok4_1, ok4_2, ok4_3, ok4_4, Kn_some, Kn_none, true_and, and_true]
    refine JQ.mk ?_
    rw [e_m_rises c1, ein, nI_clamp (show m < 2 ^ 31 by omega)]
    exact ⟨rfl, rfl, hj⟩
  · intro k hk ih
    have g1 : nI k < nI m := nI_lt hk (by omega)
    rw [riseE_s] at ih
    generalize riseE (costE (M 59) (kN M) N) k = b0 at ih ⊢
    rw [w_c_rises_23]
    simp only [w_c_rises_0, w_c_rises_1, w_c_rises_4, w_c_rises_5, w_c_rises_7, w_c_rises_10, w_c_rises_12, w_c_rises_13, w_c_rises_14, w_c_rises_17, w_c_rises_20, w_c_rises_21, w_c_rises_22, w_c_rises_24, w_c_rises_25, w_c_rises_28, w_c_rises_29, w_c_rises_30, w_c_rises_32, w_c_rises_33, w_c_rises_34, w_c_rises_37, w_c_rises_40, w_c_rises_41, w_c_rises_44, w_c_rises_47, w_c_rises_48, xc_8, g1, g3, not_false_eq_true, mn_r, nI_1, i10, Bool.false_eq_true, eq_self, true_or, or_true, if_true, if_false, gv_int, gv_ref, av_some, al_some, un_int, un_ref, un_mk, ok4_0, ok4_1, ok4_2, ok4_3, ok4_4, Kn_some, Kn_none, true_and, and_true]
    exact ih
