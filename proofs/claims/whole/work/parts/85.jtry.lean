/-! both try alike: choosing, sweets, a spare thing, odds -/
theorem e_t_holderThen {A B t : Nat} {M : Mm} {Q : Po} (ht : t < 7) : WP 78 0 [.ref 15, .int (nI t)] [] (shw A B) (0, 0) M Q = Q (some (.int (M 17 t))) (shw A B) M := by
  simp only [w_t_holderThen_0, w_t_holderThen_1, w_t_holderThen_4, w_t_holderThen_5, w_t_holderThen_8, xt_0, e_h_holderOf isHH_16 ht, cl_16, i10, Bool.false_eq_true, eq_self, true_or, or_true, if_true, if_false, gv_int, gv_ref, av_some, al_some, un_int, un_ref, un_mk, ok4_0, ok4_1, ok4_2, ok4_3, ok4_4, Kn_some, Kn_none, true_and, and_true]
theorem e_t_leastByOrder {A B : Nat} {M : Mm} {Q : Po} : WP 80 0 [.ref 15] [] (shw A B) (0, 0) M Q = Q (some (.int (M 15 3))) (shw A B) M := by
  simp only [w_t_leastByOrder_0, w_t_leastByOrder_1, w_t_leastByOrder_4, xt_3, i10, Bool.false_eq_true, eq_self, true_or, or_true, if_true, if_false, gv_int, gv_ref, av_some, al_some, un_int, un_ref, un_mk, ok4_0, ok4_1, ok4_2, ok4_3, ok4_4, Kn_some, Kn_none, true_and, and_true]
theorem j_choice {A B : Nat} {M : Mm} {x y : Int32} (hj : JJ M A B) : WP 123 0 [.ref 0, .int x, .int y] [] (shw A B) (0, 0) M (JQ 200 [.ref 58, .int x, .int y, mk]) := by
  obtain ⟨K, C, N, h⟩ := id hj
  obtain ⟨h0, h1, h2, h3, h4, h5, h6, h7, h8, h9, h10⟩ := id h
  have hp := h0.pp
  obtain ⟨c1, c2, c3, c4, c5, c6, c7, c8⟩ := id h1
  obtain ⟨d1, d2, d3, d4⟩ := id h2
  obtain ⟨⟨m1, m2, m3⟩, m4, m5, m6⟩ := id c2.1
  have hv : HV (M 4) C := by rw [d1]; exact d2
  cases hy : inb y N
  · simp only [w_c_choice_0, w_c_choice_1, w_c_choice_4, w_c_choice_5, w_c_choice_8, w_c_choice_11, w_c_choice_13, w_c_choice_14, w_c_choice_15, w_c_choice_18, w_c_choice_19, w_c_choice_22, w_c_choice_23, w_c_choice_26, w_c_choice_29, w_c_choice_31, w_c_choice_32, w_c_choice_33, w_c_choice_36, w_c_choice_37, w_c_choice_40, w_c_choice_41, w_c_choice_44, w_c_choice_45, w_c_choice_46, w_c_choice_47, w_c_choice_50, w_c_choice_51, w_c_choice_54, w_c_choice_55, w_c_choice_58, w_c_choice_61, w_c_choice_62, w_c_choice_65, w_c_choice_66, w_c_choice_69, xc_8, xc_5, cl_15, xc_1, e_p_hasThing hp c2.1, hy, cl_0, cl_1, cl_3, cl_5, cl_7, cl_12, cl_15, cl_21, cl_29, zpp hp, i10, Bool.false_eq_true, eq_self, true_or, or_true, if_true, if_false, gv_int, gv_ref, av_some, al_some, un_int, un_ref, un_mk, ok4_0, ok4_1, ok4_2, ok4_3, ok4_4, Kn_some, Kn_none, true_and, and_true]
    refine JQ.mk ?_
    rw [e_m_choice c1, hy]
    exact ⟨rfl, rfl, hj⟩
  obtain ⟨t, t1, rfl⟩ := inb_of hy (by omega)
  have hn := neg_m1 d2 (show t < 7 by omega) m5
  simp only [w_c_choice_0, w_c_choice_1, w_c_choice_4, w_c_choice_5, w_c_choice_8, w_c_choice_11, w_c_choice_13, w_c_choice_14, w_c_choice_15, w_c_choice_18, w_c_choice_19, w_c_choice_22, w_c_choice_23, w_c_choice_26, w_c_choice_29, w_c_choice_31, w_c_choice_32, w_c_choice_33, w_c_choice_36, w_c_choice_37, w_c_choice_40, w_c_choice_41, w_c_choice_44, w_c_choice_45, w_c_choice_46, w_c_choice_47, w_c_choice_50, w_c_choice_51, w_c_choice_54, w_c_choice_55, w_c_choice_58, w_c_choice_61, w_c_choice_62, w_c_choice_65, w_c_choice_66, w_c_choice_69, xc_8, xc_5, cl_15, xc_1, e_p_hasThing hp c2.1, hy, cl_0, cl_1, cl_3, cl_5, cl_7, cl_12, cl_15, cl_21, cl_29, zpp hp, i10, Bool.false_eq_true, eq_self, true_or, or_true, if_true, if_false, gv_int, gv_ref, av_some, al_some, un_int, un_ref, un_mk, ok4_0, ok4_1, ok4_2, ok4_3, ok4_4, Kn_some, Kn_none, true_and, and_true]
  refine c_isOrder hp c2 ?_ ?_
  · intro hok
    have hC := tOK_pos hok
    have hX : JX (st M 20 (rowF C x (M 20) C)) A B K C N := h.scr (by omega)
    by_cases q : M 65 t = -1
    · have hr : ∀ j, j < C → rwN C x j < C ∧ st M 20 (rowF C x (M 20) C) 20 j = nI (rwN C x j) := fun j hj => ⟨row_lt hok m5 j hj, (row_ok (f := M 20) hok m5 j hj).2⟩
      have ht : ∀ j, ¬ j < 7 → st M 20 (rowF C x (M 20) C) 17 j = st M 20 (rowF C x (M 20) C) (3 + 1) j := fun j hj => (d3 j hj).trans (congrFun d1.symm j)
      simp only [w_c_choice_0, w_c_choice_1, w_c_choice_4, w_c_choice_5, w_c_choice_8, w_c_choice_11, w_c_choice_13, w_c_choice_14, w_c_choice_15, w_c_choice_18, w_c_choice_19, w_c_choice_22, w_c_choice_23, w_c_choice_26, w_c_choice_29, w_c_choice_31, w_c_choice_32, w_c_choice_33, w_c_choice_36, w_c_choice_37, w_c_choice_40, w_c_choice_41, w_c_choice_44, w_c_choice_45, w_c_choice_46, w_c_choice_47, w_c_choice_50, w_c_choice_51, w_c_choice_54, w_c_choice_55, w_c_choice_58, w_c_choice_61, w_c_choice_62, w_c_choice_65, w_c_choice_66, w_c_choice_69, xc_8, xc_5, cl_15, xc_1, e_h_holderOf isHH_3 (show t < 7 by omega), show st M 20 (rowF C x (M 20) C) (3 + 1) = M 65 from d1, q, cl_0, cl_1, cl_3, cl_5, cl_7, cl_12, cl_15, cl_21, cl_29, zpp hp, e_t_choose hp isHH_3 hX.2.1.2.1 (show HV (st M 20 (rowF C x (M 20) C) (3 + 1)) C from hv) ht hC hr, e_t_holderThen (show t < 7 by omega), show ∀ f, st (st M 20 (rowF C x (M 20) C)) 17 f 17 = f from fun _ => rfl, i10, Bool.false_eq_true, eq_self, true_or, or_true, if_true, if_false, gv_int, gv_ref, av_some, al_some, un_int, un_ref, un_mk, ok4_0, ok4_1, ok4_2, ok4_3, ok4_4, Kn_some, Kn_none, true_and, and_true]
      refine JQ.mk ?_
      refine Eq.mpr (e_m_choice c1) ?_
      rw [nI_clamp (show t < 2 ^ 31 by omega)]
      refine ite_t hy (ite_t hok (ite_t (hn.mpr q) ?_))
      refine ⟨rfl, rfl, K, C, N, ?_⟩
      refine JX.sv (JX.scr (JX.s17 hX ?_) (by omega))
      intro j hj
      exact (chE_far (W := wT M) (n := N) (c := C) (r := rwN C x) 8 0 (M 65) j (by omega)).trans (d3 j hj).symm
    · simp only [w_c_choice_0, w_c_choice_1, w_c_choice_4, w_c_choice_5, w_c_choice_8, w_c_choice_11, w_c_choice_13, w_c_choice_14, w_c_choice_15, w_c_choice_18, w_c_choice_19, w_c_choice_22, w_c_choice_23, w_c_choice_26, w_c_choice_29, w_c_choice_31, w_c_choice_32, w_c_choice_33, w_c_choice_36, w_c_choice_37, w_c_choice_40, w_c_choice_41, w_c_choice_44, w_c_choice_45, w_c_choice_46, w_c_choice_47, w_c_choice_50, w_c_choice_51, w_c_choice_54, w_c_choice_55, w_c_choice_58, w_c_choice_61, w_c_choice_62, w_c_choice_65, w_c_choice_66, w_c_choice_69, xc_8, xc_5, cl_15, xc_1, e_h_holderOf isHH_3 (show t < 7 by omega), show st M 20 (rowF C x (M 20) C) (3 + 1) = M 65 from d1, eq_false q, cl_0, cl_1, cl_3, cl_5, cl_7, cl_12, cl_15, cl_21, cl_29, zpp hp, i10, Bool.false_eq_true, eq_self, true_or, or_true, if_true, if_false, gv_int, gv_ref, av_some, al_some, un_int, un_ref, un_mk, ok4_0, ok4_1, ok4_2, ok4_3, ok4_4, Kn_some, Kn_none, true_and, and_true]
      refine JQ.mk ?_
      refine Eq.mpr (e_m_choice c1) ?_
      rw [nI_clamp (show t < 2 ^ 31 by omega)]
      refine ite_t hy (ite_t hok (ite_f (fun z => q (hn.mp z)) ?_))
      exact ⟨rfl, rfl, K, C, N, hX.scr (by omega)⟩
  · intro hno f
    have hX : JX (st M 20 f) A B K C N := h.scr (by omega)
    simp only [w_c_choice_0, w_c_choice_1, w_c_choice_4, w_c_choice_5, w_c_choice_8, w_c_choice_11, w_c_choice_13, w_c_choice_14, w_c_choice_15, w_c_choice_18, w_c_choice_19, w_c_choice_22, w_c_choice_23, w_c_choice_26, w_c_choice_29, w_c_choice_31, w_c_choice_32, w_c_choice_33, w_c_choice_36, w_c_choice_37, w_c_choice_40, w_c_choice_41, w_c_choice_44, w_c_choice_45, w_c_choice_46, w_c_choice_47, w_c_choice_50, w_c_choice_51, w_c_choice_54, w_c_choice_55, w_c_choice_58, w_c_choice_61, w_c_choice_62, w_c_choice_65, w_c_choice_66, w_c_choice_69, xc_8, xc_5, cl_15, xc_1, i10, Bool.false_eq_true, eq_self, true_or, or_true, if_true, if_false, gv_int, gv_ref, av_some, al_some, un_int, un_ref, un_mk, ok4_0, ok4_1, ok4_2, ok4_3, ok4_4, Kn_some, Kn_none, true_and, and_true]
    refine JQ.mk ?_
    refine Eq.mpr (e_m_choice c1) ?_
    refine ite_t hy (ite_f (fun z => by rw [hno] at z; cases z) ?_)
    exact ⟨rfl, rfl, K, C, N, hX.scr (by omega)⟩
theorem j_bestOrder {A B : Nat} {M : Mm} {x : Int32} (hj : JJ M A B) : WP 124 0 [.ref 0, .int x, mk] [] (shw A B) (0, 0) M (JQ 201 [.ref 58, .int x, mk, mk, mk, mk]) := by
  obtain ⟨K, C, N, h⟩ := id hj
  obtain ⟨h0, h1, h2, h3, h4, h5, h6, h7, h8, h9, h10⟩ := id h
  have hp := h0.pp
  obtain ⟨c1, c2, c3, c4, c5, c6, c7, c8⟩ := id h1
  obtain ⟨d1, d2, d3, d4⟩ := id h2
  obtain ⟨⟨m1, m2, m3⟩, m4, m5, m6⟩ := id c2.1
  have hv : HV (M 4) C := by rw [d1]; exact d2
  have ei : inb x 2 = decide (¬ x < 0 ∧ ¬ 1 < x) := inb_r 1 rfl
  have out : inb x 2 = false → JQ 201 [.ref 58, .int x, mk, mk, mk, mk] (some (.int (-1000000002))) (shw A B) M := by
    intro e
    refine JQ.mk ?_
    refine e_m_bestOrder c1 (fun f z => by rw [e] at z; cases z) (fun _ => ?_)
    exact ⟨rfl, rfl, hj⟩
  by_cases q1 : x < 0
  · simp only [w_c_bestOrder_0, w_c_bestOrder_1, w_c_bestOrder_4, w_c_bestOrder_5, w_c_bestOrder_6, w_c_bestOrder_9, w_c_bestOrder_11, w_c_bestOrder_12, w_c_bestOrder_13, w_c_bestOrder_16, w_c_bestOrder_19, w_c_bestOrder_22, w_c_bestOrder_23, w_c_bestOrder_24, w_c_bestOrder_25, w_c_bestOrder_28, w_c_bestOrder_29, w_c_bestOrder_32, w_c_bestOrder_33, w_c_bestOrder_36, w_c_bestOrder_39, w_c_bestOrder_40, w_c_bestOrder_41, w_c_bestOrder_44, w_c_bestOrder_45, w_c_bestOrder_48, w_c_bestOrder_49, w_c_bestOrder_52, w_c_bestOrder_55, xc_8, xc_5, xc_1, cl_15, eq_true q1, i10, Bool.false_eq_true, eq_self, true_or, or_true, if_true, if_false, gv_int, gv_ref, av_some, al_some, un_int, un_ref, un_mk, ok4_0, ok4_1, ok4_2, ok4_3, ok4_4, Kn_some, Kn_none, true_and, and_true]
    exact out (by rw [ei]; exact decide_eq_false (fun z => z.1 q1))
  by_cases q2 : 1 < x
  · simp only [w_c_bestOrder_0, w_c_bestOrder_1, w_c_bestOrder_4, w_c_bestOrder_5, w_c_bestOrder_6, w_c_bestOrder_9, w_c_bestOrder_11, w_c_bestOrder_12, w_c_bestOrder_13, w_c_bestOrder_16, w_c_bestOrder_19, w_c_bestOrder_22, w_c_bestOrder_23, w_c_bestOrder_24, w_c_bestOrder_25, w_c_bestOrder_28, w_c_bestOrder_29, w_c_bestOrder_32, w_c_bestOrder_33, w_c_bestOrder_36, w_c_bestOrder_39, w_c_bestOrder_40, w_c_bestOrder_41, w_c_bestOrder_44, w_c_bestOrder_45, w_c_bestOrder_48, w_c_bestOrder_49, w_c_bestOrder_52, w_c_bestOrder_55, xc_8, xc_5, xc_1, cl_15, eq_false q1, eq_true q2, i10, Bool.false_eq_true, eq_self, true_or, or_true, if_true, if_false, gv_int, gv_ref, av_some, al_some, un_int, un_ref, un_mk, ok4_0, ok4_1, ok4_2, ok4_3, ok4_4, Kn_some, Kn_none, true_and, and_true]
    exact out (by rw [ei]; exact decide_eq_false (fun z => z.2 q2))
  have ein : inb x 2 = true := by rw [ei]; exact decide_eq_true ⟨q1, q2⟩
  by_cases c0 : C = 0
  · have e0 : boE (wT M) (M 63) (M 65) N C = (-1, 100000000) := by
      unfold boE
      have := bsB_skip (ok := fun k => tOK C (nI k)) (V := bsV (wT M) (M 63) (M 65) N C) (a := 0) 4322 (fun k _ _ => by
        cases e : tOK C (nI k) with
        | false => rfl
        | true => exact absurd (tOK_pos e) (by omega))
      rw [Nat.zero_add] at this
      rw [this]; rfl
    simp only [w_c_bestOrder_0, w_c_bestOrder_1, w_c_bestOrder_4, w_c_bestOrder_5, w_c_bestOrder_6, w_c_bestOrder_9, w_c_bestOrder_11, w_c_bestOrder_12, w_c_bestOrder_13, w_c_bestOrder_16, w_c_bestOrder_19, w_c_bestOrder_22, w_c_bestOrder_23, w_c_bestOrder_24, w_c_bestOrder_25, w_c_bestOrder_28, w_c_bestOrder_29, w_c_bestOrder_32, w_c_bestOrder_33, w_c_bestOrder_36, w_c_bestOrder_39, w_c_bestOrder_40, w_c_bestOrder_41, w_c_bestOrder_44, w_c_bestOrder_45, w_c_bestOrder_48, w_c_bestOrder_49, w_c_bestOrder_52, w_c_bestOrder_55, xc_8, xc_5, xc_1, cl_15, eq_false q1, eq_false q2, xpp_1 hp, m2, c0, show (nI 0 = 0) = True by decide, i10, Bool.false_eq_true, eq_self, true_or, or_true, if_true, if_false, gv_int, gv_ref, av_some, al_some, un_int, un_ref, un_mk, ok4_0, ok4_1, ok4_2, ok4_3, ok4_4, Kn_some, Kn_none, true_and, and_true]
    refine JQ.mk ?_
    refine e_m_bestOrder c1 (fun f _ => ?_) (fun z => by rw [ein] at z; cases z)
    refine ⟨?_, rfl, K, C, N, h.sv.scr (by omega)⟩
    rw [e0]; rfl
  have gC : (nI C = 0) = False := eq_false (nI_ne0 (by omega) (by omega))
  have ht : ∀ j, ¬ j < 7 → M 17 j = M 4 j := fun j hj => (d3 j hj).trans (congrFun d1.symm j)
  simp only [w_c_bestOrder_0, w_c_bestOrder_1, w_c_bestOrder_4, w_c_bestOrder_5, w_c_bestOrder_6, w_c_bestOrder_9, w_c_bestOrder_11, w_c_bestOrder_12, w_c_bestOrder_13, w_c_bestOrder_16, w_c_bestOrder_19, w_c_bestOrder_22, w_c_bestOrder_23, w_c_bestOrder_24, w_c_bestOrder_25, w_c_bestOrder_28, w_c_bestOrder_29, w_c_bestOrder_32, w_c_bestOrder_33, w_c_bestOrder_36, w_c_bestOrder_39, w_c_bestOrder_40, w_c_bestOrder_41, w_c_bestOrder_44, w_c_bestOrder_45, w_c_bestOrder_48, w_c_bestOrder_49, w_c_bestOrder_52, w_c_bestOrder_55, xc_8, xc_5, xc_1, cl_15, eq_false q1, eq_false q2, xpp_1 hp, m2, gC, cl_0, cl_1, cl_3, cl_5, cl_7, cl_12, cl_15, cl_21, cl_29, zpp hp, i10, Bool.false_eq_true, eq_self, true_or, or_true, if_true, if_false, gv_int, gv_ref, av_some, al_some, un_int, un_ref, un_mk, ok4_0, ok4_1, ok4_2, ok4_3, ok4_4, Kn_some, Kn_none, true_and, and_true]
  refine c_bestOrderOf hp c2 hv ht (by omega) (fun k => allE_b h.wb m5 m6 _ _) (fun M' hF hbj hl => ?_)
  rw [d1] at hbj hl ⊢
  obtain ⟨j, j1, j2⟩ := hbj
  have hFX : FX M M' := ⟨fun c hc => hF.1 c (by omega), fun j _ => congrFun (hF.1 58 (by decide)) j, hF.2⟩
  have hX : JX M' A B K C N := h.fx hFX (h9.fx hFX (hF.1 21 (by decide)) (hF.1 28 (by decide))) (h10.fx hFX (hF.1 29 (by decide)) (hF.1 36 (by decide)) (hF.1 37 (by decide)))
  have eb : boE (wT M') (M' 63) (M' 65) N C = boE (wT M) (M 63) (M 65) N C := by rw [hFX.wTe, hFX.1 63 (by decide), hFX.1 65 (by decide)]
  have np : ¬ (boE (wT M) (M 63) (M 65) N C).1 < 0 := by rw [j1]; exact nI_pos (by omega)
  by_cases q0 : x = 0
  · simp only [w_c_bestOrder_0, w_c_bestOrder_1, w_c_bestOrder_4, w_c_bestOrder_5, w_c_bestOrder_6, w_c_bestOrder_9, w_c_bestOrder_11, w_c_bestOrder_12, w_c_bestOrder_13, w_c_bestOrder_16, w_c_bestOrder_19, w_c_bestOrder_22, w_c_bestOrder_23, w_c_bestOrder_24, w_c_bestOrder_25, w_c_bestOrder_28, w_c_bestOrder_29, w_c_bestOrder_32, w_c_bestOrder_33, w_c_bestOrder_36, w_c_bestOrder_39, w_c_bestOrder_40, w_c_bestOrder_41, w_c_bestOrder_44, w_c_bestOrder_45, w_c_bestOrder_48, w_c_bestOrder_49, w_c_bestOrder_52, w_c_bestOrder_55, xc_8, xc_5, xc_1, cl_15, eq_true q0, i10, Bool.false_eq_true, eq_self, true_or, or_true, if_true, if_false, gv_int, gv_ref, av_some, al_some, un_int, un_ref, un_mk, ok4_0, ok4_1, ok4_2, ok4_3, ok4_4, Kn_some, Kn_none, true_and, and_true]
    refine JQ.mk ?_
    refine e_m_bestOrder hX.2.1.1 (fun f _ => ?_) (fun z => by rw [ein] at z; cases z)
    refine ⟨?_, rfl, K, C, N, hX.sv.scr (by omega)⟩
    rw [eb]; unfold boA; rw [if_neg np, if_pos q0]
  · simp only [w_c_bestOrder_0, w_c_bestOrder_1, w_c_bestOrder_4, w_c_bestOrder_5, w_c_bestOrder_6, w_c_bestOrder_9, w_c_bestOrder_11, w_c_bestOrder_12, w_c_bestOrder_13, w_c_bestOrder_16, w_c_bestOrder_19, w_c_bestOrder_22, w_c_bestOrder_23, w_c_bestOrder_24, w_c_bestOrder_25, w_c_bestOrder_28, w_c_bestOrder_29, w_c_bestOrder_32, w_c_bestOrder_33, w_c_bestOrder_36, w_c_bestOrder_39, w_c_bestOrder_40, w_c_bestOrder_41, w_c_bestOrder_44, w_c_bestOrder_45, w_c_bestOrder_48, w_c_bestOrder_49, w_c_bestOrder_52, w_c_bestOrder_55, xc_8, xc_5, xc_1, cl_15, eq_false q0, e_t_leastByOrder, hl, cl_0, cl_1, cl_3, cl_5, cl_7, cl_12, cl_15, cl_21, cl_29, zpp hp, i10, Bool.false_eq_true, eq_self, true_or, or_true, if_true, if_false, gv_int, gv_ref, av_some, al_some, un_int, un_ref, un_mk, ok4_0, ok4_1, ok4_2, ok4_3, ok4_4, Kn_some, Kn_none, true_and, and_true]
    refine JQ.mk ?_
    refine e_m_bestOrder hX.2.1.1 (fun f _ => ?_) (fun z => by rw [ein] at z; cases z)
    refine ⟨?_, rfl, K, C, N, hX.sv.scr (by omega)⟩
    rw [eb]; unfold boA; rw [if_neg np, if_neg q0]
theorem e_c_canPart {A B K C N n m e : Nat} {M : Mm} {Q : Po} (hp : isPP A) (hc : CP M A K C N) (hn : n ≤ 999) (hm : m ≤ n) (he : e ≤ 2000) : WP 141 0 [.ref 0, .int (nI (n - m)), .int (nI m), .int (nI e), mk] [] (shw A B) (0, 0) M Q = if fe C n m e then Q (some (.int 1)) (shw A B) M else Q (some (.int 0)) (shw A B) M := by
  obtain ⟨⟨m1, m2, m3⟩, m4, m5, m6⟩ := hc
  have g2 : ¬ (2 : Int32) = 0 := by decide
  have hce : C * e ≤ 4 * e := Nat.mul_le_mul_right e m5
  have hch : C * (e / 2) ≤ 4 * (e / 2) := Nat.mul_le_mul_right _ m5
  have e1 : e / 2 * C = C * (e / 2) := Nat.mul_comm _ _
  have e2 : e * C = C * e := Nat.mul_comm _ _
  have key : ∀ lu, lu = (if e / 2 * C < m then e / 2 * C else m) → ((nI (n - m) < nI (C * e) - nI (2 * lu)) ↔ ¬ fe C n m e = true) := by
    intro lu hlu
    unfold fe
    have : lu ≤ 4000 := by rw [hlu]; split <;> omega
    rw [Int32.lt_iff_toInt_lt, pk_sub_toInt (by omega) (by omega), nI_toInt (by omega), decide_eq_true_eq, ← hlu, e2]
    omega
  by_cases q : C * (e / 2) < m
  · have p : (nI (C * (e / 2)) < nI m) = True := eq_true (nI_lt q (by omega))
    have key := key (C * (e / 2)) (by rw [e1, if_pos q])
    have e3 : (2 : Int32) * nI (C * (e / 2)) = nI (2 * (C * (e / 2))) := pk_mul 2 _
    cases r : fe C n m e
    · have p3 := eq_true (key.mpr (by rw [r]; decide))
      simp only [w_c_canPart_0, w_c_canPart_1, w_c_canPart_2, w_c_canPart_5, w_c_canPart_8, w_c_canPart_9, w_c_canPart_10, w_c_canPart_11, w_c_canPart_12, w_c_canPart_15, w_c_canPart_17, w_c_canPart_18, w_c_canPart_21, w_c_canPart_24, w_c_canPart_25, w_c_canPart_26, w_c_canPart_27, w_c_canPart_29, w_c_canPart_30, w_c_canPart_31, w_c_canPart_32, w_c_canPart_35, w_c_canPart_36, w_c_canPart_39, w_c_canPart_40, xc_8, xpp_1 hp, m2, g2, not_false_eq_true, d2 (show e < 2 ^ 31 by omega), pk_mul, p, e3, p3, i10, Bool.false_eq_true, eq_self, true_or, or_true, if_true, if_false, gv_int, gv_ref, av_some, al_some, un_int, un_ref, un_mk, ok4_0, ok4_1, ok4_2, ok4_3, ok4_4, Kn_some, Kn_none, true_and, and_true]
    · have p3 := eq_false (fun z => key.mp z r)
      simp only [w_c_canPart_0, w_c_canPart_1, w_c_canPart_2, w_c_canPart_5, w_c_canPart_8, w_c_canPart_9, w_c_canPart_10, w_c_canPart_11, w_c_canPart_12, w_c_canPart_15, w_c_canPart_17, w_c_canPart_18, w_c_canPart_21, w_c_canPart_24, w_c_canPart_25, w_c_canPart_26, w_c_canPart_27, w_c_canPart_29, w_c_canPart_30, w_c_canPart_31, w_c_canPart_32, w_c_canPart_35, w_c_canPart_36, w_c_canPart_39, w_c_canPart_40, xc_8, xpp_1 hp, m2, g2, not_false_eq_true, d2 (show e < 2 ^ 31 by omega), pk_mul, p, e3, p3, i10, Bool.false_eq_true, eq_self, true_or, or_true, if_true, if_false, gv_int, gv_ref, av_some, al_some, un_int, un_ref, un_mk, ok4_0, ok4_1, ok4_2, ok4_3, ok4_4, Kn_some, Kn_none, true_and, and_true]
  · have p : (nI (C * (e / 2)) < nI m) = False := eq_false (nI_nlt (by omega) (by omega))
    have key := key m (by rw [e1, if_neg q])
    have e3 : (2 : Int32) * nI m = nI (2 * m) := pk_mul 2 _
    cases r : fe C n m e
    · have p3 := eq_true (key.mpr (by rw [r]; decide))
      simp only [w_c_canPart_0, w_c_canPart_1, w_c_canPart_2, w_c_canPart_5, w_c_canPart_8, w_c_canPart_9, w_c_canPart_10, w_c_canPart_11, w_c_canPart_12, w_c_canPart_15, w_c_canPart_17, w_c_canPart_18, w_c_canPart_21, w_c_canPart_24, w_c_canPart_25, w_c_canPart_26, w_c_canPart_27, w_c_canPart_29, w_c_canPart_30, w_c_canPart_31, w_c_canPart_32, w_c_canPart_35, w_c_canPart_36, w_c_canPart_39, w_c_canPart_40, xc_8, xpp_1 hp, m2, g2, not_false_eq_true, d2 (show e < 2 ^ 31 by omega), pk_mul, p, e3, p3, i10, Bool.false_eq_true, eq_self, true_or, or_true, if_true, if_false, gv_int, gv_ref, av_some, al_some, un_int, un_ref, un_mk, ok4_0, ok4_1, ok4_2, ok4_3, ok4_4, Kn_some, Kn_none, true_and, and_true]
    · have p3 := eq_false (fun z => key.mp z r)
      simp only [w_c_canPart_0, w_c_canPart_1, w_c_canPart_2, w_c_canPart_5, w_c_canPart_8, w_c_canPart_9, w_c_canPart_10, w_c_canPart_11, w_c_canPart_12, w_c_canPart_15, w_c_canPart_17, w_c_canPart_18, w_c_canPart_21, w_c_canPart_24, w_c_canPart_25, w_c_canPart_26, w_c_canPart_27, w_c_canPart_29, w_c_canPart_30, w_c_canPart_31, w_c_canPart_32, w_c_canPart_35, w_c_canPart_36, w_c_canPart_39, w_c_canPart_40, xc_8, xpp_1 hp, m2, g2, not_false_eq_true, d2 (show e < 2 ^ 31 by omega), pk_mul, p, e3, p3, i10, Bool.false_eq_true, eq_self, true_or, or_true, if_true, if_false, gv_int, gv_ref, av_some, al_some, un_int, un_ref, un_mk, ok4_0, ok4_1, ok4_2, ok4_3, ok4_4, Kn_some, Kn_none, true_and, and_true]
theorem j_sweets {A B : Nat} {M : Mm} {x y : Int32} (hj : JJ M A B) : WP 125 0 [.ref 0, .int x, .int y, mk, mk, mk] [] (shw A B) (0, 0) M (JQ 202 [.ref 58, .int x, .int y, mk, mk, mk, mk]) := by
  obtain ⟨K, C, N, h⟩ := id hj
  obtain ⟨h0, h1, h2, h3, h4, h5, h6, h7, h8, h9, h10⟩ := id h
  have hp := h0.pp
  obtain ⟨c1, c2, c3, c4, c5, c6, c7, c8⟩ := id h1
  obtain ⟨d1, d2, d3, d4⟩ := id h2
  obtain ⟨⟨m1, m2, m3⟩, m4, m5, m6⟩ := id c2.1
  have hv : HV (M 4) C := by rw [d1]; exact d2
  have ei : inb x 1000 = decide (¬ x < 0 ∧ ¬ 999 < x) := inb_r 999 rfl
  have e0 : (0 ≤ y.toInt ∧ y.toInt ≤ x.toInt) ↔ (¬ y < 0 ∧ ¬ x < y) := by
    rw [Int32.lt_iff_toInt_lt, Int32.lt_iff_toInt_lt, show (0 : Int32).toInt = 0 from rfl]
    omega
  have out : ¬ (inb x 1000 = true ∧ (0 ≤ y.toInt ∧ y.toInt ≤ x.toInt)) → JQ 202 [.ref 58, .int x, .int y, mk, mk, mk, mk] (some (.int (-1000000002))) (shw A B) M := by
    intro e
    refine JQ.mk ?_
    rw [e_m_sweets c1, if_neg e]
    exact ⟨rfl, rfl, hj⟩
  by_cases q1 : x < 0
  · simp only [w_c_sweets_0, w_c_sweets_1, w_c_sweets_4, w_c_sweets_5, w_c_sweets_8, w_c_sweets_11, w_c_sweets_12, w_c_sweets_15, w_c_sweets_16, w_c_sweets_17, w_c_sweets_20, w_c_sweets_22, w_c_sweets_23, w_c_sweets_24, w_c_sweets_27, w_c_sweets_30, w_c_sweets_31, w_c_sweets_32, w_c_sweets_35, w_c_sweets_36, w_c_sweets_37, w_c_sweets_38, w_c_sweets_39, w_c_sweets_40, w_c_sweets_42, w_c_sweets_44, w_c_sweets_45, w_c_sweets_46, w_c_sweets_50, w_c_sweets_53, w_c_sweets_54, w_c_sweets_55, w_c_sweets_56, w_c_sweets_57, w_c_sweets_58, w_c_sweets_60, w_c_sweets_63, w_c_sweets_66, w_c_sweets_69, w_c_sweets_72, w_c_sweets_74, w_c_sweets_76, w_c_sweets_77, w_c_sweets_78, w_c_sweets_79, xc_8, cl_0, eq_true q1, i10, Bool.false_eq_true, eq_self, true_or, or_true, if_true, if_false, gv_int, gv_ref, av_some, al_some, un_int, un_ref, un_mk, ok4_0, ok4_1, ok4_2, ok4_3, ok4_4, Kn_some, Kn_none, true_and, and_true]
    exact out (fun z => by have z := z.1; rw [ei] at z; exact (of_decide_eq_true z).1 q1)
  by_cases q2 : 999 < x
  · simp only [w_c_sweets_0, w_c_sweets_1, w_c_sweets_4, w_c_sweets_5, w_c_sweets_8, w_c_sweets_11, w_c_sweets_12, w_c_sweets_15, w_c_sweets_16, w_c_sweets_17, w_c_sweets_20, w_c_sweets_22, w_c_sweets_23, w_c_sweets_24, w_c_sweets_27, w_c_sweets_30, w_c_sweets_31, w_c_sweets_32, w_c_sweets_35, w_c_sweets_36, w_c_sweets_37, w_c_sweets_38, w_c_sweets_39, w_c_sweets_40, w_c_sweets_42, w_c_sweets_44, w_c_sweets_45, w_c_sweets_46, w_c_sweets_50, w_c_sweets_53, w_c_sweets_54, w_c_sweets_55, w_c_sweets_56, w_c_sweets_57, w_c_sweets_58, w_c_sweets_60, w_c_sweets_63, w_c_sweets_66, w_c_sweets_69, w_c_sweets_72, w_c_sweets_74, w_c_sweets_76, w_c_sweets_77, w_c_sweets_78, w_c_sweets_79, xc_8, cl_0, eq_false q1, eq_true q2, i10, Bool.false_eq_true, eq_self, true_or, or_true, if_true, if_false, gv_int, gv_ref, av_some, al_some, un_int, un_ref, un_mk, ok4_0, ok4_1, ok4_2, ok4_3, ok4_4, Kn_some, Kn_none, true_and, and_true]
    exact out (fun z => by have z := z.1; rw [ei] at z; exact (of_decide_eq_true z).2 q2)
  by_cases q3 : y < 0
  · simp only [w_c_sweets_0, w_c_sweets_1, w_c_sweets_4, w_c_sweets_5, w_c_sweets_8, w_c_sweets_11, w_c_sweets_12, w_c_sweets_15, w_c_sweets_16, w_c_sweets_17, w_c_sweets_20, w_c_sweets_22, w_c_sweets_23, w_c_sweets_24, w_c_sweets_27, w_c_sweets_30, w_c_sweets_31, w_c_sweets_32, w_c_sweets_35, w_c_sweets_36, w_c_sweets_37, w_c_sweets_38, w_c_sweets_39, w_c_sweets_40, w_c_sweets_42, w_c_sweets_44, w_c_sweets_45, w_c_sweets_46, w_c_sweets_50, w_c_sweets_53, w_c_sweets_54, w_c_sweets_55, w_c_sweets_56, w_c_sweets_57, w_c_sweets_58, w_c_sweets_60, w_c_sweets_63, w_c_sweets_66, w_c_sweets_69, w_c_sweets_72, w_c_sweets_74, w_c_sweets_76, w_c_sweets_77, w_c_sweets_78, w_c_sweets_79, xc_8, cl_0, eq_false q1, eq_false q2, eq_true q3, i10, Bool.false_eq_true, eq_self, true_or, or_true, if_true, if_false, gv_int, gv_ref, av_some, al_some, un_int, un_ref, un_mk, ok4_0, ok4_1, ok4_2, ok4_3, ok4_4, Kn_some, Kn_none, true_and, and_true]
    exact out (fun z => (e0.mp z.2).1 q3)
  by_cases q4 : x < y
  · simp only [w_c_sweets_0, w_c_sweets_1, w_c_sweets_4, w_c_sweets_5, w_c_sweets_8, w_c_sweets_11, w_c_sweets_12, w_c_sweets_15, w_c_sweets_16, w_c_sweets_17, w_c_sweets_20, w_c_sweets_22, w_c_sweets_23, w_c_sweets_24, w_c_sweets_27, w_c_sweets_30, w_c_sweets_31, w_c_sweets_32, w_c_sweets_35, w_c_sweets_36, w_c_sweets_37, w_c_sweets_38, w_c_sweets_39, w_c_sweets_40, w_c_sweets_42, w_c_sweets_44, w_c_sweets_45, w_c_sweets_46, w_c_sweets_50, w_c_sweets_53, w_c_sweets_54, w_c_sweets_55, w_c_sweets_56, w_c_sweets_57, w_c_sweets_58, w_c_sweets_60, w_c_sweets_63, w_c_sweets_66, w_c_sweets_69, w_c_sweets_72, w_c_sweets_74, w_c_sweets_76, w_c_sweets_77, w_c_sweets_78, w_c_sweets_79, xc_8, cl_0, eq_false q1, eq_false q2, eq_false q3, eq_true q4, i10, Bool.false_eq_true, eq_self, true_or, or_true, if_true, if_false, gv_int, gv_ref, av_some, al_some, un_int, un_ref, un_mk, ok4_0, ok4_1, ok4_2, ok4_3, ok4_4, Kn_some, Kn_none, true_and, and_true]
    exact out (fun z => (e0.mp z.2).2 q4)
  have ein : inb x 1000 = true := by rw [ei]; exact decide_eq_true ⟨q1, q2⟩
  have hz := e0.mpr ⟨q3, q4⟩
  have hboth : inb x 1000 = true ∧ (0 ≤ y.toInt ∧ y.toInt ≤ x.toInt) := ⟨ein, hz⟩
  obtain ⟨n, n1, rfl⟩ := inb_of ein (by decide)
  rw [nI_toInt (show n < 2 ^ 31 by omega)] at hz
  obtain ⟨m, k1, rfl⟩ := inb_of (k := y) (c := 1000) (by rw [inb_iff]; omega) (by decide)
  rw [nI_toInt (show m < 2 ^ 31 by omega)] at hz
  have hmn : m ≤ n := by omega
  by_cases c0 : C = 0
  · simp only [w_c_sweets_0, w_c_sweets_1, w_c_sweets_4, w_c_sweets_5, w_c_sweets_8, w_c_sweets_11, w_c_sweets_12, w_c_sweets_15, w_c_sweets_16, w_c_sweets_17, w_c_sweets_20, w_c_sweets_22, w_c_sweets_23, w_c_sweets_24, w_c_sweets_27, w_c_sweets_30, w_c_sweets_31, w_c_sweets_32, w_c_sweets_35, w_c_sweets_36, w_c_sweets_37, w_c_sweets_38, w_c_sweets_39, w_c_sweets_40, w_c_sweets_42, w_c_sweets_44, w_c_sweets_45, w_c_sweets_46, w_c_sweets_50, w_c_sweets_53, w_c_sweets_54, w_c_sweets_55, w_c_sweets_56, w_c_sweets_57, w_c_sweets_58, w_c_sweets_60, w_c_sweets_63, w_c_sweets_66, w_c_sweets_69, w_c_sweets_72, w_c_sweets_74, w_c_sweets_76, w_c_sweets_77, w_c_sweets_78, w_c_sweets_79, xc_8, cl_0, eq_false q1, eq_false q2, eq_false q3, eq_false q4, xpp_1 hp, m2, c0, show ((0 : Int32) < nI 0) = False by decide, i10, Bool.false_eq_true, eq_self, true_or, or_true, if_true, if_false, gv_int, gv_ref, av_some, al_some, un_int, un_ref, un_mk, ok4_0, ok4_1, ok4_2, ok4_3, ok4_4, Kn_some, Kn_none, true_and, and_true]
    refine JQ.mk ?_
    rw [e_m_sweets c1, if_pos hboth, if_pos c0]
    exact ⟨rfl, rfl, hj⟩
  have gC : (0 < nI C) = True := eq_true (nI_lt (a := 0) (by omega) (by omega))
  have gC0 : ¬ nI C = 0 := nI_ne0 (by omega) (by omega)
  have hle : (n + m) / C ≤ n + m := Nat.div_le_self _ _
  simp only [w_c_sweets_0, w_c_sweets_1, w_c_sweets_4, w_c_sweets_5, w_c_sweets_8, w_c_sweets_11, w_c_sweets_12, w_c_sweets_15, w_c_sweets_16, w_c_sweets_17, w_c_sweets_20, w_c_sweets_22, w_c_sweets_23, w_c_sweets_24, w_c_sweets_27, w_c_sweets_30, w_c_sweets_31, w_c_sweets_32, w_c_sweets_35, w_c_sweets_36, w_c_sweets_37, w_c_sweets_38, w_c_sweets_39, w_c_sweets_40, w_c_sweets_42, w_c_sweets_44, w_c_sweets_45, w_c_sweets_46, w_c_sweets_50, w_c_sweets_53, w_c_sweets_54, w_c_sweets_55, w_c_sweets_56, w_c_sweets_57, w_c_sweets_58, w_c_sweets_60, w_c_sweets_63, w_c_sweets_66, w_c_sweets_69, w_c_sweets_72, w_c_sweets_74, w_c_sweets_76, w_c_sweets_77, w_c_sweets_78, w_c_sweets_79, xc_8, cl_0, eq_false q1, eq_false q2, eq_false q3, eq_false q4, xpp_1 hp, m2, gC, gC0, not_false_eq_true, nI_add, pk_div (show n + m < 2 ^ 31 by omega) (show 0 < C by omega) (show C < 2 ^ 31 by omega), i10, Bool.false_eq_true, eq_self, true_or, or_true, if_true, if_false, gv_int, gv_ref, av_some, al_some, un_int, un_ref, un_mk, ok4_0, ok4_1, ok4_2, ok4_3, ok4_4, Kn_some, Kn_none, true_and, and_true]
  have fin : ∀ e, e = swX C n m ((n + m) / C + 1) → WP 125 72 [.ref 0, .int (nI n), .int (nI m), .int (nI C), .int (nI (n + m)), .int (nI e)] [] (shw A B) (0, 0) M (JQ 202 [.ref 58, .int (nI n), .int (nI m), mk, mk, mk, mk]) := by
    intro e he
    simp only [w_c_sweets_0, w_c_sweets_1, w_c_sweets_4, w_c_sweets_5, w_c_sweets_8, w_c_sweets_11, w_c_sweets_12, w_c_sweets_15, w_c_sweets_16, w_c_sweets_17, w_c_sweets_20, w_c_sweets_22, w_c_sweets_23, w_c_sweets_24, w_c_sweets_27, w_c_sweets_30, w_c_sweets_31, w_c_sweets_32, w_c_sweets_35, w_c_sweets_36, w_c_sweets_37, w_c_sweets_38, w_c_sweets_39, w_c_sweets_40, w_c_sweets_42, w_c_sweets_44, w_c_sweets_45, w_c_sweets_46, w_c_sweets_50, w_c_sweets_53, w_c_sweets_54, w_c_sweets_55, w_c_sweets_56, w_c_sweets_57, w_c_sweets_58, w_c_sweets_60, w_c_sweets_63, w_c_sweets_66, w_c_sweets_69, w_c_sweets_72, w_c_sweets_74, w_c_sweets_76, w_c_sweets_77, w_c_sweets_78, w_c_sweets_79, xc_8, cl_0, i10, Bool.false_eq_true, eq_self, true_or, or_true, if_true, if_false, gv_int, gv_ref, av_some, al_some, un_int, un_ref, un_mk, ok4_0, ok4_1, ok4_2, ok4_3, ok4_4, Kn_some, Kn_none, true_and, and_true]
    refine JQ.mk ?_
    rw [e_m_sweets c1, if_pos hboth, if_neg c0]
    exact ⟨by rw [nI_clamp (show n < 2 ^ 31 by omega), nI_clamp (show m < 2 ^ 31 by omega), ← he], rfl, hj⟩
  have key : ∀ e, e ≤ (n + m) / C → swX C n m (e + 1) = swX C n m ((n + m) / C + 1) → WP 125 48 [.ref 0, .int (nI n), .int (nI m), .int (nI C), .int (nI (n + m)), .int (nI e)] [] (shw A B) (0, 0) M (JQ 202 [.ref 58, .int (nI n), .int (nI m), mk, mk, mk, mk]) := by
    intro e
    induction e with
    | zero =>
      intro _ hs
      rw [w_c_sweets_48]
      simp only [w_c_sweets_0, w_c_sweets_1, w_c_sweets_4, w_c_sweets_5, w_c_sweets_8, w_c_sweets_11, w_c_sweets_12, w_c_sweets_15, w_c_sweets_16, w_c_sweets_17, w_c_sweets_20, w_c_sweets_22, w_c_sweets_23, w_c_sweets_24, w_c_sweets_27, w_c_sweets_30, w_c_sweets_31, w_c_sweets_32, w_c_sweets_35, w_c_sweets_36, w_c_sweets_37, w_c_sweets_38, w_c_sweets_39, w_c_sweets_40, w_c_sweets_42, w_c_sweets_44, w_c_sweets_45, w_c_sweets_46, w_c_sweets_50, w_c_sweets_53, w_c_sweets_54, w_c_sweets_55, w_c_sweets_56, w_c_sweets_57, w_c_sweets_58, w_c_sweets_60, w_c_sweets_63, w_c_sweets_66, w_c_sweets_69, w_c_sweets_74, w_c_sweets_76, w_c_sweets_77, w_c_sweets_78, w_c_sweets_79, xc_8, cl_0, show ((0 : Int32) < nI 0) = False by decide, i10, Bool.false_eq_true, eq_self, true_or, or_true, if_true, if_false, gv_int, gv_ref, av_some, al_some, un_int, un_ref, un_mk, ok4_0, ok4_1, ok4_2, ok4_3, ok4_4, Kn_some, Kn_none, true_and, and_true]
      refine fin 0 ?_
      rw [← hs, swX_s, show swX C n m 0 = 0 from rfl]
      split <;> rfl
    | succ e ih =>
      intro hle2 hs
      have g1 : (0 < nI (e + 1)) = True := eq_true (nI_lt (a := 0) (by omega) (by omega))
      rw [swX_s] at hs
      rw [w_c_sweets_48]
      cases r : fe C n m (e + 1)
      · rw [r, if_neg (by decide)] at hs
        simp only [w_c_sweets_0, w_c_sweets_1, w_c_sweets_4, w_c_sweets_5, w_c_sweets_8, w_c_sweets_11, w_c_sweets_12, w_c_sweets_15, w_c_sweets_16, w_c_sweets_17, w_c_sweets_20, w_c_sweets_22, w_c_sweets_23, w_c_sweets_24, w_c_sweets_27, w_c_sweets_30, w_c_sweets_31, w_c_sweets_32, w_c_sweets_35, w_c_sweets_36, w_c_sweets_37, w_c_sweets_38, w_c_sweets_39, w_c_sweets_40, w_c_sweets_42, w_c_sweets_44, w_c_sweets_45, w_c_sweets_46, w_c_sweets_50, w_c_sweets_53, w_c_sweets_54, w_c_sweets_55, w_c_sweets_56, w_c_sweets_57, w_c_sweets_58, w_c_sweets_60, w_c_sweets_63, w_c_sweets_66, w_c_sweets_69, w_c_sweets_74, w_c_sweets_76, w_c_sweets_77, w_c_sweets_78, w_c_sweets_79, xc_8, cl_0, g1, pk_sub hmn, e_c_canPart hp c2.1 (show n ≤ 999 by omega) hmn (show e + 1 ≤ 2000 by omega), r, cl_0, cl_1, cl_3, cl_5, cl_7, cl_12, cl_15, cl_21, cl_29, zpp hp, nI_m1, i10, Bool.false_eq_true, eq_self, true_or, or_true, if_true, if_false, gv_int, gv_ref, av_some, al_some, un_int, un_ref, un_mk, ok4_0, ok4_1, ok4_2, ok4_3, ok4_4, Kn_some, Kn_none, true_and, and_true]
        exact ih (by omega) hs
      · rw [r, if_pos rfl] at hs
        simp only [w_c_sweets_0, w_c_sweets_1, w_c_sweets_4, w_c_sweets_5, w_c_sweets_8, w_c_sweets_11, w_c_sweets_12, w_c_sweets_15, w_c_sweets_16, w_c_sweets_17, w_c_sweets_20, w_c_sweets_22, w_c_sweets_23, w_c_sweets_24, w_c_sweets_27, w_c_sweets_30, w_c_sweets_31, w_c_sweets_32, w_c_sweets_35, w_c_sweets_36, w_c_sweets_37, w_c_sweets_38, w_c_sweets_39, w_c_sweets_40, w_c_sweets_42, w_c_sweets_44, w_c_sweets_45, w_c_sweets_46, w_c_sweets_50, w_c_sweets_53, w_c_sweets_54, w_c_sweets_55, w_c_sweets_56, w_c_sweets_57, w_c_sweets_58, w_c_sweets_60, w_c_sweets_63, w_c_sweets_66, w_c_sweets_69, w_c_sweets_74, w_c_sweets_76, w_c_sweets_77, w_c_sweets_78, w_c_sweets_79, xc_8, cl_0, g1, pk_sub hmn, e_c_canPart hp c2.1 (show n ≤ 999 by omega) hmn (show e + 1 ≤ 2000 by omega), r, cl_0, cl_1, cl_3, cl_5, cl_7, cl_12, cl_15, cl_21, cl_29, zpp hp, i10, Bool.false_eq_true, eq_self, true_or, or_true, if_true, if_false, gv_int, gv_ref, av_some, al_some, un_int, un_ref, un_mk, ok4_0, ok4_1, ok4_2, ok4_3, ok4_4, Kn_some, Kn_none, true_and, and_true]
        exact fin (e + 1) hs
  exact key ((n + m) / C) (Nat.le_refl _) rfl
