/-! both try alike -/
def FX (M M' : Mm) : Prop := (∀ c, (c ≤ 5 ∨ (7 ≤ c ∧ c ≤ 14) ∨ (38 ≤ c ∧ c ≤ 57) ∨ (59 ≤ c ∧ c ≤ 66) ∨ c = 73 ∨ (76 ≤ c ∧ c ≤ 78) ∨ (81 ≤ c ∧ c ≤ 84)) → M' c = M c) ∧ (∀ j, ¬ j = 34 → M' 58 j = M 58 j) ∧ ∀ j, ¬ j < 7 → M' 17 j = M 17 j
theorem FX.tr {M M' M'' : Mm} (h : FX M M') (h' : FX M' M'') : FX M M'' :=
  ⟨fun c hc => (h'.1 c hc).trans (h.1 c hc), fun j hj => (h'.2.1 j hj).trans (h.2.1 j hj), fun j hj => (h'.2.2 j hj).trans (h.2.2 j hj)⟩
theorem FX.wTe {M M' : Mm} (h : FX M M') : wT M' = wT M := by
  have ek : kN M' = kN M := by unfold kN; rw [h.1 64 (by decide)]
  have ew : wN M' = wN M := by unfold wN; rw [h.1 61 (by decide), h.1 62 (by decide)]
  unfold wT
  rw [ew, ek]
theorem JX.fx {M M' : Mm} {A B K C N : Nat} (h : JX M A B K C N) (hf : FX M M') (hs : JS M' C N) (hg : JG M' C N) : JX M' A B K C N := by
  obtain ⟨h0, h1, h2, h3, h4, h5, h6, h7, h8, h9, h10⟩ := h
  obtain ⟨f1, f2, f3⟩ := id hf
  refine ⟨h0, h1.fr h0 (fun c c1 c2 => f1 c (by omega)) ⟨f2 0 (by decide), f2 3 (by decide), f2 7 (by decide)⟩ ⟨f1 59 (by decide), f1 60 (by decide), f1 61 (by decide), f1 62 (by decide), f1 63 (by decide), f1 64 (by decide)⟩, ?_, ?_, ?_, ?_, ?_, ?_, ?_, hs, hg⟩
  · rw [f1 4 (by decide), f1 65 (by decide)]
    exact ⟨h2.1, h2.2.1, fun j hj => (f3 j hj).trans (h2.2.2.1 j hj), h2.2.2.2⟩
  · rw [f1 1 (by decide), f1 2 (by decide), f2 12 (by decide), f2 13 (by decide), f1 66 (by decide)]; exact h3
  · rw [f1 7 (by decide), f1 8 (by decide), f2 26 (by decide), f1 73 (by decide)]; exact h4
  · rw [f1 9 (by decide), f1 10 (by decide), f1 11 (by decide), f1 83 (by decide), f1 84 (by decide)]; exact h5
  · rw [f1 12 (by decide), f2 30 (by decide), f1 76 (by decide), f1 77 (by decide), f1 78 (by decide)]; exact h6
  · rw [f1 12 (by decide), f2 37 (by decide), f1 13 (by decide), f1 14 (by decide), f1 81 (by decide), f1 82 (by decide)]; exact h7
  · rw [f1 0 (by decide), f2 10 (by decide)]; exact h8
theorem JS.fx {M M' : Mm} {C N : Nat} (h : JS M C N) (hf : FX M M') (h21 : M' 21 = M 21) (h28 : M' 28 = M 28) : JS M' C N := by
  unfold JS SHK at h ⊢
  rw [h21, h28, hf.wTe, hf.1 63 (by decide)]
  exact h
theorem JG.fx {M M' : Mm} {C N : Nat} (h : JG M C N) (hf : FX M M') (h29 : M' 29 = M 29) (h36 : M' 36 = M 36) (h37 : M' 37 = M 37) : JG M' C N := by
  unfold JG GK GI at h ⊢
  rw [h29, h36, h37, hf.wTe, hf.1 63 (by decide), hf.1 76 (by decide), hf.1 77 (by decide), hf.1 78 (by decide), hf.2.1 30 (by decide)]
  exact h
theorem FX.s {M : Mm} {a : Nat} {f : Nat → Int32} (ha : a = 6 ∨ a = 15 ∨ a = 19 ∨ a = 20 ∨ a = 74 ∨ a = 75) : FX M (st M a f) :=
  ⟨fun c hc => if_neg (by omega), fun j _ => congrFun (if_neg (by omega)) j, fun j _ => congrFun (if_neg (by omega)) j⟩
theorem FX.s17 {M : Mm} {f : Nat → Int32} (hf : ∀ j, ¬ j < 7 → f j = M 17 j) : FX M (st M 17 f) :=
  ⟨fun c hc => if_neg (by omega), fun j _ => rfl, hf⟩
theorem JX.scr {M : Mm} {A B K C N a : Nat} {f : Nat → Int32} (h : JX M A B K C N) (ha : a = 6 ∨ a = 15 ∨ a = 19 ∨ a = 20 ∨ a = 74 ∨ a = 75) : JX (st M a f) A B K C N :=
  h.fx (FX.s ha) (h.2.2.2.2.2.2.2.2.2.1.fx (FX.s ha) (if_neg (by omega)) (if_neg (by omega))) (h.2.2.2.2.2.2.2.2.2.2.fx (FX.s ha) (if_neg (by omega)) (if_neg (by omega)) (if_neg (by omega)))
theorem JX.s17 {M : Mm} {A B K C N : Nat} {f : Nat → Int32} (h : JX M A B K C N) (hf : ∀ j, ¬ j < 7 → f j = M 17 j) : JX (st M 17 f) A B K C N :=
  h.fx (FX.s17 hf) (h.2.2.2.2.2.2.2.2.2.1.fx (FX.s17 hf) rfl rfl) (h.2.2.2.2.2.2.2.2.2.2.fx (FX.s17 hf) rfl rfl rfl)
theorem JX.sv {M : Mm} {A B K C N : Nat} (h : JX M A B K C N) : JX (SV M) A B K C N := h.scr (a := 74) (by omega)
theorem e_t_tearsThen {A B p K C N : Nat} {M : Mm} {Q : Po} {kd : Nat → Nat} {W : Nat → Nat → Int32} {lk : Nat → Int32} (hp : isPP p) (hq : CQ M p K C N kd W lk) (hv : HV (M 17) C) (hQ : ∀ f, Q (some (.int (tearE W lk (M 17) N C))) (shw A B) (st M 19 f)) : WP 79 0 [.ref 15, .ref p] [] (shw A B) (0, 0) M Q := by
  simp only [w_t_tearsThen_0, w_t_tearsThen_1, w_t_tearsThen_4, w_t_tearsThen_5, w_t_tearsThen_6, w_t_tearsThen_9, w_t_tearsThen_12, w_t_tearsThen_13, w_t_tearsThen_16, w_t_tearsThen_17, w_t_tearsThen_20, xt_1, xt_0, cl_18, i10, Bool.false_eq_true, eq_self, true_or, or_true, if_true, if_false, gv_int, gv_ref, av_some, al_some, un_int, un_ref, un_mk, ok4_0, ok4_1, ok4_2, ok4_3, ok4_4, Kn_some, Kn_none, true_and, and_true]
  refine c_count isVV_18 hp isHH_16 hq (fun t ht => rfl) hv (fun f hw => ?_)
  have hq2 : CQ (st M (18 + 1) f) p K C N kd W lk := hq.st (T_ne (k := 0) hp).2.2.1
  simp only [w_t_tearsThen_0, w_t_tearsThen_1, w_t_tearsThen_4, w_t_tearsThen_5, w_t_tearsThen_6, w_t_tearsThen_9, w_t_tearsThen_12, w_t_tearsThen_13, w_t_tearsThen_16, w_t_tearsThen_17, w_t_tearsThen_20, xt_1, xt_0, e_v_tears isVV_18 hp hq2 hw, cl_18, i10, Bool.false_eq_true, eq_self, true_or, or_true, if_true, if_false, gv_int, gv_ref, av_some, al_some, un_int, un_ref, un_mk, ok4_0, ok4_1, ok4_2, ok4_3, ok4_4, Kn_some, Kn_none, true_and, and_true]
  exact hQ f
theorem setE_HV {W : Nat → Nat → Int32} {n c : Nat} : ∀ (f : Nat) (h : Nat → Int32), HV h c → HV (setE W n f h).2 c
  | 0, h, hv => hv
  | f + 1, h, hv => by
    rcases first_of W h n with ⟨e, -⟩ | ⟨a, b, h1, h2, h3, h4, h5, h6⟩
    · rw [setE_no e]; exact hv
    · rw [setE_yes h6 h3 h4]
      exact setE_HV f _ (HV_swp hv h3 h4)
theorem j_settled {A B : Nat} {M : Mm} {x : Int32} (hj : JJ M A B) : WP 121 0 [.ref 0, .int x, mk] [] (shw A B) (0, 0) M (JQ 192 [.ref 58, .int x, mk, mk, mk]) := by
  obtain ⟨K, C, N, h⟩ := id hj
  obtain ⟨h0, h1, h2, h3, h4, h5, h6, h7, h8, h9, h10⟩ := id h
  have hp := h0.pp
  obtain ⟨c1, c2, c3, c4, c5, c6, c7, c8⟩ := id h1
  obtain ⟨d1, d2, d3, d4⟩ := id h2
  obtain ⟨⟨m1, m2, m3⟩, m4, m5, m6⟩ := id c2.1
  have hv : HV (M 4) C := by rw [d1]; exact d2
  have ei : inb x 2 = decide (¬ x < 0 ∧ ¬ 1 < x) := inb_r 1 rfl
  have out : inb x 2 = false → JQ 192 [.ref 58, .int x, mk, mk, mk] (some (.int (-1000000002))) (shw A B) M := by
    intro e
    refine JQ.mk ?_
    rw [e_m_settled c1 d2, e]
    exact ⟨rfl, rfl, hj⟩
  by_cases q1 : x < 0
  · simp only [w_c_settled_0, w_c_settled_1, w_c_settled_4, w_c_settled_5, w_c_settled_6, w_c_settled_9, w_c_settled_11, w_c_settled_12, w_c_settled_13, w_c_settled_16, w_c_settled_17, w_c_settled_20, w_c_settled_21, w_c_settled_24, w_c_settled_27, w_c_settled_28, w_c_settled_29, w_c_settled_32, w_c_settled_33, w_c_settled_36, w_c_settled_37, w_c_settled_40, w_c_settled_41, w_c_settled_44, w_c_settled_47, xc_5, xc_8, xc_1, cl_15, eq_true q1, i10, Bool.false_eq_true, eq_self, true_or, or_true, if_true, if_false, gv_int, gv_ref, av_some, al_some, un_int, un_ref, un_mk, ok4_0, ok4_1, ok4_2, ok4_3, ok4_4, Kn_some, Kn_none, true_and, and_true]
    exact out (by rw [ei]; exact decide_eq_false (fun z => z.1 q1))
  by_cases q2 : 1 < x
  · simp only [w_c_settled_0, w_c_settled_1, w_c_settled_4, w_c_settled_5, w_c_settled_6, w_c_settled_9, w_c_settled_11, w_c_settled_12, w_c_settled_13, w_c_settled_16, w_c_settled_17, w_c_settled_20, w_c_settled_21, w_c_settled_24, w_c_settled_27, w_c_settled_28, w_c_settled_29, w_c_settled_32, w_c_settled_33, w_c_settled_36, w_c_settled_37, w_c_settled_40, w_c_settled_41, w_c_settled_44, w_c_settled_47, xc_5, xc_8, xc_1, cl_15, eq_false q1, eq_true q2, i10, Bool.false_eq_true, eq_self, true_or, or_true, if_true, if_false, gv_int, gv_ref, av_some, al_some, un_int, un_ref, un_mk, ok4_0, ok4_1, ok4_2, ok4_3, ok4_4, Kn_some, Kn_none, true_and, and_true]
    exact out (by rw [ei]; exact decide_eq_false (fun z => z.2 q2))
  have ein : inb x 2 = true := by rw [ei]; exact decide_eq_true ⟨q1, q2⟩
  have ht : ∀ j, ¬ j < 7 → M 17 j = M (3 + 1) j := fun j hj => (d3 j hj).trans (congrFun d1.symm j)
  have hset : JX (st M 17 (setE (wT M) N 50 (M 65)).2) A B K C N := h.s17 (fun j hj => (setE_far 50 (M 65) j hj).trans (d3 j hj).symm)
  by_cases q0 : x = 0
  · simp only [w_c_settled_0, w_c_settled_1, w_c_settled_4, w_c_settled_5, w_c_settled_6, w_c_settled_9, w_c_settled_11, w_c_settled_12, w_c_settled_13, w_c_settled_16, w_c_settled_17, w_c_settled_20, w_c_settled_21, w_c_settled_24, w_c_settled_27, w_c_settled_28, w_c_settled_29, w_c_settled_32, w_c_settled_33, w_c_settled_36, w_c_settled_37, w_c_settled_40, w_c_settled_41, w_c_settled_44, w_c_settled_47, xc_5, xc_8, xc_1, cl_15, eq_false q1, eq_false q2, eq_true q0, e_t_settle hp isHH_3 c2 hv ht, show (3 + 1 : Nat) = 4 from rfl, d1, cl_0, cl_1, cl_3, cl_5, cl_7, cl_12, cl_15, cl_21, cl_29, zpp hp, i10, Bool.false_eq_true, eq_self, true_or, or_true, if_true, if_false, gv_int, gv_ref, av_some, al_some, un_int, un_ref, un_mk, ok4_0, ok4_1, ok4_2, ok4_3, ok4_4, Kn_some, Kn_none, true_and, and_true]
    refine JQ.mk ?_
    refine Eq.mpr (e_m_settled c1 d2) (ite_t ein ?_)
    refine ⟨?_, rfl, K, C, N, hset.sv⟩
    unfold setA; rw [if_pos q0]; rfl
  · simp only [w_c_settled_0, w_c_settled_1, w_c_settled_4, w_c_settled_5, w_c_settled_6, w_c_settled_9, w_c_settled_11, w_c_settled_12, w_c_settled_13, w_c_settled_16, w_c_settled_17, w_c_settled_20, w_c_settled_21, w_c_settled_24, w_c_settled_27, w_c_settled_28, w_c_settled_29, w_c_settled_32, w_c_settled_33, w_c_settled_36, w_c_settled_37, w_c_settled_40, w_c_settled_41, w_c_settled_44, w_c_settled_47, xc_5, xc_8, xc_1, cl_15, eq_false q1, eq_false q2, eq_false q0, e_t_settle hp isHH_3 c2 hv ht, show (3 + 1 : Nat) = 4 from rfl, d1, cl_0, cl_1, cl_3, cl_5, cl_7, cl_12, cl_15, cl_21, cl_29, zpp hp, i10, Bool.false_eq_true, eq_self, true_or, or_true, if_true, if_false, gv_int, gv_ref, av_some, al_some, un_int, un_ref, un_mk, ok4_0, ok4_1, ok4_2, ok4_3, ok4_4, Kn_some, Kn_none, true_and, and_true]
    refine e_t_tearsThen hp hset.2.1.2.1 (setE_HV 50 (M 65) d2) (fun f => ?_)
    simp only [w_c_settled_0, w_c_settled_1, w_c_settled_4, w_c_settled_5, w_c_settled_6, w_c_settled_9, w_c_settled_11, w_c_settled_12, w_c_settled_13, w_c_settled_16, w_c_settled_17, w_c_settled_20, w_c_settled_21, w_c_settled_24, w_c_settled_27, w_c_settled_28, w_c_settled_29, w_c_settled_32, w_c_settled_33, w_c_settled_36, w_c_settled_37, w_c_settled_40, w_c_settled_41, w_c_settled_44, w_c_settled_47, xc_5, xc_8, xc_1, cl_15, i10, Bool.false_eq_true, eq_self, true_or, or_true, if_true, if_false, gv_int, gv_ref, av_some, al_some, un_int, un_ref, un_mk, ok4_0, ok4_1, ok4_2, ok4_3, ok4_4, Kn_some, Kn_none, true_and, and_true]
    refine JQ.mk ?_
    refine Eq.mpr (e_m_settled c1 d2) (ite_t ein ?_)
    refine ⟨?_, rfl, K, C, N, (hset.scr (a := 19) (by omega)).sv⟩
    unfold setA; rw [if_neg q0]; rfl
theorem e_s_least {A B : Nat} {M : Mm} {Q : Po} : WP 75 0 [.ref 21] [] (shw A B) (0, 0) M Q = Q (some (.int (M 21 2))) (shw A B) M := by
  simp only [w_s_least_0, w_s_least_1, w_s_least_4, xs_2, i10, Bool.false_eq_true, eq_self, true_or, or_true, if_true, if_false, gv_int, gv_ref, av_some, al_some, un_int, un_ref, un_mk, ok4_0, ok4_1, ok4_2, ok4_3, ok4_4, Kn_some, Kn_none, true_and, and_true]
theorem e_s_holderOf {A B t : Nat} {M : Mm} {Q : Po} (ht : t < 7) : WP 76 0 [.ref 21, .int (nI t)] [] (shw A B) (0, 0) M Q = Q (some (.int (M 28 t))) (shw A B) M := by
  simp only [w_s_holderOf_0, w_s_holderOf_1, w_s_holderOf_4, w_s_holderOf_5, w_s_holderOf_8, xs_1, e_h_holderOf isHH_27 ht, cl_27, i10, Bool.false_eq_true, eq_self, true_or, or_true, if_true, if_false, gv_int, gv_ref, av_some, al_some, un_int, un_ref, un_mk, ok4_0, ok4_1, ok4_2, ok4_3, ok4_4, Kn_some, Kn_none, true_and, and_true]
theorem j_share {A B : Nat} {M : Mm} {x : Int32} (hj : JJ M A B) : WP 122 0 [.ref 0, .int x] [] (shw A B) (0, 0) M (JQ 196 [.ref 58, .int x, mk, mk, mk, mk]) := by
  obtain ⟨K, C, N, h⟩ := id hj
  obtain ⟨h0, h1, h2, h3, h4, h5, h6, h7, h8, h9, h10⟩ := id h
  have hp := h0.pp
  obtain ⟨c1, c2, c3, c4, c5, c6, c7, c8⟩ := id h1
  obtain ⟨d1, d2, d3, d4⟩ := id h2
  obtain ⟨⟨m1, m2, m3⟩, m4, m5, m6⟩ := id c2.1
  have hv : HV (M 4) C := by rw [d1]; exact d2
  have hA := fun g => allE_b h.wb m5 m6 (M 63) g
  have hsp : ∀ M1 : Mm, spB (shV (wT M) (M 63) (M1 65) N C) (C ^ N) = shB (wT M) (M 63) C N (C ^ N) := by
    intro M1
    unfold shB
    rw [shV_h (wT M) (M 63) (M1 65) (fun _ => 0)]
  have hp16 := pow_le m5 m6
  -- behind find
  have fin : (x = -1 ∨ inb x N = true) → ¬ C = 0 → ∀ M1, FX M M1 → SHK M1 (wT M) (M 63) C N → JX M1 A B K C N → WP 122 42 [.ref 0, .int x] [] (shw A B) (0, 0) M1 (JQ 196 [.ref 58, .int x, mk, mk, mk, mk]) := by
    intro hz hC0 M1 hF hS hX
    obtain ⟨b, b1, b2, b3, b4⟩ := hS
    have hs1 := hsp M1
    have eW := hF.wTe
    have e63 := hF.1 63 (by decide)
    have hb : 0 < C → ∃ b, b < C ^ N ∧ (spB (shV (wT M1) (M1 63) (M1 65) N C) (C ^ N)).1 = nI b := by
      intro _
      rw [eW, e63, hs1]
      exact ⟨b, b2, b1⟩
    by_cases q : x = -1
    · simp only [w_c_share_0, w_c_share_1, w_c_share_2, w_c_share_5, w_c_share_6, w_c_share_9, w_c_share_10, w_c_share_13, w_c_share_16, w_c_share_18, w_c_share_19, w_c_share_20, w_c_share_23, w_c_share_26, w_c_share_29, w_c_share_30, w_c_share_31, w_c_share_32, w_c_share_35, w_c_share_36, w_c_share_39, w_c_share_42, w_c_share_43, w_c_share_44, w_c_share_47, w_c_share_48, w_c_share_51, w_c_share_54, w_c_share_57, w_c_share_58, w_c_share_61, w_c_share_62, w_c_share_65, xc_8, xc_6, cl_21, eq_true q, e_s_least, cl_0, cl_1, cl_3, cl_5, cl_7, cl_12, cl_15, cl_21, cl_29, zpp hp, i10, Bool.false_eq_true, eq_self, true_or, or_true, if_true, if_false, gv_int, gv_ref, av_some, al_some, un_int, un_ref, un_mk, ok4_0, ok4_1, ok4_2, ok4_3, ok4_4, Kn_some, Kn_none, true_and, and_true]
      refine JQ.mk ?_
      refine Eq.mpr (e_m_share hX.2.1.1 hb) (ite_t hz (ite_f hC0 (ite_t q ?_)))
      refine ⟨?_, rfl, K, C, N, hX.sv⟩
      rw [eW, e63, hs1, b3]
    · obtain ⟨t, t1, rfl⟩ := inb_of (hz.resolve_left q) (by omega)
      simp only [w_c_share_0, w_c_share_1, w_c_share_2, w_c_share_5, w_c_share_6, w_c_share_9, w_c_share_10, w_c_share_13, w_c_share_16, w_c_share_18, w_c_share_19, w_c_share_20, w_c_share_23, w_c_share_26, w_c_share_29, w_c_share_30, w_c_share_31, w_c_share_32, w_c_share_35, w_c_share_36, w_c_share_39, w_c_share_42, w_c_share_43, w_c_share_44, w_c_share_47, w_c_share_48, w_c_share_51, w_c_share_54, w_c_share_57, w_c_share_58, w_c_share_61, w_c_share_62, w_c_share_65, xc_8, xc_6, cl_21, eq_false q, e_s_holderOf (show t < 7 by omega), b4 t t1, cl_0, cl_1, cl_3, cl_5, cl_7, cl_12, cl_15, cl_21, cl_29, zpp hp, i10, Bool.false_eq_true, eq_self, true_or, or_true, if_true, if_false, gv_int, gv_ref, av_some, al_some, un_int, un_ref, un_mk, ok4_0, ok4_1, ok4_2, ok4_3, ok4_4, Kn_some, Kn_none, true_and, and_true]
      refine JQ.mk ?_
      refine Eq.mpr (e_m_share hX.2.1.1 hb) (ite_t hz (ite_f hC0 (ite_f q ?_)))
      refine ⟨?_, rfl, K, C, N, hX.sv⟩
      rw [eW, e63, hs1, b1, nI_clamp (show b < 2 ^ 31 by omega), nI_clamp (show t < 2 ^ 31 by omega)]
  have hbM : 0 < C → ∃ b, b < C ^ N ∧ (spB (shV (wT M) (M 63) (M 65) N C) (C ^ N)).1 = nI b := by
    intro hC
    rw [hsp M]
    obtain ⟨r1, r2⟩ := rr_ok C (by omega) hC N (by omega)
    have hV : ∀ k, ¬ 100000000 < shV (wT M) (M 63) (fun _ => 0) N C k := by
      intro k
      unfold shV
      split
      · intro e
        have a1 := Int32.lt_iff_toInt_lt.mp e
        have a2 := Int32.lt_iff_toInt_lt.mp (hA (gvF (fun _ => 0) C N k))
        omega
      · decide
    rcases spB_form hV (C ^ N) with ⟨-, z⟩ | ⟨b, b1, b2, -⟩
    · refine absurd ?_ (z (rrN C N) r1)
      unfold shV
      rw [r2, if_pos rfl]
      exact hA _
    · exact ⟨b, b1, b2⟩
  have none0 : (x = -1 ∨ inb x N = true) → C = 0 → JQ 196 [.ref 58, .int x, mk, mk, mk, mk] (some (.int (-1))) (shw A B) M := by
    intro hz hC0
    refine JQ.mk ?_
    rw [e_m_share c1 (fun e => absurd e (by omega)), if_pos hz, if_pos hC0]
    exact ⟨rfl, rfl, hj⟩
  have mid : (x = -1 ∨ inb x N = true) → WP 122 19 [.ref 0, .int x] [] (shw A B) (0, 0) M (JQ 196 [.ref 58, .int x, mk, mk, mk, mk]) := by
    intro hz
    by_cases hC0 : C = 0
    · simp only [w_c_share_0, w_c_share_1, w_c_share_2, w_c_share_5, w_c_share_6, w_c_share_9, w_c_share_10, w_c_share_13, w_c_share_16, w_c_share_18, w_c_share_19, w_c_share_20, w_c_share_23, w_c_share_26, w_c_share_29, w_c_share_30, w_c_share_31, w_c_share_32, w_c_share_35, w_c_share_36, w_c_share_39, w_c_share_43, w_c_share_44, w_c_share_47, w_c_share_48, w_c_share_51, w_c_share_54, w_c_share_57, w_c_share_58, w_c_share_61, w_c_share_62, w_c_share_65, xc_8, xc_6, cl_21, xpp_1 hp, m2, hC0, show (nI 0 = 0) = True by decide, i10, Bool.false_eq_true, eq_self, true_or, or_true, if_true, if_false, gv_int, gv_ref, av_some, al_some, un_int, un_ref, un_mk, ok4_0, ok4_1, ok4_2, ok4_3, ok4_4, Kn_some, Kn_none, true_and, and_true]
      exact none0 hz hC0
    · have gC : (nI C = 0) = False := eq_false (nI_ne0 (by omega) (by omega))
      simp only [w_c_share_0, w_c_share_1, w_c_share_2, w_c_share_5, w_c_share_6, w_c_share_9, w_c_share_10, w_c_share_13, w_c_share_16, w_c_share_18, w_c_share_19, w_c_share_20, w_c_share_23, w_c_share_26, w_c_share_29, w_c_share_30, w_c_share_31, w_c_share_32, w_c_share_35, w_c_share_36, w_c_share_39, w_c_share_43, w_c_share_44, w_c_share_47, w_c_share_48, w_c_share_51, w_c_share_54, w_c_share_57, w_c_share_58, w_c_share_61, w_c_share_62, w_c_share_65, xc_8, xc_6, cl_21, xpp_1 hp, m2, gC, cl_0, cl_1, cl_3, cl_5, cl_7, cl_12, cl_15, cl_21, cl_29, zpp hp, i10, Bool.false_eq_true, eq_self, true_or, or_true, if_true, if_false, gv_int, gv_ref, av_some, al_some, un_int, un_ref, un_mk, ok4_0, ok4_1, ok4_2, ok4_3, ok4_4, Kn_some, Kn_none, true_and, and_true]
      rcases h9 with hk | ⟨hk, hS⟩
      · refine c_s_find hp c2 (by omega) hk hA ⟨rrN C N, (rr_ok C (by omega) (by omega) N (by omega)).1, (rr_ok C (by omega) (by omega) N (by omega)).2⟩ (fun M1 hF h1k hS => ?_)
        have hFX : FX M M1 := ⟨fun c hc => hF c (by omega), fun j _ => congrFun (hF 58 (by decide)) j, fun j _ => congrFun (hF 17 (by decide)) j⟩
        simp only [w_c_share_0, w_c_share_1, w_c_share_2, w_c_share_5, w_c_share_6, w_c_share_9, w_c_share_10, w_c_share_13, w_c_share_16, w_c_share_18, w_c_share_19, w_c_share_20, w_c_share_23, w_c_share_26, w_c_share_29, w_c_share_30, w_c_share_31, w_c_share_32, w_c_share_35, w_c_share_36, w_c_share_39, w_c_share_43, w_c_share_44, w_c_share_47, w_c_share_48, w_c_share_51, w_c_share_54, w_c_share_57, w_c_share_58, w_c_share_61, w_c_share_62, w_c_share_65, xc_8, xc_6, cl_21, i10, Bool.false_eq_true, eq_self, true_or, or_true, if_true, if_false, gv_int, gv_ref, av_some, al_some, un_int, un_ref, un_mk, ok4_0, ok4_1, ok4_2, ok4_3, ok4_4, Kn_some, Kn_none, true_and, and_true]
        refine fin hz hC0 M1 hFX hS (h.fx hFX (Or.inr ⟨h1k, ?_⟩) (h10.fx hFX (hF 29 (by decide)) (hF 36 (by decide)) (hF 37 (by decide))))
        rw [hFX.wTe, hFX.1 63 (by decide)]
        exact hS
      · refine c_s_known hk ?_
        simp only [w_c_share_0, w_c_share_1, w_c_share_2, w_c_share_5, w_c_share_6, w_c_share_9, w_c_share_10, w_c_share_13, w_c_share_16, w_c_share_18, w_c_share_19, w_c_share_20, w_c_share_23, w_c_share_26, w_c_share_29, w_c_share_30, w_c_share_31, w_c_share_32, w_c_share_35, w_c_share_36, w_c_share_39, w_c_share_43, w_c_share_44, w_c_share_47, w_c_share_48, w_c_share_51, w_c_share_54, w_c_share_57, w_c_share_58, w_c_share_61, w_c_share_62, w_c_share_65, xc_8, xc_6, cl_21, i10, Bool.false_eq_true, eq_self, true_or, or_true, if_true, if_false, gv_int, gv_ref, av_some, al_some, un_int, un_ref, un_mk, ok4_0, ok4_1, ok4_2, ok4_3, ok4_4, Kn_some, Kn_none, true_and, and_true]
        exact fin hz hC0 M ⟨fun _ _ => rfl, fun _ _ => rfl, fun _ _ => rfl⟩ hS h
  by_cases q : x = -1
  · simp only [w_c_share_0, w_c_share_1, w_c_share_2, w_c_share_5, w_c_share_6, w_c_share_9, w_c_share_10, w_c_share_13, w_c_share_16, w_c_share_18, w_c_share_20, w_c_share_23, w_c_share_26, w_c_share_29, w_c_share_30, w_c_share_31, w_c_share_32, w_c_share_35, w_c_share_36, w_c_share_39, w_c_share_42, w_c_share_43, w_c_share_44, w_c_share_47, w_c_share_48, w_c_share_51, w_c_share_54, w_c_share_57, w_c_share_58, w_c_share_61, w_c_share_62, w_c_share_65, xc_8, xc_6, cl_21, eq_true q, i10, Bool.false_eq_true, eq_self, true_or, or_true, if_true, if_false, gv_int, gv_ref, av_some, al_some, un_int, un_ref, un_mk, ok4_0, ok4_1, ok4_2, ok4_3, ok4_4, Kn_some, Kn_none, true_and, and_true]
    exact mid (Or.inl q)
  · cases hx : inb x N
    · simp only [w_c_share_0, w_c_share_1, w_c_share_2, w_c_share_5, w_c_share_6, w_c_share_9, w_c_share_10, w_c_share_13, w_c_share_16, w_c_share_18, w_c_share_20, w_c_share_23, w_c_share_26, w_c_share_29, w_c_share_30, w_c_share_31, w_c_share_32, w_c_share_35, w_c_share_36, w_c_share_39, w_c_share_42, w_c_share_43, w_c_share_44, w_c_share_47, w_c_share_48, w_c_share_51, w_c_share_54, w_c_share_57, w_c_share_58, w_c_share_61, w_c_share_62, w_c_share_65, xc_8, xc_6, cl_21, eq_false q, e_p_hasThing hp c2.1, hx, cl_0, cl_1, cl_3, cl_5, cl_7, cl_12, cl_15, cl_21, cl_29, zpp hp, i10, Bool.false_eq_true, eq_self, true_or, or_true, if_true, if_false, gv_int, gv_ref, av_some, al_some, un_int, un_ref, un_mk, ok4_0, ok4_1, ok4_2, ok4_3, ok4_4, Kn_some, Kn_none, true_and, and_true]
      refine JQ.mk ?_
      refine Eq.mpr (e_m_share c1 hbM) (ite_f (fun z => ?_) ⟨rfl, rfl, hj⟩)
      rcases z with z | z
      · exact q z
      · rw [hx] at z; cases z
    · simp only [w_c_share_0, w_c_share_1, w_c_share_2, w_c_share_5, w_c_share_6, w_c_share_9, w_c_share_10, w_c_share_13, w_c_share_16, w_c_share_18, w_c_share_20, w_c_share_23, w_c_share_26, w_c_share_29, w_c_share_30, w_c_share_31, w_c_share_32, w_c_share_35, w_c_share_36, w_c_share_39, w_c_share_42, w_c_share_43, w_c_share_44, w_c_share_47, w_c_share_48, w_c_share_51, w_c_share_54, w_c_share_57, w_c_share_58, w_c_share_61, w_c_share_62, w_c_share_65, xc_8, xc_6, cl_21, eq_false q, e_p_hasThing hp c2.1, hx, cl_0, cl_1, cl_3, cl_5, cl_7, cl_12, cl_15, cl_21, cl_29, zpp hp, i10, Bool.false_eq_true, eq_self, true_or, or_true, if_true, if_false, gv_int, gv_ref, av_some, al_some, un_int, un_ref, un_mk, ok4_0, ok4_1, ok4_2, ok4_3, ok4_4, Kn_some, Kn_none, true_and, and_true]
      exact mid (Or.inr hx)
