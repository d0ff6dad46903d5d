/-! the component reads a child, a clause, a text -/
theorem CD_price {M : Mm} {o K C N k : Nat} {F : Mm} {x : Int32} (h : CD M o K C N F) (hk : k < 5) (hK : K ≤ 5) : CD (up M (o + 5) (C * 5 + k) x) o K C N (up F 70 (5 * C + k) x) := by
  obtain ⟨⟨⟨a0, a1, a2⟩, b1, b2, b3⟩, t1, t2, t3, t4, pp, dd⟩ := h
  unfold CD CP
  simp only [uo_0_0, uo_0_1, uo_0_2, uo_0_3, uo_0_4, uo_0_5, uo_0_6, uo_0_7, uo_0_8, uo_0_9, uo_1_0, uo_1_1, uo_1_2, uo_1_3, uo_1_4, uo_1_5, uo_1_6, uo_1_7, uo_1_8, uo_1_9, uo_2_0, uo_2_1, uo_2_2, uo_2_3, uo_2_4, uo_2_5, uo_2_6, uo_2_7, uo_2_8, uo_2_9, uo_3_0, uo_3_1, uo_3_2, uo_3_3, uo_3_4, uo_3_5, uo_3_6, uo_3_7, uo_3_8, uo_3_9, uo_4_0, uo_4_1, uo_4_2, uo_4_3, uo_4_4, uo_4_5, uo_4_6, uo_4_7, uo_4_8, uo_4_9, uo_5_0, uo_5_1, uo_5_2, uo_5_3, uo_5_4, uo_5_5, uo_5_6, uo_5_7, uo_5_8, uo_5_9, uo_6_0, uo_6_1, uo_6_2, uo_6_3, uo_6_4, uo_6_5, uo_6_6, uo_6_7, uo_6_8, uo_6_9, uo_7_0, uo_7_1, uo_7_2, uo_7_3, uo_7_4, uo_7_5, uo_7_6, uo_7_7, uo_7_8, uo_7_9, uo_8_0, uo_8_1, uo_8_2, uo_8_3, uo_8_4, uo_8_5, uo_8_6, uo_8_7, uo_8_8, uo_8_9, uo_9_0, uo_9_1, uo_9_2, uo_9_3, uo_9_4, uo_9_5, uo_9_6, uo_9_7, uo_9_8, uo_9_9]
  refine ⟨⟨⟨a0, a1, a2⟩, b1, b2, b3⟩, t1, t2, ?_, t4, pp, dd⟩
  intro i j hi hj
  show upd (M (o + 5)) (C * 5 + k) x (i * 5 + j) = upd (F 70) (5 * C + k) x (5 * i + j) ∧ M (o + 6) (i * 5 + j) = if bt (F 69 i) (nI j) then 0 else upd (F 70) (5 * C + k) x (5 * i + j)
  rw [upd_at, upd_at, if_neg (by omega), if_neg (by omega)]
  exact t3 i j hi hj
theorem CD_pre {M : Mm} {o K C N : Nat} {F : Mm} {v : Int32} (h : CD M o K C N F) : CD M o K C N (up (up F 71 C 0) 69 C v) := by
  obtain ⟨a, t1, t2, t3, t4, ⟨P, l1, l2, p1, p2, p3, p4⟩, dd⟩ := h
  have e69 : ∀ i, i < C → up (up F 71 C 0) 69 C v 69 i = F 69 i := fun i hi => by
    show upd (F 69) C v i = F 69 i
    rw [upd_at, if_neg (by omega)]
  have e71 : ∀ i, i < C → up (up F 71 C 0) 69 C v 71 i = F 71 i := fun i hi => by
    show upd (F 71) C 0 i = F 71 i
    rw [upd_at, if_neg (by omega)]
  refine ⟨a, t1, ?_, ?_, t4, ⟨P, l1, l2, p1, p2, p3, ?_⟩, ?_⟩
  · intro i hi
    rw [e69 i hi, e71 i hi]; exact t2 i hi
  · intro i k hi hk
    rw [e69 i hi]
    exact t3 i k hi hk
  · refine PL_eq p4 (fun k hk => ?_)
    unfold lkB
    by_cases q : k / 4 < C
    · rw [e71 _ q]
    · rw [decide_eq_false q, Bool.false_and, Bool.false_and]
  · intro i j hi hj
    rw [e71 i hi]; exact dd i j hi hj
theorem BS.uo {M : Mm} {tl y a k : Nat} {e x : Int32} (h : BS M tl e y) (ha : ¬ a = 1) : BS (up M a k x) tl e y := by
  unfold BS at h ⊢
  rw [up_c, if_neg (fun z => ha z.symm)]
  exact h
theorem c_readChild {A B o tl p K C N : Nat} {M F : Mm} {Q : Po} (ho : isPP o) (h : TC M tl p) (hd : CD M o K C N F) (hlt : p < tl) (hq : if C = 4 ∨ K = 0 then bdC A B o tl M Q 3 p else childC (M 2) tl (p + 1) K C F (bdC A B o tl M Q) (fun p F => signC (M 2) tl p 59 (bdC A B o tl M Q) fun p => gdC A B o tl M Q p K (C + 1) N F)) : WP 63 0 [.ref 1, .ref o, mk, mk] [] (shw A B) (0, 0) M Q := by
  obtain ⟨⟨⟨a0, a1, a2⟩, b1, b2, b3⟩, -⟩ := id hd
  obtain ⟨⟨h1, h2⟩, ⟨h3, h4⟩, h5, h6⟩ := id h
  have outF : ∀ f k M1 e y (b : Int32), k + f = K → FB o M M1 → BS M1 tl e y → 0 < e → bdC A B o tl M Q e y → CP M1 o K C N → WP 63 43 [.ref 1, .ref o, .int b, .int (nI k)] [] (shw A B) (0, 0) M1 Q := by
    intro f
    induction f with
    | zero =>
      intro k M1 e y b hk hF hB he hb hc
      have hk : k = K := hk
      subst hk
      have hne := hB.ne he
      rw [w_r_readChild_43]
      simp only [w_r_readChild_0, w_r_readChild_1, w_r_readChild_4, w_r_readChild_5, w_r_readChild_8, w_r_readChild_9, w_r_readChild_12, w_r_readChild_15, w_r_readChild_16, w_r_readChild_17, w_r_readChild_18, w_r_readChild_21, w_r_readChild_24, w_r_readChild_25, w_r_readChild_26, w_r_readChild_29, w_r_readChild_30, w_r_readChild_31, w_r_readChild_34, w_r_readChild_35, w_r_readChild_37, w_r_readChild_40, w_r_readChild_41, w_r_readChild_42, w_r_readChild_44, w_r_readChild_45, w_r_readChild_48, w_r_readChild_51, w_r_readChild_52, w_r_readChild_55, w_r_readChild_56, w_r_readChild_58, w_r_readChild_61, w_r_readChild_62, w_r_readChild_63, w_r_readChild_64, w_r_readChild_66, w_r_readChild_69, w_r_readChild_72, w_r_readChild_75, w_r_readChild_78, w_r_readChild_79, w_r_readChild_81, w_r_readChild_84, w_r_readChild_85, w_r_readChild_88, w_r_readChild_91, w_r_readChild_92, w_r_readChild_93, w_r_readChild_96, xr_2, cl_1, xr_4, xpp_0 ho, hc.1.1, lt_irr, e_r_signF hne, eq_false hne, cl_1, i10, Bool.false_eq_true, eq_self, true_or, or_true, if_true, if_false, gv_int, gv_ref, av_some, al_some, un_int, un_ref, un_mk, ok4_0, ok4_1, ok4_2, ok4_3, ok4_4, Kn_some, Kn_none, true_and, and_true]
      exact hb he _ hF hB
    | succ f ih =>
      intro k M1 e y b hk hF hB he hb hc
      have hne := hB.ne he
      have g1 : nI k < nI K := nI_lt (by omega) (by omega)
      have go : WP 63 61 [.ref 1, .ref o, .int b, .int (nI k)] [] (shw A B) (0, 0) M1 Q := by
        simp only [w_r_readChild_0, w_r_readChild_1, w_r_readChild_4, w_r_readChild_5, w_r_readChild_8, w_r_readChild_9, w_r_readChild_12, w_r_readChild_15, w_r_readChild_16, w_r_readChild_17, w_r_readChild_18, w_r_readChild_21, w_r_readChild_24, w_r_readChild_25, w_r_readChild_26, w_r_readChild_29, w_r_readChild_30, w_r_readChild_31, w_r_readChild_34, w_r_readChild_35, w_r_readChild_37, w_r_readChild_40, w_r_readChild_41, w_r_readChild_42, w_r_readChild_44, w_r_readChild_45, w_r_readChild_48, w_r_readChild_51, w_r_readChild_52, w_r_readChild_55, w_r_readChild_56, w_r_readChild_58, w_r_readChild_61, w_r_readChild_62, w_r_readChild_63, w_r_readChild_64, w_r_readChild_66, w_r_readChild_69, w_r_readChild_72, w_r_readChild_75, w_r_readChild_78, w_r_readChild_79, w_r_readChild_81, w_r_readChild_84, w_r_readChild_85, w_r_readChild_88, w_r_readChild_91, w_r_readChild_92, w_r_readChild_93, w_r_readChild_96, xr_2, cl_1, xr_4, e_r_numberF hne, cl_1, e_p_setNextPrice ho hc.1.2.1 b2 (show k < 5 by omega), zpp ho, nI_1, i10, Bool.false_eq_true, eq_self, true_or, or_true, if_true, if_false, gv_int, gv_ref, av_some, al_some, un_int, un_ref, un_mk, ok4_0, ok4_1, ok4_2, ok4_3, ok4_4, Kn_some, Kn_none, true_and, and_true]
        by_cases q : C < 4
        · rw [if_pos q]
          refine ih (k + 1) _ e y b (by omega) (hF.tr (FB.uo (by omega) (by omega))) (hB.uo (PP_ne1 ho)) he hb ?_
          unfold CP
          rw [uo_0_5]
          exact hc
        · rw [if_neg q]
          exact ih (k + 1) _ e y b (by omega) hF hB he hb hc
      rw [w_r_readChild_43]
      by_cases k0 : 0 < k
      · have g2 : (0 : Int32) < nI k := nI_lt (a := 0) k0 (by omega)
        simp only [w_r_readChild_0, w_r_readChild_1, w_r_readChild_4, w_r_readChild_5, w_r_readChild_8, w_r_readChild_9, w_r_readChild_12, w_r_readChild_15, w_r_readChild_16, w_r_readChild_17, w_r_readChild_18, w_r_readChild_21, w_r_readChild_24, w_r_readChild_25, w_r_readChild_26, w_r_readChild_29, w_r_readChild_30, w_r_readChild_31, w_r_readChild_34, w_r_readChild_35, w_r_readChild_37, w_r_readChild_40, w_r_readChild_41, w_r_readChild_42, w_r_readChild_44, w_r_readChild_45, w_r_readChild_48, w_r_readChild_51, w_r_readChild_52, w_r_readChild_55, w_r_readChild_56, w_r_readChild_58, w_r_readChild_62, w_r_readChild_63, w_r_readChild_64, w_r_readChild_66, w_r_readChild_69, w_r_readChild_72, w_r_readChild_75, w_r_readChild_78, w_r_readChild_79, w_r_readChild_81, w_r_readChild_84, w_r_readChild_85, w_r_readChild_88, w_r_readChild_91, w_r_readChild_92, w_r_readChild_93, w_r_readChild_96, xr_2, cl_1, xr_4, xpp_0 ho, hc.1.1, g1, g2, e_r_signF hne, cl_1, i10, Bool.false_eq_true, eq_self, true_or, or_true, if_true, if_false, gv_int, gv_ref, av_some, al_some, un_int, un_ref, un_mk, ok4_0, ok4_1, ok4_2, ok4_3, ok4_4, Kn_some, Kn_none, true_and, and_true]
        exact go
      · have k00 : k = 0 := by omega
        subst k00
        simp only [w_r_readChild_0, w_r_readChild_1, w_r_readChild_4, w_r_readChild_5, w_r_readChild_8, w_r_readChild_9, w_r_readChild_12, w_r_readChild_15, w_r_readChild_16, w_r_readChild_17, w_r_readChild_18, w_r_readChild_21, w_r_readChild_24, w_r_readChild_25, w_r_readChild_26, w_r_readChild_29, w_r_readChild_30, w_r_readChild_31, w_r_readChild_34, w_r_readChild_35, w_r_readChild_37, w_r_readChild_40, w_r_readChild_41, w_r_readChild_42, w_r_readChild_44, w_r_readChild_45, w_r_readChild_48, w_r_readChild_51, w_r_readChild_52, w_r_readChild_55, w_r_readChild_56, w_r_readChild_58, w_r_readChild_62, w_r_readChild_63, w_r_readChild_64, w_r_readChild_66, w_r_readChild_69, w_r_readChild_72, w_r_readChild_75, w_r_readChild_78, w_r_readChild_79, w_r_readChild_81, w_r_readChild_84, w_r_readChild_85, w_r_readChild_88, w_r_readChild_91, w_r_readChild_92, w_r_readChild_93, w_r_readChild_96, xr_2, cl_1, xr_4, xpp_0 ho, hc.1.1, g1, show ((0 : Int32) < nI 0) = False by decide, i10, Bool.false_eq_true, eq_self, true_or, or_true, if_true, if_false, gv_int, gv_ref, av_some, al_some, un_int, un_ref, un_mk, ok4_0, ok4_1, ok4_2, ok4_3, ok4_4, Kn_some, Kn_none, true_and, and_true]
        exact go
  have out : bdC A B o tl M Q 3 p → WP 63 15 [.ref 1, .ref o, mk, mk] [] (shw A B) (0, 0) M Q := by
    intro hq
    have hne : ¬ up (up (up M 1 4 3) 1 5 (nI p)) 1 2 (nI (p + 1)) 1 4 = 0 := by show ¬ (3 : Int32) = 0; decide
    simp only [w_r_readChild_0, w_r_readChild_1, w_r_readChild_4, w_r_readChild_5, w_r_readChild_8, w_r_readChild_9, w_r_readChild_12, w_r_readChild_15, w_r_readChild_16, w_r_readChild_17, w_r_readChild_18, w_r_readChild_21, w_r_readChild_24, w_r_readChild_25, w_r_readChild_26, w_r_readChild_29, w_r_readChild_30, w_r_readChild_31, w_r_readChild_34, w_r_readChild_35, w_r_readChild_37, w_r_readChild_40, w_r_readChild_41, w_r_readChild_42, w_r_readChild_44, w_r_readChild_45, w_r_readChild_48, w_r_readChild_51, w_r_readChild_52, w_r_readChild_55, w_r_readChild_56, w_r_readChild_58, w_r_readChild_61, w_r_readChild_62, w_r_readChild_63, w_r_readChild_64, w_r_readChild_66, w_r_readChild_69, w_r_readChild_72, w_r_readChild_75, w_r_readChild_78, w_r_readChild_79, w_r_readChild_81, w_r_readChild_84, w_r_readChild_85, w_r_readChild_88, w_r_readChild_91, w_r_readChild_92, w_r_readChild_93, w_r_readChild_96, xr_2, cl_1, xr_4, e_r_fail0 h3, h2, show ∀ x y, up (up M 1 4 x) 1 5 y 1 2 = nI p from fun _ _ => h2, nI_1, e_r_numberF hne, cl_1, i10, Bool.false_eq_true, eq_self, true_or, or_true, if_true, if_false, gv_int, gv_ref, av_some, al_some, un_int, un_ref, un_mk, ok4_0, ok4_1, ok4_2, ok4_3, ok4_4, Kn_some, Kn_none, true_and, and_true]
    exact outF K 0 _ 3 p 0 (by omega) Fc.bad.fb (h.bad hlt 3) (by decide) hq (hd.fc Fc.bad ho).1
  by_cases c4 : C = 4
  · rw [if_pos (Or.inl c4)] at hq
    simp only [w_r_readChild_0, w_r_readChild_1, w_r_readChild_4, w_r_readChild_5, w_r_readChild_8, w_r_readChild_9, w_r_readChild_12, w_r_readChild_16, w_r_readChild_17, w_r_readChild_18, w_r_readChild_21, w_r_readChild_24, w_r_readChild_25, w_r_readChild_26, w_r_readChild_29, w_r_readChild_30, w_r_readChild_31, w_r_readChild_34, w_r_readChild_35, w_r_readChild_37, w_r_readChild_40, w_r_readChild_41, w_r_readChild_42, w_r_readChild_44, w_r_readChild_45, w_r_readChild_48, w_r_readChild_51, w_r_readChild_52, w_r_readChild_55, w_r_readChild_56, w_r_readChild_58, w_r_readChild_61, w_r_readChild_62, w_r_readChild_63, w_r_readChild_64, w_r_readChild_66, w_r_readChild_69, w_r_readChild_72, w_r_readChild_75, w_r_readChild_78, w_r_readChild_79, w_r_readChild_81, w_r_readChild_84, w_r_readChild_85, w_r_readChild_88, w_r_readChild_91, w_r_readChild_92, w_r_readChild_93, w_r_readChild_96, xr_2, cl_1, xr_4, xpp_1 ho, a1, c4, show (nI 4 < 4) = False by decide, i10, Bool.false_eq_true, eq_self, true_or, or_true, if_true, if_false, gv_int, gv_ref, av_some, al_some, un_int, un_ref, un_mk, ok4_0, ok4_1, ok4_2, ok4_3, ok4_4, Kn_some, Kn_none, true_and, and_true]
    exact out hq
  have g4 : nI C < 4 := nI_lt (b := 4) (by omega) (by decide)
  by_cases k0 : K = 0
  · rw [if_pos (Or.inr k0)] at hq
    simp only [w_r_readChild_0, w_r_readChild_1, w_r_readChild_4, w_r_readChild_5, w_r_readChild_8, w_r_readChild_9, w_r_readChild_12, w_r_readChild_16, w_r_readChild_17, w_r_readChild_18, w_r_readChild_21, w_r_readChild_24, w_r_readChild_25, w_r_readChild_26, w_r_readChild_29, w_r_readChild_30, w_r_readChild_31, w_r_readChild_34, w_r_readChild_35, w_r_readChild_37, w_r_readChild_40, w_r_readChild_41, w_r_readChild_42, w_r_readChild_44, w_r_readChild_45, w_r_readChild_48, w_r_readChild_51, w_r_readChild_52, w_r_readChild_55, w_r_readChild_56, w_r_readChild_58, w_r_readChild_61, w_r_readChild_62, w_r_readChild_63, w_r_readChild_64, w_r_readChild_66, w_r_readChild_69, w_r_readChild_72, w_r_readChild_75, w_r_readChild_78, w_r_readChild_79, w_r_readChild_81, w_r_readChild_84, w_r_readChild_85, w_r_readChild_88, w_r_readChild_91, w_r_readChild_92, w_r_readChild_93, w_r_readChild_96, xr_2, cl_1, xr_4, xpp_0 ho, xpp_1 ho, a0, a1, g4, k0, show (nI 0 = 0) = True by decide, i10, Bool.false_eq_true, eq_self, true_or, or_true, if_true, if_false, gv_int, gv_ref, av_some, al_some, un_int, un_ref, un_mk, ok4_0, ok4_1, ok4_2, ok4_3, ok4_4, Kn_some, Kn_none, true_and, and_true]
    exact out hq
  rw [if_neg (by omega)] at hq
  have gk : (nI K = 0) = False := eq_false (nI_ne0 (by omega) (by omega))
  have hT := h.next hlt
  unfold childC at hq
  have key : ∀ f k p M1 F (b : Int32), k + f = K → FB o M M1 → TC M1 tl p → CD M1 o K C N F → (∀ j, j < k → M1 (o + 5) (C * 5 + j) = F 70 (5 * C + j)) → F 69 C = b → F 71 C = 0 → pricesC (M 2) tl C (bdC A B o tl M Q) (fun p F => signC (M 2) tl p 59 (bdC A B o tl M Q) fun p => gdC A B o tl M Q p K (C + 1) N F) f k p F → WP 63 43 [.ref 1, .ref o, .int b, .int (nI k)] [] (shw A B) (0, 0) M1 Q := by
    intro f
    induction f with
    | zero =>
      intro k p M1 F b hk hF hT1 hd1 hp h69 h71 hq
      have hk : k = K := hk
      subst hk
      rw [w_r_readChild_43]
      simp only [w_r_readChild_0, w_r_readChild_1, w_r_readChild_4, w_r_readChild_5, w_r_readChild_8, w_r_readChild_9, w_r_readChild_12, w_r_readChild_15, w_r_readChild_16, w_r_readChild_17, w_r_readChild_18, w_r_readChild_21, w_r_readChild_24, w_r_readChild_25, w_r_readChild_26, w_r_readChild_29, w_r_readChild_30, w_r_readChild_31, w_r_readChild_34, w_r_readChild_35, w_r_readChild_37, w_r_readChild_40, w_r_readChild_41, w_r_readChild_42, w_r_readChild_44, w_r_readChild_45, w_r_readChild_48, w_r_readChild_51, w_r_readChild_52, w_r_readChild_55, w_r_readChild_56, w_r_readChild_58, w_r_readChild_61, w_r_readChild_62, w_r_readChild_63, w_r_readChild_64, w_r_readChild_66, w_r_readChild_69, w_r_readChild_72, w_r_readChild_75, w_r_readChild_78, w_r_readChild_79, w_r_readChild_81, w_r_readChild_84, w_r_readChild_85, w_r_readChild_88, w_r_readChild_91, w_r_readChild_92, w_r_readChild_93, w_r_readChild_96, xr_2, cl_1, xr_4, xpp_0 ho, hd1.1.1.1, lt_irr, cl_1, i10, Bool.false_eq_true, eq_self, true_or, or_true, if_true, if_false, gv_int, gv_ref, av_some, al_some, un_int, un_ref, un_mk, ok4_0, ok4_1, ok4_2, ok4_3, ok4_4, Kn_some, Kn_none, true_and, and_true]
      refine r_sign hT1 (by decide) ?_
      rw [hF.text ho]
      refine signC_mono ?_ ?_ (show signC (M 2) tl p 59 (bdC A B o tl M Q) (fun p => gdC A B o tl M Q p k (C + 1) N F) from hq)
      · intro e y hb he M2 hF2 hB
        have hne := hB.ne he
        simp only [w_r_readChild_0, w_r_readChild_1, w_r_readChild_4, w_r_readChild_5, w_r_readChild_8, w_r_readChild_9, w_r_readChild_12, w_r_readChild_15, w_r_readChild_16, w_r_readChild_17, w_r_readChild_18, w_r_readChild_21, w_r_readChild_24, w_r_readChild_25, w_r_readChild_26, w_r_readChild_29, w_r_readChild_30, w_r_readChild_31, w_r_readChild_34, w_r_readChild_35, w_r_readChild_37, w_r_readChild_40, w_r_readChild_41, w_r_readChild_42, w_r_readChild_44, w_r_readChild_45, w_r_readChild_48, w_r_readChild_51, w_r_readChild_52, w_r_readChild_55, w_r_readChild_56, w_r_readChild_58, w_r_readChild_61, w_r_readChild_62, w_r_readChild_63, w_r_readChild_64, w_r_readChild_66, w_r_readChild_69, w_r_readChild_72, w_r_readChild_75, w_r_readChild_78, w_r_readChild_79, w_r_readChild_81, w_r_readChild_84, w_r_readChild_85, w_r_readChild_88, w_r_readChild_91, w_r_readChild_92, w_r_readChild_93, w_r_readChild_96, xr_2, cl_1, xr_4, eq_false hne, i10, Bool.false_eq_true, eq_self, true_or, or_true, if_true, if_false, gv_int, gv_ref, av_some, al_some, un_int, un_ref, un_mk, ok4_0, ok4_1, ok4_2, ok4_3, ok4_4, Kn_some, Kn_none, true_and, and_true]
        exact hb he _ (hF.tr hF2.fb) hB
      · intro r2 hg2 M2 hF2 hT2
        have hd2 := hd1.fc hF2 ho
        simp only [w_r_readChild_0, w_r_readChild_1, w_r_readChild_4, w_r_readChild_5, w_r_readChild_8, w_r_readChild_9, w_r_readChild_12, w_r_readChild_15, w_r_readChild_16, w_r_readChild_17, w_r_readChild_18, w_r_readChild_21, w_r_readChild_24, w_r_readChild_25, w_r_readChild_26, w_r_readChild_29, w_r_readChild_30, w_r_readChild_31, w_r_readChild_34, w_r_readChild_35, w_r_readChild_37, w_r_readChild_40, w_r_readChild_41, w_r_readChild_42, w_r_readChild_44, w_r_readChild_45, w_r_readChild_48, w_r_readChild_51, w_r_readChild_52, w_r_readChild_55, w_r_readChild_56, w_r_readChild_58, w_r_readChild_61, w_r_readChild_62, w_r_readChild_63, w_r_readChild_64, w_r_readChild_66, w_r_readChild_69, w_r_readChild_72, w_r_readChild_75, w_r_readChild_78, w_r_readChild_79, w_r_readChild_81, w_r_readChild_84, w_r_readChild_85, w_r_readChild_88, w_r_readChild_91, w_r_readChild_92, w_r_readChild_93, w_r_readChild_96, xr_2, cl_1, xr_4, hT2.2.1.1, e_p_addChild ho hd2.1 (show C < 4 by omega), zpp ho, i10, Bool.false_eq_true, eq_self, true_or, or_true, if_true, if_false, gv_int, gv_ref, av_some, al_some, un_int, un_ref, un_mk, ok4_0, ok4_1, ok4_2, ok4_3, ok4_4, Kn_some, Kn_none, true_and, and_true]
        refine hg2 _ (((((hF.tr hF2.fb).tr (FB.uo (by omega) (by omega))).tr (FB.uo (by omega) (by omega))).tr (FB.so (by omega) (by omega))).tr (FB.uo (by omega) (by omega))) ((((hT2.uo (PP_ne1 ho)).uo (PP_ne1 ho)).so (PP_ne1 ho)).uo (PP_ne1 (d := 0) ho)) (CD_child hd2 (by omega) ?_ h69 h71)
        intro j hj
        rw [hF2.cell (c := o + 5) (PP_ne1 ho)]
        exact hp j hj
    | succ f ih =>
      intro k p M1 F b hk hF hT1 hd1 hp h69 h71 hq
      have g1 : nI k < nI K := nI_lt (by omega) (by omega)
      have num : ∀ p M1, FB o M M1 → TC M1 tl p → CD M1 o K C N F → (∀ j, j < k → M1 (o + 5) (C * 5 + j) = F 70 (5 * C + j)) → numC (M 2) tl p 99 (bdC A B o tl M Q) (fun p w => pricesC (M 2) tl C (bdC A B o tl M Q) (fun p F => signC (M 2) tl p 59 (bdC A B o tl M Q) fun p => gdC A B o tl M Q p K (C + 1) N F) f (k + 1) p (up F 70 (5 * C + k) w)) → WP 63 61 [.ref 1, .ref o, .int b, .int (nI k)] [] (shw A B) (0, 0) M1 Q := by
        intro p M1 hF hT1 hd1 hp hn
        simp only [w_r_readChild_0, w_r_readChild_1, w_r_readChild_4, w_r_readChild_5, w_r_readChild_8, w_r_readChild_9, w_r_readChild_12, w_r_readChild_15, w_r_readChild_16, w_r_readChild_17, w_r_readChild_18, w_r_readChild_21, w_r_readChild_24, w_r_readChild_25, w_r_readChild_26, w_r_readChild_29, w_r_readChild_30, w_r_readChild_31, w_r_readChild_34, w_r_readChild_35, w_r_readChild_37, w_r_readChild_40, w_r_readChild_41, w_r_readChild_42, w_r_readChild_44, w_r_readChild_45, w_r_readChild_48, w_r_readChild_51, w_r_readChild_52, w_r_readChild_55, w_r_readChild_56, w_r_readChild_58, w_r_readChild_61, w_r_readChild_62, w_r_readChild_63, w_r_readChild_64, w_r_readChild_66, w_r_readChild_69, w_r_readChild_72, w_r_readChild_75, w_r_readChild_78, w_r_readChild_79, w_r_readChild_81, w_r_readChild_84, w_r_readChild_85, w_r_readChild_88, w_r_readChild_91, w_r_readChild_92, w_r_readChild_93, w_r_readChild_96, xr_2, cl_1, xr_4, cl_1, i10, Bool.false_eq_true, eq_self, true_or, or_true, if_true, if_false, gv_int, gv_ref, av_some, al_some, un_int, un_ref, un_mk, ok4_0, ok4_1, ok4_2, ok4_3, ok4_4, Kn_some, Kn_none, true_and, and_true]
        refine r_num hT1 ?_
        rw [hF.text ho]
        refine numC_mono ?_ ?_ hn
        · intro e y hb he M2 hF2 hB
          have hc2 := (hd1.fc hF2 ho).1
          simp only [w_r_readChild_0, w_r_readChild_1, w_r_readChild_4, w_r_readChild_5, w_r_readChild_8, w_r_readChild_9, w_r_readChild_12, w_r_readChild_15, w_r_readChild_16, w_r_readChild_17, w_r_readChild_18, w_r_readChild_21, w_r_readChild_24, w_r_readChild_25, w_r_readChild_26, w_r_readChild_29, w_r_readChild_30, w_r_readChild_31, w_r_readChild_34, w_r_readChild_35, w_r_readChild_37, w_r_readChild_40, w_r_readChild_41, w_r_readChild_42, w_r_readChild_44, w_r_readChild_45, w_r_readChild_48, w_r_readChild_51, w_r_readChild_52, w_r_readChild_55, w_r_readChild_56, w_r_readChild_58, w_r_readChild_61, w_r_readChild_62, w_r_readChild_63, w_r_readChild_64, w_r_readChild_66, w_r_readChild_69, w_r_readChild_72, w_r_readChild_75, w_r_readChild_78, w_r_readChild_79, w_r_readChild_81, w_r_readChild_84, w_r_readChild_85, w_r_readChild_88, w_r_readChild_91, w_r_readChild_92, w_r_readChild_93, w_r_readChild_96, xr_2, cl_1, xr_4, e_p_setNextPrice ho hc2.1.2.1 b2 (show k < 5 by omega), zpp ho, nI_1, i10, Bool.false_eq_true, eq_self, true_or, or_true, if_true, if_false, gv_int, gv_ref, av_some, al_some, un_int, un_ref, un_mk, ok4_0, ok4_1, ok4_2, ok4_3, ok4_4, Kn_some, Kn_none, true_and, and_true]
          rw [if_pos (show C < 4 by omega)]
          refine outF f (k + 1) _ e y b (by omega) ((hF.tr hF2.fb).tr (FB.uo (by omega) (by omega))) (hB.uo (PP_ne1 ho)) he hb ?_
          unfold CP
          rw [uo_0_5]
          exact hc2
        · intro r2 w hg2 hr2 M2 hF2 hT2 _
          have hd2 := hd1.fc hF2 ho
          simp only [w_r_readChild_0, w_r_readChild_1, w_r_readChild_4, w_r_readChild_5, w_r_readChild_8, w_r_readChild_9, w_r_readChild_12, w_r_readChild_15, w_r_readChild_16, w_r_readChild_17, w_r_readChild_18, w_r_readChild_21, w_r_readChild_24, w_r_readChild_25, w_r_readChild_26, w_r_readChild_29, w_r_readChild_30, w_r_readChild_31, w_r_readChild_34, w_r_readChild_35, w_r_readChild_37, w_r_readChild_40, w_r_readChild_41, w_r_readChild_42, w_r_readChild_44, w_r_readChild_45, w_r_readChild_48, w_r_readChild_51, w_r_readChild_52, w_r_readChild_55, w_r_readChild_56, w_r_readChild_58, w_r_readChild_61, w_r_readChild_62, w_r_readChild_63, w_r_readChild_64, w_r_readChild_66, w_r_readChild_69, w_r_readChild_72, w_r_readChild_75, w_r_readChild_78, w_r_readChild_79, w_r_readChild_81, w_r_readChild_84, w_r_readChild_85, w_r_readChild_88, w_r_readChild_91, w_r_readChild_92, w_r_readChild_93, w_r_readChild_96, xr_2, cl_1, xr_4, e_p_setNextPrice ho hd2.1.1.2.1 b2 (show k < 5 by omega), zpp ho, nI_1, i10, Bool.false_eq_true, eq_self, true_or, or_true, if_true, if_false, gv_int, gv_ref, av_some, al_some, un_int, un_ref, un_mk, ok4_0, ok4_1, ok4_2, ok4_3, ok4_4, Kn_some, Kn_none, true_and, and_true]
          rw [if_pos (show C < 4 by omega)]
          refine ih (k + 1) r2 _ (up F 70 (5 * C + k) w) b (by omega) ((hF.tr hF2.fb).tr (FB.uo (by omega) (by omega))) (hT2.uo (PP_ne1 ho)) (CD_price hd2 (by omega) b1) ?_ h69 h71 hg2
          intro j hj
          rw [uo_5_5, hF2.cell (c := o + 5) (PP_ne1 ho), upd_at]
          show _ = upd (F 70) (5 * C + k) w (5 * C + j)
          rw [upd_at]
          by_cases z : j = k
          · rw [if_pos (by omega), if_pos (by omega)]
          · rw [if_neg (by omega), if_neg (by omega)]; exact hp j (by omega)
      rw [w_r_readChild_43]
      unfold pricesC at hq
      by_cases k0 : 0 < k
      · have g2 : (0 : Int32) < nI k := nI_lt (a := 0) k0 (by omega)
        rw [if_pos k0] at hq
        simp only [w_r_readChild_0, w_r_readChild_1, w_r_readChild_4, w_r_readChild_5, w_r_readChild_8, w_r_readChild_9, w_r_readChild_12, w_r_readChild_15, w_r_readChild_16, w_r_readChild_17, w_r_readChild_18, w_r_readChild_21, w_r_readChild_24, w_r_readChild_25, w_r_readChild_26, w_r_readChild_29, w_r_readChild_30, w_r_readChild_31, w_r_readChild_34, w_r_readChild_35, w_r_readChild_37, w_r_readChild_40, w_r_readChild_41, w_r_readChild_42, w_r_readChild_44, w_r_readChild_45, w_r_readChild_48, w_r_readChild_51, w_r_readChild_52, w_r_readChild_55, w_r_readChild_56, w_r_readChild_58, w_r_readChild_62, w_r_readChild_63, w_r_readChild_64, w_r_readChild_66, w_r_readChild_69, w_r_readChild_72, w_r_readChild_75, w_r_readChild_78, w_r_readChild_79, w_r_readChild_81, w_r_readChild_84, w_r_readChild_85, w_r_readChild_88, w_r_readChild_91, w_r_readChild_92, w_r_readChild_93, w_r_readChild_96, xr_2, cl_1, xr_4, xpp_0 ho, hd1.1.1.1, g1, g2, cl_1, i10, Bool.false_eq_true, eq_self, true_or, or_true, if_true, if_false, gv_int, gv_ref, av_some, al_some, un_int, un_ref, un_mk, ok4_0, ok4_1, ok4_2, ok4_3, ok4_4, Kn_some, Kn_none, true_and, and_true]
        refine r_sign hT1 (by decide) ?_
        rw [hF.text ho]
        refine signC_mono ?_ ?_ hq
        · intro e y hb he M2 hF2 hB
          have hc2 := (hd1.fc hF2 ho).1
          have hne := hB.ne he
          simp only [w_r_readChild_0, w_r_readChild_1, w_r_readChild_4, w_r_readChild_5, w_r_readChild_8, w_r_readChild_9, w_r_readChild_12, w_r_readChild_15, w_r_readChild_16, w_r_readChild_17, w_r_readChild_18, w_r_readChild_21, w_r_readChild_24, w_r_readChild_25, w_r_readChild_26, w_r_readChild_29, w_r_readChild_30, w_r_readChild_31, w_r_readChild_34, w_r_readChild_35, w_r_readChild_37, w_r_readChild_40, w_r_readChild_41, w_r_readChild_42, w_r_readChild_44, w_r_readChild_45, w_r_readChild_48, w_r_readChild_51, w_r_readChild_52, w_r_readChild_55, w_r_readChild_56, w_r_readChild_58, w_r_readChild_61, w_r_readChild_62, w_r_readChild_63, w_r_readChild_64, w_r_readChild_66, w_r_readChild_69, w_r_readChild_72, w_r_readChild_75, w_r_readChild_78, w_r_readChild_79, w_r_readChild_81, w_r_readChild_84, w_r_readChild_85, w_r_readChild_88, w_r_readChild_91, w_r_readChild_92, w_r_readChild_93, w_r_readChild_96, xr_2, cl_1, xr_4, e_r_numberF hne, cl_1, e_p_setNextPrice ho hc2.1.2.1 b2 (show k < 5 by omega), zpp ho, nI_1, i10, Bool.false_eq_true, eq_self, true_or, or_true, if_true, if_false, gv_int, gv_ref, av_some, al_some, un_int, un_ref, un_mk, ok4_0, ok4_1, ok4_2, ok4_3, ok4_4, Kn_some, Kn_none, true_and, and_true]
          rw [if_pos (show C < 4 by omega)]
          refine outF f (k + 1) _ e y b (by omega) ((hF.tr hF2.fb).tr (FB.uo (by omega) (by omega))) (hB.uo (PP_ne1 ho)) he hb ?_
          unfold CP
          rw [uo_0_5]
          exact hc2
        · intro r2 hg2 M2 hF2 hT2
          simp only [w_r_readChild_0, w_r_readChild_1, w_r_readChild_4, w_r_readChild_5, w_r_readChild_8, w_r_readChild_9, w_r_readChild_12, w_r_readChild_15, w_r_readChild_16, w_r_readChild_17, w_r_readChild_18, w_r_readChild_21, w_r_readChild_24, w_r_readChild_25, w_r_readChild_26, w_r_readChild_29, w_r_readChild_30, w_r_readChild_31, w_r_readChild_34, w_r_readChild_35, w_r_readChild_37, w_r_readChild_40, w_r_readChild_41, w_r_readChild_42, w_r_readChild_44, w_r_readChild_45, w_r_readChild_48, w_r_readChild_51, w_r_readChild_52, w_r_readChild_55, w_r_readChild_56, w_r_readChild_58, w_r_readChild_62, w_r_readChild_63, w_r_readChild_64, w_r_readChild_66, w_r_readChild_69, w_r_readChild_72, w_r_readChild_75, w_r_readChild_78, w_r_readChild_79, w_r_readChild_81, w_r_readChild_84, w_r_readChild_85, w_r_readChild_88, w_r_readChild_91, w_r_readChild_92, w_r_readChild_93, w_r_readChild_96, xr_2, cl_1, xr_4, i10, Bool.false_eq_true, eq_self, true_or, or_true, if_true, if_false, gv_int, gv_ref, av_some, al_some, un_int, un_ref, un_mk, ok4_0, ok4_1, ok4_2, ok4_3, ok4_4, Kn_some, Kn_none, true_and, and_true]
          refine num r2 M2 (hF.tr hF2.fb) hT2 (hd1.fc hF2 ho) ?_ hg2
          intro j hj
          rw [hF2.cell (c := o + 5) (PP_ne1 ho)]
          exact hp j hj
      · have k00 : k = 0 := by omega
        subst k00
        rw [if_neg k0] at hq
        simp only [w_r_readChild_0, w_r_readChild_1, w_r_readChild_4, w_r_readChild_5, w_r_readChild_8, w_r_readChild_9, w_r_readChild_12, w_r_readChild_15, w_r_readChild_16, w_r_readChild_17, w_r_readChild_18, w_r_readChild_21, w_r_readChild_24, w_r_readChild_25, w_r_readChild_26, w_r_readChild_29, w_r_readChild_30, w_r_readChild_31, w_r_readChild_34, w_r_readChild_35, w_r_readChild_37, w_r_readChild_40, w_r_readChild_41, w_r_readChild_42, w_r_readChild_44, w_r_readChild_45, w_r_readChild_48, w_r_readChild_51, w_r_readChild_52, w_r_readChild_55, w_r_readChild_56, w_r_readChild_58, w_r_readChild_62, w_r_readChild_63, w_r_readChild_64, w_r_readChild_66, w_r_readChild_69, w_r_readChild_72, w_r_readChild_75, w_r_readChild_78, w_r_readChild_79, w_r_readChild_81, w_r_readChild_84, w_r_readChild_85, w_r_readChild_88, w_r_readChild_91, w_r_readChild_92, w_r_readChild_93, w_r_readChild_96, xr_2, cl_1, xr_4, xpp_0 ho, hd1.1.1.1, g1, show ((0 : Int32) < nI 0) = False by decide, i10, Bool.false_eq_true, eq_self, true_or, or_true, if_true, if_false, gv_int, gv_ref, av_some, al_some, un_int, un_ref, un_mk, ok4_0, ok4_1, ok4_2, ok4_3, ok4_4, Kn_some, Kn_none, true_and, and_true]
        exact num p M1 hF hT1 hd1 hp hq
  simp only [w_r_readChild_0, w_r_readChild_1, w_r_readChild_4, w_r_readChild_5, w_r_readChild_8, w_r_readChild_9, w_r_readChild_12, w_r_readChild_15, w_r_readChild_16, w_r_readChild_17, w_r_readChild_18, w_r_readChild_21, w_r_readChild_24, w_r_readChild_25, w_r_readChild_26, w_r_readChild_29, w_r_readChild_30, w_r_readChild_31, w_r_readChild_34, w_r_readChild_35, w_r_readChild_37, w_r_readChild_40, w_r_readChild_41, w_r_readChild_42, w_r_readChild_44, w_r_readChild_45, w_r_readChild_48, w_r_readChild_51, w_r_readChild_52, w_r_readChild_55, w_r_readChild_56, w_r_readChild_58, w_r_readChild_61, w_r_readChild_62, w_r_readChild_63, w_r_readChild_64, w_r_readChild_66, w_r_readChild_69, w_r_readChild_72, w_r_readChild_75, w_r_readChild_78, w_r_readChild_79, w_r_readChild_81, w_r_readChild_84, w_r_readChild_85, w_r_readChild_88, w_r_readChild_91, w_r_readChild_92, w_r_readChild_93, w_r_readChild_96, xr_2, cl_1, xr_4, xpp_0 ho, xpp_1 ho, a0, a1, g4, gk, h2, nI_1, cl_1, i10, Bool.false_eq_true, eq_self, true_or, or_true, if_true, if_false, gv_int, gv_ref, av_some, al_some, un_int, un_ref, un_mk, ok4_0, ok4_1, ok4_2, ok4_3, ok4_4, Kn_some, Kn_none, true_and, and_true]
  refine r_num hT (numC_mono ?_ ?_ hq)
  · intro e y hb he M1 hF hB
    have hF0 : Fc M M1 := (Fc.u1 (by omega)).tr hF
    simp only [w_r_readChild_0, w_r_readChild_1, w_r_readChild_4, w_r_readChild_5, w_r_readChild_8, w_r_readChild_9, w_r_readChild_12, w_r_readChild_15, w_r_readChild_16, w_r_readChild_17, w_r_readChild_18, w_r_readChild_21, w_r_readChild_24, w_r_readChild_25, w_r_readChild_26, w_r_readChild_29, w_r_readChild_30, w_r_readChild_31, w_r_readChild_34, w_r_readChild_35, w_r_readChild_37, w_r_readChild_40, w_r_readChild_41, w_r_readChild_42, w_r_readChild_44, w_r_readChild_45, w_r_readChild_48, w_r_readChild_51, w_r_readChild_52, w_r_readChild_55, w_r_readChild_56, w_r_readChild_58, w_r_readChild_61, w_r_readChild_62, w_r_readChild_63, w_r_readChild_64, w_r_readChild_66, w_r_readChild_69, w_r_readChild_72, w_r_readChild_75, w_r_readChild_78, w_r_readChild_79, w_r_readChild_81, w_r_readChild_84, w_r_readChild_85, w_r_readChild_88, w_r_readChild_91, w_r_readChild_92, w_r_readChild_93, w_r_readChild_96, xr_2, cl_1, xr_4, i10, Bool.false_eq_true, eq_self, true_or, or_true, if_true, if_false, gv_int, gv_ref, av_some, al_some, un_int, un_ref, un_mk, ok4_0, ok4_1, ok4_2, ok4_3, ok4_4, Kn_some, Kn_none, true_and, and_true]
    exact outF K 0 M1 e y 0 (by omega) hF0.fb hB he hb (hd.fc hF0 ho).1
  · intro r v hg hr M1 hF hT1 _
    have hF0 : Fc M M1 := (Fc.u1 (by omega)).tr hF
    simp only [w_r_readChild_0, w_r_readChild_1, w_r_readChild_4, w_r_readChild_5, w_r_readChild_8, w_r_readChild_9, w_r_readChild_12, w_r_readChild_15, w_r_readChild_16, w_r_readChild_17, w_r_readChild_18, w_r_readChild_21, w_r_readChild_24, w_r_readChild_25, w_r_readChild_26, w_r_readChild_29, w_r_readChild_30, w_r_readChild_31, w_r_readChild_34, w_r_readChild_35, w_r_readChild_37, w_r_readChild_40, w_r_readChild_41, w_r_readChild_42, w_r_readChild_44, w_r_readChild_45, w_r_readChild_48, w_r_readChild_51, w_r_readChild_52, w_r_readChild_55, w_r_readChild_56, w_r_readChild_58, w_r_readChild_61, w_r_readChild_62, w_r_readChild_63, w_r_readChild_64, w_r_readChild_66, w_r_readChild_69, w_r_readChild_72, w_r_readChild_75, w_r_readChild_78, w_r_readChild_79, w_r_readChild_81, w_r_readChild_84, w_r_readChild_85, w_r_readChild_88, w_r_readChild_91, w_r_readChild_92, w_r_readChild_93, w_r_readChild_96, xr_2, cl_1, xr_4, i10, Bool.false_eq_true, eq_self, true_or, or_true, if_true, if_false, gv_int, gv_ref, av_some, al_some, un_int, un_ref, un_mk, ok4_0, ok4_1, ok4_2, ok4_3, ok4_4, Kn_some, Kn_none, true_and, and_true]
    exact key K 0 r M1 (up (up F 71 C 0) 69 C v) v (by omega) hF0.fb hT1 (CD_pre (hd.fc hF0 ho)) (fun j hj => absurd hj (Nat.not_lt_zero _)) (by show upd (F 69) C v C = v; rw [upd_at, if_pos rfl]) (by show upd (F 71) C 0 C = 0; rw [upd_at, if_pos rfl]) hg
theorem c_clause {A B o tl p K C N : Nat} {M F : Mm} {Q : Po} (ho : isPP o) (h : TC M tl p) (hd : CD M o K C N F) (hs : sk (M 2) tl p = p) (hlt : p < tl) (hq : clauseC (M 2) tl p K C N F (bdC A B o tl M Q) (gdC A B o tl M Q)) : WP 61 0 [.ref 1, .ref o] [] (shw A B) (0, 0) M Q := by
  obtain ⟨⟨h1, h2⟩, ⟨h3, h4⟩, h5, h6⟩ := id h
  unfold clauseC at hq
  rw [hs] at hq
  have cb : ∀ pc, (∀ M1, Q none (shw A B) M1 → WP 61 pc [.ref 1, .ref o] [] (shw A B) (0, 0) M1 Q) → ∀ e y, bdC A B o tl M Q e y → bdC A B o tl M (Kn 61 pc [.ref 1, .ref o] [] (0, 0) Q) e y := fun pc hpc e y hb he M' hF hB => hpc M' (hb he M' hF hB)
  have cg : ∀ pc, (∀ M1, Q none (shw A B) M1 → WP 61 pc [.ref 1, .ref o] [] (shw A B) (0, 0) M1 Q) → ∀ q K C N F, gdC A B o tl M Q q K C N F → gdC A B o tl M (Kn 61 pc [.ref 1, .ref o] [] (0, 0) Q) q K C N F := fun pc hpc q K C N F hg M' hF hT hD => hpc M' (hg M' hF hT hD)
  have p53 : ∀ M1, Q none (shw A B) M1 → WP 61 53 [.ref 1, .ref o] [] (shw A B) (0, 0) M1 Q := by
    intro M1 hQ
    simp only [w_r_readClause_0, w_r_readClause_1, w_r_readClause_4, w_r_readClause_48, w_r_readClause_49, w_r_readClause_50, w_r_readClause_53, w_r_readClause_56, w_r_readClause_57, w_r_readClause_58, w_r_readClause_61, w_r_readClause_64, w_r_readClause_65, w_r_readClause_66, w_r_readClause_69, w_r_readClause_72, w_r_readClause_73, w_r_readClause_74, w_r_readClause_77, w_r_readClause_80, w_r_readClause_81, w_r_readClause_82, w_r_readClause_83, w_r_readClause_86, w_r_readClause_89, cl_1, xr_2, i10, Bool.false_eq_true, eq_self, true_or, or_true, if_true, if_false, gv_int, gv_ref, av_some, al_some, un_int, un_ref, un_mk, ok4_0, ok4_1, ok4_2, ok4_3, ok4_4, Kn_some, Kn_none, true_and, and_true]
    exact hQ
  have p61 : ∀ M1, Q none (shw A B) M1 → WP 61 61 [.ref 1, .ref o] [] (shw A B) (0, 0) M1 Q := by
    intro M1 hQ
    simp only [w_r_readClause_0, w_r_readClause_1, w_r_readClause_4, w_r_readClause_48, w_r_readClause_49, w_r_readClause_50, w_r_readClause_53, w_r_readClause_56, w_r_readClause_57, w_r_readClause_58, w_r_readClause_61, w_r_readClause_64, w_r_readClause_65, w_r_readClause_66, w_r_readClause_69, w_r_readClause_72, w_r_readClause_73, w_r_readClause_74, w_r_readClause_77, w_r_readClause_80, w_r_readClause_81, w_r_readClause_82, w_r_readClause_83, w_r_readClause_86, w_r_readClause_89, cl_1, xr_2, i10, Bool.false_eq_true, eq_self, true_or, or_true, if_true, if_false, gv_int, gv_ref, av_some, al_some, un_int, un_ref, un_mk, ok4_0, ok4_1, ok4_2, ok4_3, ok4_4, Kn_some, Kn_none, true_and, and_true]
    exact hQ
  have p69 : ∀ M1, Q none (shw A B) M1 → WP 61 69 [.ref 1, .ref o] [] (shw A B) (0, 0) M1 Q := by
    intro M1 hQ
    simp only [w_r_readClause_0, w_r_readClause_1, w_r_readClause_4, w_r_readClause_48, w_r_readClause_49, w_r_readClause_50, w_r_readClause_53, w_r_readClause_56, w_r_readClause_57, w_r_readClause_58, w_r_readClause_61, w_r_readClause_64, w_r_readClause_65, w_r_readClause_66, w_r_readClause_69, w_r_readClause_72, w_r_readClause_73, w_r_readClause_74, w_r_readClause_77, w_r_readClause_80, w_r_readClause_81, w_r_readClause_82, w_r_readClause_83, w_r_readClause_86, w_r_readClause_89, cl_1, xr_2, i10, Bool.false_eq_true, eq_self, true_or, or_true, if_true, if_false, gv_int, gv_ref, av_some, al_some, un_int, un_ref, un_mk, ok4_0, ok4_1, ok4_2, ok4_3, ok4_4, Kn_some, Kn_none, true_and, and_true]
    exact hQ
  have p77 : ∀ M1, Q none (shw A B) M1 → WP 61 77 [.ref 1, .ref o] [] (shw A B) (0, 0) M1 Q := by
    intro M1 hQ
    simp only [w_r_readClause_0, w_r_readClause_1, w_r_readClause_4, w_r_readClause_48, w_r_readClause_49, w_r_readClause_50, w_r_readClause_53, w_r_readClause_56, w_r_readClause_57, w_r_readClause_58, w_r_readClause_61, w_r_readClause_64, w_r_readClause_65, w_r_readClause_66, w_r_readClause_69, w_r_readClause_72, w_r_readClause_73, w_r_readClause_74, w_r_readClause_77, w_r_readClause_80, w_r_readClause_81, w_r_readClause_82, w_r_readClause_83, w_r_readClause_86, w_r_readClause_89, cl_1, xr_2, i10, Bool.false_eq_true, eq_self, true_or, or_true, if_true, if_false, gv_int, gv_ref, av_some, al_some, un_int, un_ref, un_mk, ok4_0, ok4_1, ok4_2, ok4_3, ok4_4, Kn_some, Kn_none, true_and, and_true]
    exact hQ
  by_cases x1 : lt (M 2) tl p = 107
  · rw [if_pos x1] at hq
    simp only [w_r_readClause_0, w_r_readClause_1, w_r_readClause_4, w_r_readClause_48, w_r_readClause_49, w_r_readClause_50, w_r_readClause_56, w_r_readClause_57, w_r_readClause_58, w_r_readClause_61, w_r_readClause_64, w_r_readClause_65, w_r_readClause_66, w_r_readClause_69, w_r_readClause_72, w_r_readClause_73, w_r_readClause_74, w_r_readClause_77, w_r_readClause_80, w_r_readClause_81, w_r_readClause_82, w_r_readClause_83, w_r_readClause_86, w_r_readClause_89, cl_1, xr_2, e_r_letterHere h1 h2 h5 h6, x1, show ((107 : Int32) = 99) = False by decide, cl_1, i10, Bool.false_eq_true, eq_self, true_or, or_true, if_true, if_false, gv_int, gv_ref, av_some, al_some, un_int, un_ref, un_mk, ok4_0, ok4_1, ok4_2, ok4_3, ok4_4, Kn_some, Kn_none, true_and, and_true]
    refine c_readKind ho h hd hlt ?_
    by_cases z : K = 5 ∨ 0 < C
    · rw [if_pos z] at hq ⊢; exact cb 53 p53 _ _ hq
    · rw [if_neg z] at hq ⊢
      exact kindC_mono (cb 53 p53) (fun _ _ hs => signC_mono (cb 53 p53) (fun _ hg => cg 53 p53 _ _ _ _ _ hg) hs) hq
  · rw [if_neg x1] at hq
    by_cases x2 : lt (M 2) tl p = 99
    · rw [if_pos x2] at hq
      simp only [w_r_readClause_0, w_r_readClause_1, w_r_readClause_4, w_r_readClause_48, w_r_readClause_49, w_r_readClause_50, w_r_readClause_53, w_r_readClause_56, w_r_readClause_57, w_r_readClause_58, w_r_readClause_64, w_r_readClause_65, w_r_readClause_66, w_r_readClause_69, w_r_readClause_72, w_r_readClause_73, w_r_readClause_74, w_r_readClause_77, w_r_readClause_80, w_r_readClause_81, w_r_readClause_82, w_r_readClause_83, w_r_readClause_86, w_r_readClause_89, cl_1, xr_2, e_r_letterHere h1 h2 h5 h6, x2, cl_1, i10, Bool.false_eq_true, eq_self, true_or, or_true, if_true, if_false, gv_int, gv_ref, av_some, al_some, un_int, un_ref, un_mk, ok4_0, ok4_1, ok4_2, ok4_3, ok4_4, Kn_some, Kn_none, true_and, and_true]
      refine c_readChild ho h hd hlt ?_
      by_cases z : C = 4 ∨ K = 0
      · rw [if_pos z] at hq ⊢; exact cb 61 p61 _ _ hq
      · rw [if_neg z] at hq ⊢
        exact childC_mono (cb 61 p61) (fun _ _ hs => signC_mono (cb 61 p61) (fun _ hg => cg 61 p61 _ _ _ _ _ hg) hs) hq
    · rw [if_neg x2] at hq
      by_cases x3 : lt (M 2) tl p = 108
      · rw [if_pos x3] at hq
        simp only [w_r_readClause_0, w_r_readClause_1, w_r_readClause_4, w_r_readClause_48, w_r_readClause_49, w_r_readClause_50, w_r_readClause_53, w_r_readClause_56, w_r_readClause_57, w_r_readClause_58, w_r_readClause_61, w_r_readClause_64, w_r_readClause_65, w_r_readClause_66, w_r_readClause_72, w_r_readClause_73, w_r_readClause_74, w_r_readClause_77, w_r_readClause_80, w_r_readClause_81, w_r_readClause_82, w_r_readClause_83, w_r_readClause_86, w_r_readClause_89, cl_1, xr_2, e_r_letterHere h1 h2 h5 h6, x3, show ((108 : Int32) = 99) = False by decide, show ((108 : Int32) = 107) = False by decide, cl_1, i10, Bool.false_eq_true, eq_self, true_or, or_true, if_true, if_false, gv_int, gv_ref, av_some, al_some, un_int, un_ref, un_mk, ok4_0, ok4_1, ok4_2, ok4_3, ok4_4, Kn_some, Kn_none, true_and, and_true]
        refine c_readLook ho h hd hlt ?_
        exact lookC_mono (cb 69 p69) (fun _ _ hs => signC_mono (cb 69 p69) (fun _ hg => cg 69 p69 _ _ _ _ _ hg) hs) hq
      · rw [if_neg x3] at hq
        by_cases x4 : lt (M 2) tl p = 116
        · rw [if_pos x4] at hq
          simp only [w_r_readClause_0, w_r_readClause_1, w_r_readClause_4, w_r_readClause_48, w_r_readClause_49, w_r_readClause_50, w_r_readClause_53, w_r_readClause_56, w_r_readClause_57, w_r_readClause_58, w_r_readClause_61, w_r_readClause_64, w_r_readClause_65, w_r_readClause_66, w_r_readClause_69, w_r_readClause_72, w_r_readClause_73, w_r_readClause_74, w_r_readClause_80, w_r_readClause_81, w_r_readClause_82, w_r_readClause_83, w_r_readClause_86, w_r_readClause_89, cl_1, xr_2, e_r_letterHere h1 h2 h5 h6, x4, show ((116 : Int32) = 99) = False by decide, show ((116 : Int32) = 107) = False by decide, show ((116 : Int32) = 108) = False by decide, cl_1, i10, Bool.false_eq_true, eq_self, true_or, or_true, if_true, if_false, gv_int, gv_ref, av_some, al_some, un_int, un_ref, un_mk, ok4_0, ok4_1, ok4_2, ok4_3, ok4_4, Kn_some, Kn_none, true_and, and_true]
          refine c_readThing ho h hd hlt ?_
          by_cases z : N = 7
          · rw [if_pos z] at hq ⊢; exact cb 77 p77 _ _ hq
          · rw [if_neg z] at hq ⊢
            exact thingC_mono (cb 77 p77) (fun _ _ hs => signC_mono (cb 77 p77) (fun _ hg => cg 77 p77 _ _ _ _ _ hg) hs) hq
        · rw [if_neg x4] at hq
          simp only [w_r_readClause_0, w_r_readClause_1, w_r_readClause_4, w_r_readClause_48, w_r_readClause_49, w_r_readClause_50, w_r_readClause_53, w_r_readClause_56, w_r_readClause_57, w_r_readClause_58, w_r_readClause_61, w_r_readClause_64, w_r_readClause_65, w_r_readClause_66, w_r_readClause_69, w_r_readClause_72, w_r_readClause_73, w_r_readClause_74, w_r_readClause_77, w_r_readClause_80, w_r_readClause_81, w_r_readClause_82, w_r_readClause_83, w_r_readClause_86, w_r_readClause_89, cl_1, xr_2, e_r_letterHere h1 h2 h5 h6, eq_false x1, eq_false x2, eq_false x3, eq_false x4, cl_1, h2, e_r_fail0 h3, i10, Bool.false_eq_true, eq_self, true_or, or_true, if_true, if_false, gv_int, gv_ref, av_some, al_some, un_int, un_ref, un_mk, ok4_0, ok4_1, ok4_2, ok4_3, ok4_4, Kn_some, Kn_none, true_and, and_true]
          exact hq (by decide) _ ((Fc.u1 (by omega)).tr (Fc.u1 (by omega))).fb ⟨⟨h1, p, h6, h2⟩, rfl, rfl⟩
theorem FB.rd {o : Nat} {M M' : Mm} (h : FB o M M') (ho : isPP o) {j : Nat} (hj : ¬ j = 2 ∧ ¬ j = 3 ∧ ¬ j = 4 ∧ ¬ j = 5) : M' 1 j = M 1 j := h 1 j (by unfold isPP at ho; omega) (fun _ => hj)
/-- the component reads a whole text -/
theorem c_readInto {A B o tl : Nat} {M F0 : Mm} {Q : Po} (ho : isPP o) (ht : M 1 1 = nI tl) (htl : tl ≤ 240) (hq : partyC (M 2) tl (fun e y => 0 < e → ∀ M', FB o M M' → BS M' tl e y → Q (some (.int e)) (shw A B) M') (fun K C N F => OF K C N F → ∀ M', FB o M M' → M' 1 5 = -1 → CD M' o K C N F → Q (some (.int 0)) (shw A B) M') (tl + 1) 0 0 0 0 F0) : WP 60 0 [.ref 1, .ref o, mk] [] (shw A B) (0, 0) M Q := by
  have key : ∀ f p K C N F M' k, tl - p < f → k ≤ sk (M 2) tl p → p ≤ tl → TC M' tl (sk (M 2) tl p) → CD M' o K C N F → OF K C N F → FB o M M' → partyC (M 2) tl (fun e y => 0 < e → ∀ M', FB o M M' → BS M' tl e y → Q (some (.int e)) (shw A B) M') (fun K C N F => OF K C N F → ∀ M', FB o M M' → M' 1 5 = -1 → CD M' o K C N F → Q (some (.int 0)) (shw A B) M') f p K C N F → WP 60 25 [.ref 1, .ref o, .int (nI k)] [] (shw A B) (0, 0) M' Q := by
    intro f
    induction f with
    | zero => intro p K C N F M' k hf; omega
    | succ f ih =>
      intro p K C N F M' k hf hk hp hT hD hO hF hpq
      have hs := sk_le (tx := M 2) hp
      have hss := sk_sk (tx := M 2) (tl := tl) (tl - p) p (by omega)
      unfold partyC at hpq
      rw [w_r_readInto_25]
      by_cases q : sk (M 2) tl p < tl
      · rw [if_pos q] at hpq
        have g1 : nI k < 240 := nI_lt (b := 240) (by omega) (by decide)
        have g2 : nI (sk (M 2) tl p) < nI tl := nI_lt q (by omega)
        simp only [w_r_readInto_0, w_r_readInto_1, w_r_readInto_2, w_r_readInto_5, w_r_readInto_6, w_r_readInto_7, w_r_readInto_10, w_r_readInto_11, w_r_readInto_12, w_r_readInto_15, w_r_readInto_16, w_r_readInto_19, w_r_readInto_20, w_r_readInto_23, w_r_readInto_24, w_r_readInto_26, w_r_readInto_29, w_r_readInto_32, w_r_readInto_33, w_r_readInto_36, w_r_readInto_37, w_r_readInto_40, w_r_readInto_43, w_r_readInto_44, w_r_readInto_47, w_r_readInto_50, w_r_readInto_51, w_r_readInto_52, w_r_readInto_55, w_r_readInto_56, w_r_readInto_59, w_r_readInto_62, w_r_readInto_65, w_r_readInto_66, w_r_readInto_69, xr_2, xr_4, xr_5, cl_1, xr_1, g1, hT.1.1, hT.1.2, g2, hT.2.1.1, cl_1, i10, Bool.false_eq_true, eq_self, true_or, or_true, if_true, if_false, gv_int, gv_ref, av_some, al_some, un_int, un_ref, un_mk, ok4_0, ok4_1, ok4_2, ok4_3, ok4_4, Kn_some, Kn_none, true_and, and_true]
        refine c_clause ho hT hD (by rw [hF.text ho]; exact hss) q ?_
        rw [hF.text ho]
        rw [← clauseC_sk hp] at hpq
        refine clauseC_mono ?_ ?_ (clauseC_str hs.2 hO hpq)
        · intro e y hb he M1 hF1 hB
          obtain ⟨⟨z1, pp, z2, z3⟩, z4, z5⟩ := id hB
          have hne : ¬ M1 1 4 = 0 := hB.ne he
          have hFm := hF.tr hF1
          have e2 : M1 2 = M 2 := hFm.text ho
          simp only [w_r_readInto_0, w_r_readInto_1, w_r_readInto_2, w_r_readInto_5, w_r_readInto_6, w_r_readInto_7, w_r_readInto_10, w_r_readInto_11, w_r_readInto_12, w_r_readInto_15, w_r_readInto_16, w_r_readInto_19, w_r_readInto_20, w_r_readInto_23, w_r_readInto_24, w_r_readInto_26, w_r_readInto_29, w_r_readInto_32, w_r_readInto_33, w_r_readInto_36, w_r_readInto_37, w_r_readInto_40, w_r_readInto_43, w_r_readInto_44, w_r_readInto_47, w_r_readInto_50, w_r_readInto_51, w_r_readInto_52, w_r_readInto_55, w_r_readInto_56, w_r_readInto_59, w_r_readInto_62, w_r_readInto_65, w_r_readInto_66, w_r_readInto_69, xr_2, xr_4, xr_5, cl_1, xr_1, e_r_skipBlanks z1 z3 htl z2, cl_1, nI_1, i10, Bool.false_eq_true, eq_self, true_or, or_true, if_true, if_false, gv_int, gv_ref, av_some, al_some, un_int, un_ref, un_mk, ok4_0, ok4_1, ok4_2, ok4_3, ok4_4, Kn_some, Kn_none, true_and, and_true]
          rw [w_r_readInto_25]
          have fin : Q (some (.int e)) (shw A B) (up M1 1 2 (nI (sk (M1 2) tl pp))) := by
            refine hb he _ (hFm.tr (Fc.u1 (by omega)).fb) ⟨⟨z1, _, (sk_le (tx := M1 2) z2).2, rfl⟩, z4, z5⟩
          have r4 : up M1 1 2 (nI (sk (M1 2) tl pp)) 1 4 = e := z4
          have he0 := ne_0 he
          simp only [w_r_readInto_0, w_r_readInto_1, w_r_readInto_2, w_r_readInto_5, w_r_readInto_6, w_r_readInto_7, w_r_readInto_10, w_r_readInto_11, w_r_readInto_12, w_r_readInto_15, w_r_readInto_16, w_r_readInto_19, w_r_readInto_20, w_r_readInto_23, w_r_readInto_24, w_r_readInto_26, w_r_readInto_29, w_r_readInto_32, w_r_readInto_33, w_r_readInto_36, w_r_readInto_37, w_r_readInto_40, w_r_readInto_43, w_r_readInto_44, w_r_readInto_47, w_r_readInto_50, w_r_readInto_51, w_r_readInto_52, w_r_readInto_55, w_r_readInto_56, w_r_readInto_59, w_r_readInto_62, w_r_readInto_65, w_r_readInto_66, w_r_readInto_69, xr_2, xr_4, xr_5, cl_1, xr_1, r4, eq_false he0, i10, Bool.false_eq_true, eq_self, true_or, or_true, if_true, if_false, gv_int, gv_ref, av_some, al_some, un_int, un_ref, un_mk, ok4_0, ok4_1, ok4_2, ok4_3, ok4_4, Kn_some, Kn_none, true_and, and_true]
          by_cases w1 : nI (k + 1) < 240
          · simp only [eq_true w1, if_true]
            by_cases w2 : up M1 1 2 (nI (sk (M1 2) tl pp)) 1 2 < up M1 1 2 (nI (sk (M1 2) tl pp)) 1 1
            · simp only [eq_true w2, if_true]; exact fin
            · simp only [eq_false w2, if_false]; exact fin
          · simp only [eq_false w1, if_false]; exact fin
        · intro r K1 C1 N1 F1 hg M1 hF1 hT1 hD1
          obtain ⟨⟨g3, g4, g5⟩, hg⟩ := hg
          have hFm := hF.tr hF1
          have e2 : M1 2 = M 2 := hFm.text ho
          have hs1 := sk_le (tx := M 2) g4
          simp only [w_r_readInto_0, w_r_readInto_1, w_r_readInto_2, w_r_readInto_5, w_r_readInto_6, w_r_readInto_7, w_r_readInto_10, w_r_readInto_11, w_r_readInto_12, w_r_readInto_15, w_r_readInto_16, w_r_readInto_19, w_r_readInto_20, w_r_readInto_23, w_r_readInto_24, w_r_readInto_26, w_r_readInto_29, w_r_readInto_32, w_r_readInto_33, w_r_readInto_36, w_r_readInto_37, w_r_readInto_40, w_r_readInto_43, w_r_readInto_44, w_r_readInto_47, w_r_readInto_50, w_r_readInto_51, w_r_readInto_52, w_r_readInto_55, w_r_readInto_56, w_r_readInto_59, w_r_readInto_62, w_r_readInto_65, w_r_readInto_66, w_r_readInto_69, xr_2, xr_4, xr_5, cl_1, xr_1, e_r_skipBlanks hT1.1.1 hT1.1.2 htl g4, cl_1, nI_1, i10, Bool.false_eq_true, eq_self, true_or, or_true, if_true, if_false, gv_int, gv_ref, av_some, al_some, un_int, un_ref, un_mk, ok4_0, ok4_1, ok4_2, ok4_3, ok4_4, Kn_some, Kn_none, true_and, and_true]
          rw [e2]
          exact ih r K1 C1 N1 F1 _ (k + 1) (by omega) (by omega) g4 ⟨⟨hT1.1.1, rfl⟩, hT1.2.1, htl, hs1.2⟩ (hD1.fc (Fc.u1 (by omega)) ho) g5 (hFm.tr (Fc.u1 (by omega)).fb) hg
      · rw [if_neg q] at hpq
        have e : sk (M 2) tl p = tl := by omega
        rw [e] at hT
        have fin : Q (some (.int 0)) (shw A B) M' := hpq hO M' hF hT.2.1.2 hD
        simp only [w_r_readInto_0, w_r_readInto_1, w_r_readInto_2, w_r_readInto_5, w_r_readInto_6, w_r_readInto_7, w_r_readInto_10, w_r_readInto_11, w_r_readInto_12, w_r_readInto_15, w_r_readInto_16, w_r_readInto_19, w_r_readInto_20, w_r_readInto_23, w_r_readInto_24, w_r_readInto_26, w_r_readInto_29, w_r_readInto_32, w_r_readInto_33, w_r_readInto_36, w_r_readInto_37, w_r_readInto_40, w_r_readInto_43, w_r_readInto_44, w_r_readInto_47, w_r_readInto_50, w_r_readInto_51, w_r_readInto_52, w_r_readInto_55, w_r_readInto_56, w_r_readInto_59, w_r_readInto_62, w_r_readInto_65, w_r_readInto_66, w_r_readInto_69, xr_2, xr_4, xr_5, cl_1, xr_1, hT.1.1, hT.1.2, hT.2.1.1, lt_irr, i10, Bool.false_eq_true, eq_self, true_or, or_true, if_true, if_false, gv_int, gv_ref, av_some, al_some, un_int, un_ref, un_mk, ok4_0, ok4_1, ok4_2, ok4_3, ok4_4, Kn_some, Kn_none, true_and, and_true]
        by_cases w1 : nI k < 240
        · simp only [eq_true w1, if_true]; exact fin
        · simp only [eq_false w1, if_false]; exact fin
  have hz : ∀ j, j < 4 → up (up (up (up (up (up (up M 1 2 0) 1 4 0) 1 5 (-1)) o 0 0) o 1 0) o 2 0) o 3 0 o j = 0 := by
    intro j hj
    simp only [uo_0_0, upd_at]
    by_cases q3 : j = 3
    · rw [if_pos q3]
    · rw [if_neg q3]
      by_cases q2 : j = 2
      · rw [if_pos q2]
      · rw [if_neg q2]
        by_cases q1 : j = 1
        · rw [if_pos q1]
        · rw [if_neg q1, if_pos (by omega)]
  have n1o : ¬ o = 1 := PP_ne1 (d := 0) ho
  have r1 : ∀ X : Mm, ∀ k x, up X o k x 1 = X 1 := fun X k x => if_neg (fun e => n1o e.symm)
  have hF1 : Fc M (up (up (up M 1 2 0) 1 4 0) 1 5 (-1)) := ((Fc.u1 (by omega)).tr (Fc.u1 (by omega))).tr (Fc.u1 (by omega))
  have hFB : FB o M (up (up (up (up (up (up (up M 1 2 0) 1 4 0) 1 5 (-1)) o 0 0) o 1 0) o 2 0) o 3 0) := (((hF1.fb.tr (FB.uo (by omega) (by omega))).tr (FB.uo (by omega) (by omega))).tr (FB.uo (by omega) (by omega))).tr (FB.uo (by omega) (by omega))
  have c1 : up (up (up (up (up (up (up M 1 2 0) 1 4 0) 1 5 (-1)) o 0 0) o 1 0) o 2 0) o 3 0 1 = up (up (up M 1 2 0) 1 4 0) 1 5 (-1) 1 := by rw [r1, r1, r1, r1]
  simp only [w_r_readInto_0, w_r_readInto_1, w_r_readInto_2, w_r_readInto_5, w_r_readInto_6, w_r_readInto_7, w_r_readInto_10, w_r_readInto_11, w_r_readInto_12, w_r_readInto_15, w_r_readInto_16, w_r_readInto_19, w_r_readInto_20, w_r_readInto_23, w_r_readInto_24, w_r_readInto_26, w_r_readInto_29, w_r_readInto_32, w_r_readInto_33, w_r_readInto_36, w_r_readInto_37, w_r_readInto_40, w_r_readInto_43, w_r_readInto_44, w_r_readInto_47, w_r_readInto_50, w_r_readInto_51, w_r_readInto_52, w_r_readInto_55, w_r_readInto_56, w_r_readInto_59, w_r_readInto_62, w_r_readInto_65, w_r_readInto_66, w_r_readInto_69, xr_2, xr_4, xr_5, cl_1, xr_1, e_p_clear ho, zpp ho, cl_1, i10, Bool.false_eq_true, eq_self, true_or, or_true, if_true, if_false, gv_int, gv_ref, av_some, al_some, un_int, un_ref, un_mk, ok4_0, ok4_1, ok4_2, ok4_3, ok4_4, Kn_some, Kn_none, true_and, and_true]
  generalize hM1 : up (up (up (up (up (up (up M 1 2 0) 1 4 0) 1 5 (-1)) o 0 0) o 1 0) o 2 0) o 3 0 = M1 at hz hFB c1
  have t1 : M1 1 1 = nI tl := by rw [c1]; exact ht
  have t2 : M1 1 2 = nI 0 := by rw [c1]; rfl
  have e2 : M1 2 = M 2 := hFB.text ho
  have hs0 := sk_le (tx := M 2) (Nat.zero_le tl)
  simp only [w_r_readInto_0, w_r_readInto_1, w_r_readInto_2, w_r_readInto_5, w_r_readInto_6, w_r_readInto_7, w_r_readInto_10, w_r_readInto_11, w_r_readInto_12, w_r_readInto_15, w_r_readInto_16, w_r_readInto_19, w_r_readInto_20, w_r_readInto_23, w_r_readInto_24, w_r_readInto_26, w_r_readInto_29, w_r_readInto_32, w_r_readInto_33, w_r_readInto_36, w_r_readInto_37, w_r_readInto_40, w_r_readInto_43, w_r_readInto_44, w_r_readInto_47, w_r_readInto_50, w_r_readInto_51, w_r_readInto_52, w_r_readInto_55, w_r_readInto_56, w_r_readInto_59, w_r_readInto_62, w_r_readInto_65, w_r_readInto_66, w_r_readInto_69, xr_2, xr_4, xr_5, cl_1, xr_1, e_r_skipBlanks t1 t2 htl (Nat.zero_le tl), cl_1, i10, Bool.false_eq_true, eq_self, true_or, or_true, if_true, if_false, gv_int, gv_ref, av_some, al_some, un_int, un_ref, un_mk, ok4_0, ok4_1, ok4_2, ok4_3, ok4_4, Kn_some, Kn_none, true_and, and_true]
  rw [e2]
  refine key (tl + 1) 0 0 0 0 F0 _ 0 (by omega) (Nat.zero_le _) (Nat.zero_le _) ⟨⟨t1, rfl⟩, ⟨?_, ?_⟩, htl, hs0.2⟩ ?_ ⟨⟨by omega, by omega, by omega⟩, fun i hi => absurd hi (Nat.not_lt_zero _), fun i k hi => absurd hi (Nat.not_lt_zero _), fun i hi => absurd hi (Nat.not_lt_zero _)⟩ (hFB.tr (Fc.u1 (by omega)).fb) hq
  · show M1 1 4 = 0
    rw [c1]; rfl
  · show M1 1 5 = -1
    rw [c1]; rfl
  · refine CD.fc ?_ (Fc.u1 (by omega)) ho
    refine ⟨⟨⟨hz 0 (by omega), hz 1 (by omega), hz 2 (by omega)⟩, by omega, by omega, by omega⟩, fun i hi => absurd hi (Nat.not_lt_zero _), fun i hi => absurd hi (Nat.not_lt_zero _), fun i k hi => absurd hi (Nat.not_lt_zero _), fun i hi => absurd hi (Nat.not_lt_zero _), ⟨0, fun _ => 0, fun _ => 0, hz 3 (by omega), by omega, fun q hq => absurd hq (Nat.not_lt_zero _), PL_0 _ _ _⟩, fun i j hi => absurd hi (Nat.not_lt_zero _)⟩
