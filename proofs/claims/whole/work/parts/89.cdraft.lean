/-! the component: the draft is written -/
theorem e_p_clear {A B o : Nat} {M : Mm} {Q : Po} (ho : isPP o) : WP 28 0 [.ref o] [] (shw A B) (0, 0) M Q = Q none (shw A B) (up (up (up (up M o 0 0) o 1 0) o 2 0) o 3 0) := by
  simp only [w_p_clear_0, w_p_clear_1, w_p_clear_2, w_p_clear_5, w_p_clear_6, w_p_clear_7, w_p_clear_10, w_p_clear_11, w_p_clear_12, w_p_clear_15, w_p_clear_16, w_p_clear_17, w_p_clear_20, xpp_0 ho, xpp_1 ho, xpp_2 ho, xpp_3 ho, i10, Bool.false_eq_true, eq_self, true_or, or_true, if_true, if_false, gv_int, gv_ref, av_some, al_some, un_int, un_ref, un_mk, ok4_0, ok4_1, ok4_2, ok4_3, ok4_4, Kn_some, Kn_none, true_and, and_true]
theorem e_p_addKind {A B o K : Nat} {M : Mm} {Q : Po} {x y : Int32} (ho : isPP o) (h : M o 0 = nI K) (hK : K < 5) : WP 29 0 [.ref o, .int x, .int y] [] (shw A B) (0, 0) M Q = Q none (shw A B) (up (up (up M (o + 1) K x) (o + 2) K y) o 0 (nI (K + 1))) := by
  have g1 : nI K < 5 := nI_lt (b := 5) hK (by decide)
  have g2 : vp_in (nI K) 5 := vp_in_nI hK (by decide)
  simp only [w_p_addKind_0, w_p_addKind_1, w_p_addKind_4, w_p_addKind_5, w_p_addKind_8, w_p_addKind_9, w_p_addKind_12, w_p_addKind_13, w_p_addKind_16, w_p_addKind_17, w_p_addKind_18, w_p_addKind_19, w_p_addKind_22, w_p_addKind_23, w_p_addKind_26, w_p_addKind_27, w_p_addKind_28, w_p_addKind_29, w_p_addKind_30, w_p_addKind_33, w_p_addKind_34, w_p_addKind_35, w_p_addKind_38, xpp_0 ho, xpp_4 ho, xpp_5 ho, ypp_1 ho, ypp_2 ho, h, uo_0_1, uo_0_2, g1, g2, nI_clamp (show K < 2 ^ 31 by omega), nI_1, i10, Bool.false_eq_true, eq_self, true_or, or_true, if_true, if_false, gv_int, gv_ref, av_some, al_some, un_int, un_ref, un_mk, ok4_0, ok4_1, ok4_2, ok4_3, ok4_4, Kn_some, Kn_none, true_and, and_true]
theorem e_p_addThing {A B o K C N : Nat} {M : Mm} {Q : Po} {x : Int32} (ho : isPP o) (h : CP M o K C N) (hN : N < 7) (hx : inb x K = true) : WP 33 0 [.ref o, .int x] [] (shw A B) (0, 0) M Q = Q none (shw A B) (up (up M (o + 9) N x) o 2 (nI (N + 1))) := by
  have g1 : nI N < 7 := nI_lt (b := 7) hN (by decide)
  have g2 : vp_in (nI N) 7 := vp_in_nI hN (by decide)
  simp only [w_p_addThing_0, w_p_addThing_1, w_p_addThing_4, w_p_addThing_6, w_p_addThing_9, w_p_addThing_10, w_p_addThing_11, w_p_addThing_14, w_p_addThing_17, w_p_addThing_18, w_p_addThing_21, w_p_addThing_22, w_p_addThing_25, w_p_addThing_26, w_p_addThing_27, w_p_addThing_28, w_p_addThing_29, w_p_addThing_32, w_p_addThing_33, w_p_addThing_34, w_p_addThing_37, xpp_2 ho, h.1.2.2, g1, e_p_hasKind ho h, hx, zpp ho, xpp_12 ho, ypp_9 ho, uo_0_9, g2, nI_clamp (show N < 2 ^ 31 by omega), nI_1, i10, Bool.false_eq_true, eq_self, true_or, or_true, if_true, if_false, gv_int, gv_ref, av_some, al_some, un_int, un_ref, un_mk, ok4_0, ok4_1, ok4_2, ok4_3, ok4_4, Kn_some, Kn_none, true_and, and_true]
theorem e_p_setNextPrice {A B o C k : Nat} {M : Mm} {Q : Po} {x : Int32} (ho : isPP o) (h : M o 1 = nI C) (hC : C ≤ 4) (hk : k < 5) : WP 30 0 [.ref o, .int (nI k), .int x] [] (shw A B) (0, 0) M Q = Q none (shw A B) (if C < 4 then up M (o + 5) (C * 5 + k) x else M) := by
  have g0 : (nI k < 0) = False := eq_false (nI_pos (by omega))
  have g1 : nI k < 5 := nI_lt (b := 5) hk (by decide)
  by_cases q : C < 4
  · have g2 : nI C < 4 := nI_lt (b := 4) q (by decide)
    have g3 : vp_in (nI (C * 5 + k)) 20 := vp_in_nI (by omega) (by decide)
    have e5 : nI C * 5 + nI k = nI (C * 5 + k) := by rw [show (5 : Int32) = nI 5 from rfl, pk_mul, nI_add]
    rw [if_pos q]
    simp only [w_p_setNextPrice_0, w_p_setNextPrice_1, w_p_setNextPrice_4, w_p_setNextPrice_5, w_p_setNextPrice_8, w_p_setNextPrice_9, w_p_setNextPrice_12, w_p_setNextPrice_13, w_p_setNextPrice_14, w_p_setNextPrice_17, w_p_setNextPrice_18, w_p_setNextPrice_21, w_p_setNextPrice_22, w_p_setNextPrice_25, w_p_setNextPrice_26, w_p_setNextPrice_27, w_p_setNextPrice_28, w_p_setNextPrice_29, w_p_setNextPrice_30, w_p_setNextPrice_31, xpp_1 ho, h, g0, g1, g2, xpp_8 ho, ypp_5 ho, e5, g3, nI_clamp (show C * 5 + k < 2 ^ 31 by omega), i10, Bool.false_eq_true, eq_self, true_or, or_true, if_true, if_false, gv_int, gv_ref, av_some, al_some, un_int, un_ref, un_mk, ok4_0, ok4_1, ok4_2, ok4_3, ok4_4, Kn_some, Kn_none, true_and, and_true]
  · have g2 : (nI C < 4) = False := eq_false (nI_nlt (b := 4) (by omega) (by omega))
    rw [if_neg q]
    simp only [w_p_setNextPrice_0, w_p_setNextPrice_1, w_p_setNextPrice_4, w_p_setNextPrice_5, w_p_setNextPrice_8, w_p_setNextPrice_9, w_p_setNextPrice_12, w_p_setNextPrice_13, w_p_setNextPrice_14, w_p_setNextPrice_17, w_p_setNextPrice_18, w_p_setNextPrice_21, w_p_setNextPrice_22, w_p_setNextPrice_25, w_p_setNextPrice_26, w_p_setNextPrice_27, w_p_setNextPrice_28, w_p_setNextPrice_29, w_p_setNextPrice_30, w_p_setNextPrice_31, xpp_1 ho, h, g2, i10, Bool.false_eq_true, eq_self, true_or, or_true, if_true, if_false, gv_int, gv_ref, av_some, al_some, un_int, un_ref, un_mk, ok4_0, ok4_1, ok4_2, ok4_3, ok4_4, Kn_some, Kn_none, true_and, and_true]
theorem e_p_addLook {A B o K C N P i j : Nat} {M : Mm} {Q : Po} (ho : isPP o) (h : CP M o K C N) (hP : M o 3 = nI P) (h12 : P < 12) (hi : i < C) (hj : j < C) (hij : ¬ i = j) (hb : bt (M (o + 4) i) (nI j) = false) : WP 32 0 [.ref o, .int (nI i), .int (nI j)] [] (shw A B) (0, 0) M Q = Q none (shw A B) (up (up (up (up M (o + 4) i (M (o + 4) i ||| 1 <<< (nI j &&& 31))) (o + 7) P (nI i)) (o + 8) P (nI j)) o 3 (nI (P + 1))) := by
  have h5 := h.2.2.1
  have n1 : inb (nI i) C = true := inb_nI hi (by omega)
  have n2 : inb (nI j) C = true := inb_nI hj (by omega)
  have n3 : (nI i = nI j) = False := eq_false (fun e => hij (nI_iq (by omega) (by omega) e))
  have g1 : nI P < 12 := nI_lt (b := 12) h12 (by decide)
  have g2 : vp_in (nI P) 12 := vp_in_nI h12 (by decide)
  have g3 : vp_in (nI i) 4 := vp_in_nI (by omega) (by decide)
  simp only [w_p_addLook_0, w_p_addLook_1, w_p_addLook_2, w_p_addLook_3, w_p_addLook_6, w_p_addLook_9, w_p_addLook_10, w_p_addLook_11, w_p_addLook_12, w_p_addLook_15, w_p_addLook_18, w_p_addLook_19, w_p_addLook_22, w_p_addLook_24, w_p_addLook_27, w_p_addLook_28, w_p_addLook_31, w_p_addLook_32, w_p_addLook_33, w_p_addLook_34, w_p_addLook_35, w_p_addLook_36, w_p_addLook_37, w_p_addLook_38, w_p_addLook_39, w_p_addLook_40, w_p_addLook_43, w_p_addLook_44, w_p_addLook_47, w_p_addLook_48, w_p_addLook_49, w_p_addLook_50, w_p_addLook_53, w_p_addLook_54, w_p_addLook_57, w_p_addLook_58, w_p_addLook_59, w_p_addLook_60, w_p_addLook_61, w_p_addLook_64, w_p_addLook_65, w_p_addLook_66, w_p_addLook_69, e_p_hasPair ho h, e_p_looksAt ho h, n1, n2, n3, not_false_eq_true, nI_clamp (show i < 2 ^ 31 by omega), hb, zpp ho, xpp_3 ho, hP, g1, g2, g3, xpp_7 ho, ypp_4 ho, xpp_10 ho, xpp_11 ho, ypp_7 ho, ypp_8 ho, uo_0_4, uo_0_7, uo_0_8, nI_clamp (show P < 2 ^ 31 by omega), nI_1, i10, Bool.false_eq_true, eq_self, true_or, or_true, if_true, if_false, gv_int, gv_ref, av_some, al_some, un_int, un_ref, un_mk, ok4_0, ok4_1, ok4_2, ok4_3, ok4_4, Kn_some, Kn_none, true_and, and_true]
/-- what a child thinks of all kinds, ready -/
def acF (b : Int32) (pr f : Nat → Int32) (C k : Nat) : Nat → Int32 := fun x => if C * 5 ≤ x ∧ x < C * 5 + k then (if bt b (nI (x - C * 5)) then 0 else pr x) else f x
theorem acF_s (b : Int32) (pr f : Nat → Int32) (C k : Nat) : upd (acF b pr f C k) (C * 5 + k) (if bt b (nI k) then 0 else pr (C * 5 + k)) = acF b pr f C (k + 1) := by
  funext x
  simp only [upd_at, acF]
  by_cases q : x = C * 5 + k
  · subst q
    rw [if_pos rfl, if_pos (show C * 5 ≤ C * 5 + k ∧ C * 5 + k < C * 5 + (k + 1) by omega), show C * 5 + k - C * 5 = k by omega]
  · rw [if_neg q]
    by_cases r : C * 5 ≤ x ∧ x < C * 5 + k
    · rw [if_pos r, if_pos (show C * 5 ≤ x ∧ x < C * 5 + (k + 1) by omega)]
    · rw [if_neg r, if_neg (show ¬ (C * 5 ≤ x ∧ x < C * 5 + (k + 1)) by omega)]
theorem acF_0 (b : Int32) (pr f : Nat → Int32) (C : Nat) : acF b pr f C 0 = f := by
  funext x; unfold acF; rw [if_neg (by omega)]
theorem e_p_addChild {A B o K C N : Nat} {M : Mm} {Q : Po} {b : Int32} (ho : isPP o) (h : CP M o K C N) (hC : C < 4) : WP 31 0 [.ref o, .int b, mk] [] (shw A B) (0, 0) M Q = Q none (shw A B) (up (st (up (up M (o + 3) C b) (o + 4) C 0) (o + 6) (acF b (M (o + 5)) (M (o + 6)) C K)) o 1 (nI (C + 1))) := by
  obtain ⟨⟨h1, h2, h3⟩, h4, h5, h6⟩ := h
  refine WP.is (fun Q hQ => ?_)
  have g1 : nI C < 4 := nI_lt (b := 4) hC (by decide)
  have g2 : vp_in (nI C) 4 := vp_in_nI hC (by decide)
  have s0 : ∀ f, st (up (up M (o + 3) C b) (o + 4) C 0) (o + 6) f o = M o := fun f => (if_neg (by omega)).trans (uo_0_4.trans uo_0_3)
  have s3 : ∀ f, st (up (up M (o + 3) C b) (o + 4) C 0) (o + 6) f (o + 3) C = b := fun f => by
    rw [st_at, if_neg (by omega), uo_3_4, uo_3_3, upd_at, if_pos rfl]
  have s5 : ∀ f, st (up (up M (o + 3) C b) (o + 4) C 0) (o + 6) f (o + 5) = M (o + 5) := fun f => (if_neg (by omega)).trans (uo_5_4.trans uo_5_3)
  simp only [w_p_addChild_0, w_p_addChild_1, w_p_addChild_4, w_p_addChild_5, w_p_addChild_8, w_p_addChild_9, w_p_addChild_12, w_p_addChild_13, w_p_addChild_16, w_p_addChild_17, w_p_addChild_18, w_p_addChild_19, w_p_addChild_22, w_p_addChild_23, w_p_addChild_26, w_p_addChild_27, w_p_addChild_28, w_p_addChild_29, w_p_addChild_31, w_p_addChild_32, w_p_addChild_35, w_p_addChild_38, w_p_addChild_39, w_p_addChild_42, w_p_addChild_43, w_p_addChild_46, w_p_addChild_47, w_p_addChild_48, w_p_addChild_49, w_p_addChild_50, w_p_addChild_51, w_p_addChild_52, w_p_addChild_55, w_p_addChild_56, w_p_addChild_59, w_p_addChild_62, w_p_addChild_63, w_p_addChild_66, w_p_addChild_67, w_p_addChild_68, w_p_addChild_71, w_p_addChild_72, w_p_addChild_75, w_p_addChild_76, w_p_addChild_79, w_p_addChild_82, w_p_addChild_83, w_p_addChild_84, w_p_addChild_87, w_p_addChild_88, w_p_addChild_89, w_p_addChild_92, xpp_1 ho, h2, g1, g2, xpp_6 ho, xpp_7 ho, ypp_3 ho, ypp_4 ho, uo_0_3, nI_clamp (show C < 2 ^ 31 by omega), i10, Bool.false_eq_true, eq_self, true_or, or_true, if_true, if_false, gv_int, gv_ref, av_some, al_some, un_int, un_ref, un_mk, ok4_0, ok4_1, ok4_2, ok4_3, ok4_4, Kn_some, Kn_none, true_and, and_true]
  have := for_up (n := K) (P := fun k => WP 31 30 [.ref o, .int b, .int (nI k)] [] (shw A B) (0, 0) (st (up (up M (o + 3) C b) (o + 4) C 0) (o + 6) (acF b (M (o + 5)) (M (o + 6)) C k)) Q) ?_ ?_
  · rw [acF_0, show M (o + 6) = up (up M (o + 3) C b) (o + 4) C 0 (o + 6) from (uo_6_4.trans uo_6_3).symm, st_self] at this
    exact this
  · rw [w_p_addChild_30]
    simp only [w_p_addChild_0, w_p_addChild_1, w_p_addChild_4, w_p_addChild_5, w_p_addChild_8, w_p_addChild_9, w_p_addChild_12, w_p_addChild_13, w_p_addChild_16, w_p_addChild_17, w_p_addChild_18, w_p_addChild_19, w_p_addChild_22, w_p_addChild_23, w_p_addChild_26, w_p_addChild_27, w_p_addChild_28, w_p_addChild_29, w_p_addChild_31, w_p_addChild_32, w_p_addChild_35, w_p_addChild_38, w_p_addChild_39, w_p_addChild_42, w_p_addChild_43, w_p_addChild_46, w_p_addChild_47, w_p_addChild_48, w_p_addChild_49, w_p_addChild_50, w_p_addChild_51, w_p_addChild_52, w_p_addChild_55, w_p_addChild_56, w_p_addChild_59, w_p_addChild_62, w_p_addChild_63, w_p_addChild_66, w_p_addChild_67, w_p_addChild_68, w_p_addChild_71, w_p_addChild_72, w_p_addChild_75, w_p_addChild_76, w_p_addChild_79, w_p_addChild_82, w_p_addChild_83, w_p_addChild_84, w_p_addChild_87, w_p_addChild_88, w_p_addChild_89, w_p_addChild_92, xpp_0 ho, xpp_1 ho, s0, h1, h2, lt_irr, nI_1, i10, Bool.false_eq_true, eq_self, true_or, or_true, if_true, if_false, gv_int, gv_ref, av_some, al_some, un_int, un_ref, un_mk, ok4_0, ok4_1, ok4_2, ok4_3, ok4_4, Kn_some, Kn_none, true_and, and_true]
    exact hQ
  · intro k hk ih
    have g3 : nI k < nI K := nI_lt hk (by omega)
    have g4 : vp_in (nI (C * 5 + k)) 20 := vp_in_nI (by omega) (by decide)
    have e5 : nI C * 5 + nI k = nI (C * 5 + k) := by rw [show (5 : Int32) = nI 5 from rfl, pk_mul, nI_add]
    rw [← acF_s] at ih
    rw [w_p_addChild_30]
    cases r : bt b (nI k)
    · rw [r, if_neg (by decide)] at ih
      simp only [w_p_addChild_0, w_p_addChild_1, w_p_addChild_4, w_p_addChild_5, w_p_addChild_8, w_p_addChild_9, w_p_addChild_12, w_p_addChild_13, w_p_addChild_16, w_p_addChild_17, w_p_addChild_18, w_p_addChild_19, w_p_addChild_22, w_p_addChild_23, w_p_addChild_26, w_p_addChild_27, w_p_addChild_28, w_p_addChild_29, w_p_addChild_31, w_p_addChild_32, w_p_addChild_35, w_p_addChild_38, w_p_addChild_39, w_p_addChild_42, w_p_addChild_43, w_p_addChild_46, w_p_addChild_47, w_p_addChild_48, w_p_addChild_49, w_p_addChild_50, w_p_addChild_51, w_p_addChild_52, w_p_addChild_55, w_p_addChild_56, w_p_addChild_59, w_p_addChild_62, w_p_addChild_63, w_p_addChild_66, w_p_addChild_67, w_p_addChild_68, w_p_addChild_71, w_p_addChild_72, w_p_addChild_75, w_p_addChild_76, w_p_addChild_79, w_p_addChild_82, w_p_addChild_83, w_p_addChild_84, w_p_addChild_87, w_p_addChild_88, w_p_addChild_89, w_p_addChild_92, xpp_0 ho, xpp_1 ho, s0, h1, h2, g3, xpp_9 ho, ypp_6 ho, e5, e_p_isBanned ho hC, s3, r, zpp ho, e_p_priceOf ho hC (show k < 5 by omega), s5, g4, nI_clamp (show C * 5 + k < 2 ^ 31 by omega), up_st, nI_1, i10, Bool.false_eq_true, eq_self, true_or, or_true, if_true, if_false, gv_int, gv_ref, av_some, al_some, un_int, un_ref, un_mk, ok4_0, ok4_1, ok4_2, ok4_3, ok4_4, Kn_some, Kn_none, true_and, and_true]
      exact ih
    · rw [r, if_pos rfl] at ih
      simp only [w_p_addChild_0, w_p_addChild_1, w_p_addChild_4, w_p_addChild_5, w_p_addChild_8, w_p_addChild_9, w_p_addChild_12, w_p_addChild_13, w_p_addChild_16, w_p_addChild_17, w_p_addChild_18, w_p_addChild_19, w_p_addChild_22, w_p_addChild_23, w_p_addChild_26, w_p_addChild_27, w_p_addChild_28, w_p_addChild_29, w_p_addChild_31, w_p_addChild_32, w_p_addChild_35, w_p_addChild_38, w_p_addChild_39, w_p_addChild_42, w_p_addChild_43, w_p_addChild_46, w_p_addChild_47, w_p_addChild_48, w_p_addChild_49, w_p_addChild_50, w_p_addChild_51, w_p_addChild_52, w_p_addChild_55, w_p_addChild_56, w_p_addChild_59, w_p_addChild_62, w_p_addChild_63, w_p_addChild_66, w_p_addChild_67, w_p_addChild_68, w_p_addChild_71, w_p_addChild_72, w_p_addChild_75, w_p_addChild_76, w_p_addChild_79, w_p_addChild_82, w_p_addChild_83, w_p_addChild_84, w_p_addChild_87, w_p_addChild_88, w_p_addChild_89, w_p_addChild_92, xpp_0 ho, xpp_1 ho, s0, h1, h2, g3, xpp_9 ho, ypp_6 ho, e5, e_p_isBanned ho hC, s3, r, zpp ho, g4, nI_clamp (show C * 5 + k < 2 ^ 31 by omega), up_st, nI_1, i10, Bool.false_eq_true, eq_self, true_or, or_true, if_true, if_false, gv_int, gv_ref, av_some, al_some, un_int, un_ref, un_mk, ok4_0, ok4_1, ok4_2, ok4_3, ok4_4, Kn_some, Kn_none, true_and, and_true]
      exact ih
/-! pairs grow -/
theorem lp_id {α : Type} {f : Nat → α → α} {n : Nat} (h : ∀ k a, f k a = a) (a : α) : lp f n a = a := by
  induction n with
  | zero => rfl
  | succ n ih => rw [lp_s, ih, h]
theorem PL_0 (l1 l2 : Nat → Nat) (lk : Nat → Int32) : PL l1 l2 0 lk 0 := by
  intro α op e z f hr he
  rw [lp_0, lp_id]
  intro k a
  have : lkB lk 0 k = false := by unfold lkB; rw [decide_eq_false (by omega), Bool.false_and]
  rw [this, if_neg (by decide), he]
theorem PL_eq {l1 l2 : Nat → Nat} {P C C' : Nat} {lk lk' : Nat → Int32} (h : PL l1 l2 P lk C) (hl : ∀ k, k < 16 → lkB lk' C' k = lkB lk C k) : PL l1 l2 P lk' C' := by
  intro α op e z f hr he
  rw [h α op e z f hr he]
  exact lp_congr (fun k hk a => by rw [hl k hk]) z
theorem lkB_child {lk lk' : Nat → Int32} {C k : Nat} (hC : C < 4) (hk : k < 16) (h0 : lk' C = 0) (hs : ∀ i, i < C → lk' i = lk i) (hb : ∀ i j, i < C → j < 4 → bt (lk i) (nI j) = true → j < C) : lkB lk' (C + 1) k = lkB lk C k := by
  have b0 : bt 0 (nI (k % 4)) = false := by rw [bt_gb 0 (by omega), gb_0]
  unfold lkB
  by_cases q : k / 4 < C
  · rw [hs _ q, decide_eq_true q, decide_eq_true (show k / 4 < C + 1 by omega)]
    by_cases r : k % 4 < C
    · rw [decide_eq_true r, decide_eq_true (show k % 4 < C + 1 by omega)]
    · cases e : bt (lk (k / 4)) (nI (k % 4))
      · simp only [Bool.and_false]
      · exact absurd (hb _ _ q (by omega) e) r
  · rw [decide_eq_false q, Bool.false_and]
    by_cases r : k / 4 = C
    · rw [r, h0, b0, Bool.and_false, Bool.and_false]
    · rw [decide_eq_false (show ¬ k / 4 < C + 1 by omega), Bool.false_and]
theorem bt_set {x : Int32} {d j : Nat} (hd : d < 32) (hj : j < 32) : bt (x ||| 1 <<< (nI d &&& 31)) (nI j) = (bt x (nI j) || decide (j = d)) := by
  rw [bt_gb _ hj, bt_gb _ hj, gb_or, gb_b1 d hd j hj]
theorem PL_look {l1 l2 : Nat → Nat} {P C c d : Nat} {lk : Nat → Int32} (h : PL l1 l2 P lk C) (hC : C ≤ 4) (hc : c < C) (hd : d < C) (hn : bt (lk c) (nI d) = false) : PL (fun q => if q = P then c else l1 q) (fun q => if q = P then d else l2 q) (P + 1) (upd lk c (lk c ||| 1 <<< (nI d &&& 31))) C := by
  intro α op e z f hr he
  rw [lp_s]
  dsimp only
  rw [if_pos rfl, if_pos rfl]
  rw [show lp (fun q s => op s (f (if q = P then c else l1 q) (if q = P then d else l2 q))) P z = lp (fun q s => op s (f (l1 q) (l2 q))) P z from lp_congr (fun k hk a => by rw [if_neg (show ¬ k = P by omega), if_neg (show ¬ k = P by omega)]) z]
  rw [h α op e z f hr he]
  have ins := lp_ins op e hr he (fun k => if lkB lk C k then f (k / 4) (k % 4) else e) (fun k => if lkB (upd lk c (lk c ||| 1 <<< (nI d &&& 31))) C k then f (k / 4) (k % 4) else e) (4 * c + d) (f c d) ?_ ?_ ?_ z 16
  · rw [if_pos (by omega)] at ins
    exact ins.symm
  · have : lkB lk C (4 * c + d) = false := by
      unfold lkB
      rw [show (4 * c + d) / 4 = c by omega, show (4 * c + d) % 4 = d by omega, hn, Bool.and_false, Bool.and_false]
    rw [this, if_neg (by decide)]
  · have : lkB (upd lk c (lk c ||| 1 <<< (nI d &&& 31))) C (4 * c + d) = true := by
      unfold lkB
      rw [show (4 * c + d) / 4 = c by omega, show (4 * c + d) % 4 = d by omega, decide_eq_true hc, decide_eq_true hd, upd_at, if_pos rfl, bt_set (by omega) (by omega), decide_eq_true rfl, Bool.or_true]; rfl
    rw [this, if_pos rfl, show (4 * c + d) / 4 = c by omega, show (4 * c + d) % 4 = d by omega]
  · intro k hk
    have : lkB (upd lk c (lk c ||| 1 <<< (nI d &&& 31))) C k = lkB lk C k := by
      unfold lkB
      rw [upd_at]
      by_cases q : k / 4 = c
      · rw [if_pos q, bt_set (by omega) (by omega), decide_eq_false (show ¬ k % 4 = d by omega), Bool.or_false, q]
      · rw [if_neg q]
    rw [this]
theorem lp_cnt (P : Nat) : lp (fun (_ : Nat) (s : Nat) => s + 1) P 0 = P := by
  induction P with
  | zero => rfl
  | succ P ih => rw [lp_s, ih]
theorem lp_le {g g' : Nat → Nat} {n : Nat} (h : ∀ k, k < n → g k ≤ g' k) : lp (fun k s => s + g k) n 0 ≤ lp (fun k s => s + g' k) n 0 := by
  induction n with
  | zero => exact Nat.le_refl _
  | succ n ih =>
    rw [lp_s, lp_s]
    have := ih (fun k hk => h k (by omega))
    have := h n (by omega)
    omega
theorem few_pairs : ∀ c, c < 4 → ∀ d, d < 4 → ¬ c = d → lp (fun k s => s + (if k / 4 = k % 4 ∨ k = 4 * c + d then 0 else 1)) 16 0 ≤ 11 := by decide +kernel
/-- there is room for one more -/
theorem PL_room {l1 l2 : Nat → Nat} {P C c d : Nat} {lk : Nat → Int32} (h : PL l1 l2 P lk C) (hC : C ≤ 4) (hc : c < C) (hd : d < C) (hcd : ¬ c = d) (hn : bt (lk c) (nI d) = false) (hdiag : ∀ i j, i < C → j < 4 → bt (lk i) (nI j) = true → j < C ∧ ¬ j = i) : P < 12 := by
  have e := h Nat (fun a b => a + b) 0 0 (fun _ _ => 1) (fun s a b => by omega) (fun s => rfl)
  rw [lp_cnt] at e
  have le : lp (fun k s => s + (if lkB lk C k then 1 else 0)) 16 0 ≤ lp (fun k s => s + (if k / 4 = k % 4 ∨ k = 4 * c + d then 0 else 1)) 16 0 := by
    refine lp_le (g := fun k => if lkB lk C k then 1 else 0) (g' := fun k => if k / 4 = k % 4 ∨ k = 4 * c + d then 0 else 1) (fun k hk => ?_)
    by_cases q : k / 4 = k % 4 ∨ k = 4 * c + d
    · rw [if_pos q, if_neg]
      · exact Nat.le_refl _
      · intro z
        have z := lkB_iff.mp z
        rcases q with q | q
        · exact (hdiag _ _ z.1.1 (by omega) z.2).2 q.symm
        · rw [q, show (4 * c + d) / 4 = c by omega, show (4 * c + d) % 4 = d by omega, hn] at z
          cases z.2
    · rw [if_neg q]; split <;> omega
  have := few_pairs c (by omega) d (by omega) hcd
  omega
