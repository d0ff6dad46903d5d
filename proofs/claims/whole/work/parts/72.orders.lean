/-! the component: orders, choosing in turn -/
theorem neg_m1 {h : Nat → Int32} {C t : Nat} (hv : HV h C) (ht : t < 7) (hC : C ≤ 4) : h t < 0 ↔ h t = -1 := by
  rcases hv t ht with e | ⟨j, j1, e⟩
  · rw [e]; exact ⟨fun _ => rfl, fun _ => by decide⟩
  · rw [e]; exact ⟨fun q => absurd q (nI_pos (by omega)), fun q => absurd q (nI_ne_m1 (by omega))⟩
theorem pickE_s (W : Nat → Nat → Int32) (h : Nat → Int32) (n i : Nat) : pickE W h (n + 1) i = if h n < 0 then (if pickE W h n i < 0 then nI n else if W i (pickE W h n i).toNatClampNeg < W i n then nI n else pickE W h n i) else pickE W h n i := rfl
theorem e_t_favourite {A B p K C N i : Nat} {M : Mm} {Q : Po} {kd : Nat → Nat} {W : Nat → Nat → Int32} {lk : Nat → Int32} (hp : isPP p) (hq : CQ M p K C N kd W lk) (hv : HV (M 17) C) (hi : i < C) : WP 87 0 [.ref 15, .ref p, .int (nI i), mk, mk, mk, mk] [] (shw A B) (0, 0) M Q = Q (some (.int (pickE W (M 17) N i))) (shw A B) M := by
  obtain ⟨⟨h1, h2, h3⟩, h4, h5, h6⟩ := hq.1
  refine WP.is (fun Q hQ => ?_)
  simp only [w_t_favourite_0, w_t_favourite_1, w_t_favourite_2, w_t_favourite_3, w_t_favourite_5, w_t_favourite_6, w_t_favourite_10, w_t_favourite_11, w_t_favourite_14, w_t_favourite_17, w_t_favourite_18, w_t_favourite_21, w_t_favourite_23, w_t_favourite_26, w_t_favourite_27, w_t_favourite_30, w_t_favourite_31, w_t_favourite_32, w_t_favourite_34, w_t_favourite_37, w_t_favourite_39, w_t_favourite_40, w_t_favourite_41, w_t_favourite_44, w_t_favourite_46, w_t_favourite_48, w_t_favourite_51, w_t_favourite_53, w_t_favourite_54, w_t_favourite_56, w_t_favourite_58, w_t_favourite_61, w_t_favourite_64, w_t_favourite_65, xt_0, i10, Bool.false_eq_true, eq_self, true_or, or_true, if_true, if_false, gv_int, gv_ref, av_some, al_some, un_int, un_ref, un_mk, ok4_0, ok4_1, ok4_2, ok4_3, ok4_4, Kn_some, Kn_none, true_and, and_true]
  refine for_up (n := N) (P := fun t => ∀ (m : Int32) (j6 : Value), (∀ j, pickE W (M 17) t i = nI j → j < t → m = W i j) → WP 87 8 [.ref 15, .ref p, .int (nI i), .int (pickE W (M 17) t i), .int m, .int (nI t), j6] [] (shw A B) (0, 0) M Q) ?_ ?_ 0 _ (fun j _ hj => absurd hj (Nat.not_lt_zero _))
  · intro m j6 _
    rw [w_t_favourite_8]
    simp only [w_t_favourite_0, w_t_favourite_1, w_t_favourite_2, w_t_favourite_3, w_t_favourite_5, w_t_favourite_6, w_t_favourite_10, w_t_favourite_11, w_t_favourite_14, w_t_favourite_17, w_t_favourite_18, w_t_favourite_21, w_t_favourite_23, w_t_favourite_26, w_t_favourite_27, w_t_favourite_30, w_t_favourite_31, w_t_favourite_32, w_t_favourite_34, w_t_favourite_37, w_t_favourite_39, w_t_favourite_40, w_t_favourite_41, w_t_favourite_44, w_t_favourite_46, w_t_favourite_48, w_t_favourite_51, w_t_favourite_53, w_t_favourite_54, w_t_favourite_56, w_t_favourite_58, w_t_favourite_61, w_t_favourite_64, w_t_favourite_65, xt_0, xpp_2 hp, h3, lt_irr, i10, Bool.false_eq_true, eq_self, true_or, or_true, if_true, if_false, gv_int, gv_ref, av_some, al_some, un_int, un_ref, un_mk, ok4_0, ok4_1, ok4_2, ok4_3, ok4_4, Kn_some, Kn_none, true_and, and_true]
    exact hQ
  · intro t ht ih m j6 hm
    have g1 : nI t < nI N := nI_lt ht (by omega)
    rw [pickE_s] at ih
    rw [w_t_favourite_8]
    have hn := neg_m1 hv (show t < 7 by omega) h5
    by_cases q : M 17 t = -1
    · rw [if_pos (hn.mpr q)] at ih
      rcases pickE_in W (M 17) t i with e | ⟨j, j1, j2, j3⟩
      · rw [e] at ih ⊢
        rw [if_pos (by decide)] at ih
        simp only [w_t_favourite_0, w_t_favourite_1, w_t_favourite_2, w_t_favourite_3, w_t_favourite_5, w_t_favourite_6, w_t_favourite_10, w_t_favourite_11, w_t_favourite_14, w_t_favourite_17, w_t_favourite_18, w_t_favourite_21, w_t_favourite_23, w_t_favourite_26, w_t_favourite_27, w_t_favourite_30, w_t_favourite_31, w_t_favourite_32, w_t_favourite_34, w_t_favourite_37, w_t_favourite_39, w_t_favourite_40, w_t_favourite_41, w_t_favourite_44, w_t_favourite_46, w_t_favourite_48, w_t_favourite_51, w_t_favourite_53, w_t_favourite_54, w_t_favourite_56, w_t_favourite_58, w_t_favourite_61, w_t_favourite_64, w_t_favourite_65, xt_0, xpp_2 hp, h3, g1, e_h_holderOf isHH_16 (show t < 7 by omega), show (16 + 1 : Nat) = 17 from rfl, q, cl_16, e_p_wT hp hq hi ht, zpp hp, nI_1, i10, Bool.false_eq_true, eq_self, true_or, or_true, if_true, if_false, gv_int, gv_ref, av_some, al_some, un_int, un_ref, un_mk, ok4_0, ok4_1, ok4_2, ok4_3, ok4_4, Kn_some, Kn_none, true_and, and_true]
        exact ih _ _ (fun j e hj => by rw [nI_iq (by omega) (by omega) e])
      · have em := hm j j2 j1
        rw [j2] at ih ⊢
        have n1 : (nI j = -1) = False := eq_false (nI_ne_m1 (by omega))
        rw [if_neg (nI_pos (by omega)), nI_clamp (show j < 2 ^ 31 by omega)] at ih
        rw [em]
        by_cases r : W i j < W i t
        · rw [if_pos r] at ih
          simp only [w_t_favourite_0, w_t_favourite_1, w_t_favourite_2, w_t_favourite_3, w_t_favourite_5, w_t_favourite_6, w_t_favourite_10, w_t_favourite_11, w_t_favourite_14, w_t_favourite_17, w_t_favourite_18, w_t_favourite_21, w_t_favourite_23, w_t_favourite_26, w_t_favourite_27, w_t_favourite_30, w_t_favourite_31, w_t_favourite_32, w_t_favourite_34, w_t_favourite_37, w_t_favourite_39, w_t_favourite_40, w_t_favourite_41, w_t_favourite_44, w_t_favourite_46, w_t_favourite_48, w_t_favourite_51, w_t_favourite_53, w_t_favourite_54, w_t_favourite_56, w_t_favourite_58, w_t_favourite_61, w_t_favourite_64, w_t_favourite_65, xt_0, xpp_2 hp, h3, g1, e_h_holderOf isHH_16 (show t < 7 by omega), show (16 + 1 : Nat) = 17 from rfl, q, cl_16, e_p_wT hp hq hi ht, zpp hp, n1, r, nI_1, i10, Bool.false_eq_true, eq_self, true_or, or_true, if_true, if_false, gv_int, gv_ref, av_some, al_some, un_int, un_ref, un_mk, ok4_0, ok4_1, ok4_2, ok4_3, ok4_4, Kn_some, Kn_none, true_and, and_true]
          exact ih _ _ (fun j e hj => by rw [nI_iq (by omega) (by omega) e])
        · rw [if_neg r] at ih
          simp only [w_t_favourite_0, w_t_favourite_1, w_t_favourite_2, w_t_favourite_3, w_t_favourite_5, w_t_favourite_6, w_t_favourite_10, w_t_favourite_11, w_t_favourite_14, w_t_favourite_17, w_t_favourite_18, w_t_favourite_21, w_t_favourite_23, w_t_favourite_26, w_t_favourite_27, w_t_favourite_30, w_t_favourite_31, w_t_favourite_32, w_t_favourite_34, w_t_favourite_37, w_t_favourite_39, w_t_favourite_40, w_t_favourite_41, w_t_favourite_44, w_t_favourite_46, w_t_favourite_48, w_t_favourite_51, w_t_favourite_53, w_t_favourite_54, w_t_favourite_56, w_t_favourite_58, w_t_favourite_61, w_t_favourite_64, w_t_favourite_65, xt_0, xpp_2 hp, h3, g1, e_h_holderOf isHH_16 (show t < 7 by omega), show (16 + 1 : Nat) = 17 from rfl, q, cl_16, e_p_wT hp hq hi ht, zpp hp, n1, r, nI_1, i10, Bool.false_eq_true, eq_self, true_or, or_true, if_true, if_false, gv_int, gv_ref, av_some, al_some, un_int, un_ref, un_mk, ok4_0, ok4_1, ok4_2, ok4_3, ok4_4, Kn_some, Kn_none, true_and, and_true]
          exact ih _ _ (fun j' e hj => by rw [nI_iq (by omega) (by omega) e])
    · rw [if_neg (fun e => q (hn.mp e))] at ih
      simp only [w_t_favourite_0, w_t_favourite_1, w_t_favourite_2, w_t_favourite_3, w_t_favourite_5, w_t_favourite_6, w_t_favourite_10, w_t_favourite_11, w_t_favourite_14, w_t_favourite_17, w_t_favourite_18, w_t_favourite_21, w_t_favourite_23, w_t_favourite_26, w_t_favourite_27, w_t_favourite_30, w_t_favourite_31, w_t_favourite_32, w_t_favourite_34, w_t_favourite_37, w_t_favourite_39, w_t_favourite_40, w_t_favourite_41, w_t_favourite_44, w_t_favourite_46, w_t_favourite_48, w_t_favourite_51, w_t_favourite_53, w_t_favourite_54, w_t_favourite_56, w_t_favourite_58, w_t_favourite_61, w_t_favourite_64, w_t_favourite_65, xt_0, xpp_2 hp, h3, g1, e_h_holderOf isHH_16 (show t < 7 by omega), show (16 + 1 : Nat) = 17 from rfl, eq_false q, cl_16, nI_1, i10, Bool.false_eq_true, eq_self, true_or, or_true, if_true, if_false, gv_int, gv_ref, av_some, al_some, un_int, un_ref, un_mk, ok4_0, ok4_1, ok4_2, ok4_3, ok4_4, Kn_some, Kn_none, true_and, and_true]
      refine ih _ _ (fun j e hj => ?_)
      rcases pickE_in W (M 17) t i with e1 | ⟨j', j1, j2, j3⟩
      · rw [e1] at e; exact absurd e.symm (nI_ne_m1 (by omega))
      · have e2 := e
        rw [j2] at e2
        have e3 := nI_iq (by omega) (by omega) e2
        subst e3
        exact hm j' e j1
theorem mod_step {k c : Nat} (hc : 0 < c) : (k + 1) % c = if k % c + 1 < c then k % c + 1 else 0 := by
  have := Nat.mod_lt k hc
  by_cases q : k % c + 1 < c
  · rw [if_pos q, Nat.add_mod, Nat.mod_eq_of_lt (show 1 < c by omega), Nat.mod_eq_of_lt q]
  · rw [if_neg q]
    have e : k % c + 1 = c := by omega
    rw [← Nat.mod_add_mod, e, Nat.mod_self]
theorem HV_upd {h : Nat → Int32} {c t i : Nat} (hv : HV h c) (hi : i < c) : HV (upd h t (nI i)) c := by
  intro x hx
  unfold upd
  by_cases q : x = t
  · rw [if_pos q]; exact Or.inr ⟨i, hi, rfl⟩
  · rw [if_neg q]; exact hv x hx
theorem chE_done {W : Nat → Nat → Int32} {n c : Nat} {r : Nat → Nat} {g : Nat → Int32} (f k : Nat) (hr : r (k % c) < 2 ^ 31) (hn : n ≤ 7) (h : frE g n = 0) : chE W n c r f k g = g := by
  cases f with
  | zero => rfl
  | succ f =>
    unfold chE
    rcases pickE_in W g n (r (k % c)) with e | ⟨t, t1, t2, t3⟩
    · rw [if_pos (by rw [e]; decide)]
    · have := frE_upd (v := nI (r (k % c))) t3 (nI_pos hr) n t1
      omega
theorem e_t_choose {A B p o K C N : Nat} {M : Mm} {Q : Po} {kd : Nat → Nat} {W : Nat → Nat → Int32} {lk : Nat → Int32} {r : Nat → Nat} (hp : isPP p) (ho : isHH o) (hq : CQ M p K C N kd W lk) (hv : HV (M (o + 1)) C) (ht : ∀ j, ¬ j < 7 → M 17 j = M (o + 1) j) (hC : 0 < C) (hr : ∀ j, j < C → r j < C ∧ M 20 j = nI (r j)) : WP 86 0 [.ref 15, .ref p, .ref o, mk, mk, mk] [] (shw A B) (0, 0) M Q = Q none (shw A B) (st M 17 (chE W N C r 8 0 (M (o + 1)))) := by
  obtain ⟨⟨h1, h2, h3⟩, h4, h5, h6⟩ := hq.1
  refine WP.is (fun Q hQ => ?_)
  have key : ∀ f k (g : Nat → Int32), k + f = N → frE g N ≤ f → HV g C → Q none (shw A B) (st M 17 (chE W N C r (8 - k) k g)) → ∀ j5, WP 86 13 [.ref 15, .ref p, .ref o, .int (nI (k % C)), .int (nI k), j5] [] (shw A B) (0, 0) (st M 17 g) Q := by
    intro f
    induction f with
    | zero =>
      intro k g hk hf hg hQ j5
      have hk : k = N := hk
      subst hk
      have m1 := Nat.mod_lt k hC
      rw [chE_done (8 - k) k (by have := (hr _ m1).1; omega) h6 (by omega)] at hQ
      have ep : st M 17 g p = M p := if_neg (by have := (T_ne (k := 0) hp).2.1; omega)
      rw [w_t_choose_13]
      simp only [w_t_choose_0, w_t_choose_1, w_t_choose_4, w_t_choose_5, w_t_choose_8, w_t_choose_9, w_t_choose_10, w_t_choose_11, w_t_choose_15, w_t_choose_16, w_t_choose_19, w_t_choose_22, w_t_choose_23, w_t_choose_24, w_t_choose_25, w_t_choose_28, w_t_choose_29, w_t_choose_30, w_t_choose_33, w_t_choose_35, w_t_choose_37, w_t_choose_38, w_t_choose_41, w_t_choose_42, w_t_choose_43, w_t_choose_46, w_t_choose_48, w_t_choose_49, w_t_choose_52, w_t_choose_53, w_t_choose_54, w_t_choose_57, w_t_choose_58, w_t_choose_59, w_t_choose_60, w_t_choose_61, w_t_choose_64, w_t_choose_67, w_t_choose_68, w_t_choose_69, w_t_choose_70, w_t_choose_73, w_t_choose_74, w_t_choose_75, w_t_choose_78, w_t_choose_81, xt_0, xt_2, al_20, cl_15, xpp_2 hp, ep, h3, lt_irr, i10, Bool.false_eq_true, eq_self, true_or, or_true, if_true, if_false, gv_int, gv_ref, av_some, al_some, un_int, un_ref, un_mk, ok4_0, ok4_1, ok4_2, ok4_3, ok4_4, Kn_some, Kn_none, true_and, and_true]
      exact hQ
    | succ f ih =>
      intro k g hk hf hg hQ j5
      have g1 : nI k < nI N := nI_lt (by omega) (by omega)
      have m1 := Nat.mod_lt k hC
      have r1 := hr _ m1
      have g2 : vp_in (nI (k % C)) 4 := vp_in_nI (by omega) (by decide)
      have ep : st M 17 g p = M p := if_neg (by have := (T_ne (k := 0) hp).2.1; omega)
      have ep' : ∀ x y, up (st M 17 g) 17 x y p = M p := fun x y => (if_neg (by have := (T_ne (k := 0) hp).2.1; omega)).trans ep
      have e20 : st M 17 g 20 = M 20 := rfl
      have e20' : ∀ x y, up (st M 17 g) 17 x y 20 = M 20 := fun _ _ => rfl
      have hq2 : CQ (st M 17 g) p K C N kd W lk := hq.st (T_ne (k := 0) hp).2.1
      have hv2 : HV (st M 17 g 17) C := hg
      have e17 : st M 17 g 17 = g := rfl
      rw [show 8 - k = 8 - (k + 1) + 1 by omega, chE] at hQ
      rw [w_t_choose_13]
      rcases pickE_in W g N (r (k % C)) with e | ⟨t, t1, t2, t3⟩
      · rw [e, if_pos (by decide)] at hQ
        simp only [w_t_choose_0, w_t_choose_1, w_t_choose_4, w_t_choose_5, w_t_choose_8, w_t_choose_9, w_t_choose_10, w_t_choose_11, w_t_choose_15, w_t_choose_16, w_t_choose_19, w_t_choose_22, w_t_choose_23, w_t_choose_24, w_t_choose_25, w_t_choose_28, w_t_choose_29, w_t_choose_30, w_t_choose_33, w_t_choose_35, w_t_choose_37, w_t_choose_38, w_t_choose_41, w_t_choose_42, w_t_choose_43, w_t_choose_46, w_t_choose_48, w_t_choose_49, w_t_choose_52, w_t_choose_53, w_t_choose_54, w_t_choose_57, w_t_choose_58, w_t_choose_59, w_t_choose_60, w_t_choose_61, w_t_choose_64, w_t_choose_67, w_t_choose_68, w_t_choose_69, w_t_choose_70, w_t_choose_73, w_t_choose_74, w_t_choose_75, w_t_choose_78, w_t_choose_81, xt_0, xt_2, al_20, cl_15, xpp_2 hp, ep, h3, g1, e20, g2, nI_clamp (show k % C < 2 ^ 31 by omega), r1.2, e_t_favourite hp hq2 hv2 r1.1, e17, e, cl_15, i10, Bool.false_eq_true, eq_self, true_or, or_true, if_true, if_false, gv_int, gv_ref, av_some, al_some, un_int, un_ref, un_mk, ok4_0, ok4_1, ok4_2, ok4_3, ok4_4, Kn_some, Kn_none, true_and, and_true]
        exact hQ
      · rw [t2, if_neg (nI_pos (by omega)), nI_clamp (show t < 2 ^ 31 by omega)] at hQ
        have n1 : (nI t = -1) = False := eq_false (nI_ne_m1 (by omega))
        have fr := frE_upd (v := nI (r (k % C))) t3 (nI_pos (by have := r1.1; omega)) N t1
        have ih := ih (k + 1) (upd g t (nI (r (k % C)))) (by omega) (by omega) (HV_upd hg r1.1) hQ
        rw [mod_step hC] at ih
        by_cases q : k % C + 1 < C
        · rw [if_pos q] at ih
          have q' : nI (k % C + 1) < nI C := nI_lt q (by omega)
          simp only [w_t_choose_0, w_t_choose_1, w_t_choose_4, w_t_choose_5, w_t_choose_8, w_t_choose_9, w_t_choose_10, w_t_choose_11, w_t_choose_15, w_t_choose_16, w_t_choose_19, w_t_choose_22, w_t_choose_23, w_t_choose_24, w_t_choose_25, w_t_choose_28, w_t_choose_29, w_t_choose_30, w_t_choose_33, w_t_choose_35, w_t_choose_37, w_t_choose_38, w_t_choose_41, w_t_choose_42, w_t_choose_43, w_t_choose_46, w_t_choose_48, w_t_choose_49, w_t_choose_52, w_t_choose_53, w_t_choose_54, w_t_choose_57, w_t_choose_58, w_t_choose_59, w_t_choose_60, w_t_choose_61, w_t_choose_64, w_t_choose_67, w_t_choose_68, w_t_choose_69, w_t_choose_70, w_t_choose_73, w_t_choose_74, w_t_choose_75, w_t_choose_78, w_t_choose_81, xt_0, xt_2, al_20, cl_15, xpp_2 hp, xpp_1 hp, ep, ep', h2, h3, g1, e20, g2, nI_clamp (show k % C < 2 ^ 31 by omega), r1.2, e_t_favourite hp hq2 hv2 r1.1, e17, t2, n1, e_h_put isHH_16 (show t < 7 by omega), show (16 + 1 : Nat) = 17 from rfl, q', nI_1, cl_15, cl_16, i10, Bool.false_eq_true, eq_self, true_or, or_true, if_true, if_false, gv_int, gv_ref, av_some, al_some, un_int, un_ref, un_mk, ok4_0, ok4_1, ok4_2, ok4_3, ok4_4, Kn_some, Kn_none, true_and, and_true]
          rw [up_st]
          exact ih _
        · rw [if_neg q] at ih
          have q' : ¬ nI (k % C + 1) < nI C := nI_nlt (by omega) (by omega)
          simp only [w_t_choose_0, w_t_choose_1, w_t_choose_4, w_t_choose_5, w_t_choose_8, w_t_choose_9, w_t_choose_10, w_t_choose_11, w_t_choose_15, w_t_choose_16, w_t_choose_19, w_t_choose_22, w_t_choose_23, w_t_choose_24, w_t_choose_25, w_t_choose_28, w_t_choose_29, w_t_choose_30, w_t_choose_33, w_t_choose_35, w_t_choose_37, w_t_choose_38, w_t_choose_41, w_t_choose_42, w_t_choose_43, w_t_choose_46, w_t_choose_48, w_t_choose_49, w_t_choose_52, w_t_choose_53, w_t_choose_54, w_t_choose_57, w_t_choose_58, w_t_choose_59, w_t_choose_60, w_t_choose_61, w_t_choose_64, w_t_choose_67, w_t_choose_68, w_t_choose_69, w_t_choose_70, w_t_choose_73, w_t_choose_74, w_t_choose_75, w_t_choose_78, w_t_choose_81, xt_0, xt_2, al_20, cl_15, xpp_2 hp, xpp_1 hp, ep, ep', h2, h3, g1, e20, g2, nI_clamp (show k % C < 2 ^ 31 by omega), r1.2, e_t_favourite hp hq2 hv2 r1.1, e17, t2, n1, e_h_put isHH_16 (show t < 7 by omega), show (16 + 1 : Nat) = 17 from rfl, q', nI_1, cl_15, cl_16, i10, Bool.false_eq_true, eq_self, true_or, or_true, if_true, if_false, gv_int, gv_ref, av_some, al_some, un_int, un_ref, un_mk, ok4_0, ok4_1, ok4_2, ok4_3, ok4_4, Kn_some, Kn_none, true_and, and_true]
          rw [up_st]
          exact ih _
  simp only [w_t_choose_0, w_t_choose_1, w_t_choose_4, w_t_choose_5, w_t_choose_8, w_t_choose_9, w_t_choose_10, w_t_choose_11, w_t_choose_15, w_t_choose_16, w_t_choose_19, w_t_choose_22, w_t_choose_23, w_t_choose_24, w_t_choose_25, w_t_choose_28, w_t_choose_29, w_t_choose_30, w_t_choose_33, w_t_choose_35, w_t_choose_37, w_t_choose_38, w_t_choose_41, w_t_choose_42, w_t_choose_43, w_t_choose_46, w_t_choose_48, w_t_choose_49, w_t_choose_52, w_t_choose_53, w_t_choose_54, w_t_choose_57, w_t_choose_58, w_t_choose_59, w_t_choose_60, w_t_choose_61, w_t_choose_64, w_t_choose_67, w_t_choose_68, w_t_choose_69, w_t_choose_70, w_t_choose_73, w_t_choose_74, w_t_choose_75, w_t_choose_78, w_t_choose_81, xt_0, xt_2, al_20, cl_15, e_h_copy isHH_16 ho, show (16 + 1 : Nat) = 17 from rfl, cpF_eq ht, cl_16, i10, Bool.false_eq_true, eq_self, true_or, or_true, if_true, if_false, gv_int, gv_ref, av_some, al_some, un_int, un_ref, un_mk, ok4_0, ok4_1, ok4_2, ok4_3, ok4_4, Kn_some, Kn_none, true_and, and_true]
  have := key N 0 (M (o + 1)) (Nat.zero_add N) (frE_le _ _) hv hQ
  rw [Nat.zero_mod] at this
  exact this _
/-- the last figure of what is not above 0 is not above 0 -/
theorem fg_np {o : Int32} {c : Nat} (h : ¬ 0 < o) : inb (o - o / 10 * 10 - 1) c = false := by
  have h1 : o.toInt ≤ 0 := by
    have := mt Int32.lt_iff_toInt_lt.mpr h
    have e : (0 : Int32).toInt = 0 := rfl
    omega
  have e10 : (10 : Int32).toInt = 10 := rfl
  have e1 : (1 : Int32).toInt = 1 := rfl
  have b1 := Int32.le_toInt o
  obtain ⟨w, hw⟩ : ∃ w : Nat, o.toInt = -(w : Int) := ⟨o.toInt.natAbs, by omega⟩
  have hd : (o / 10).toInt = -((w / 10 : Nat) : Int) := by
    rw [Int32.toInt_div_of_ne_right _ _ (by decide), e10, hw, Int.neg_tdiv, Int.tdiv_eq_ediv_of_nonneg (by omega)]
    omega
  have hx : (o - o / 10 * 10 - 1).toInt < 0 := by
    rw [Int32.toInt_sub, Int32.toInt_sub, Int32.toInt_mul, hd, e10, e1, hw, Int.bmod_eq_of_le (n := -((w / 10 : Nat) : Int) * 10) (by omega) (by omega), Int.bmod_eq_of_le (n := -(w : Int) - -((w / 10 : Nat) : Int) * 10) (by omega) (by omega), Int.bmod_eq_of_le (by omega) (by omega)]
    omega
  unfold inb
  exact decide_eq_false (by omega)
theorem tG_f {c : Nat} {o : Int32} {k : Nat} (h : (tG c o k).1 = false) : ∀ j, (tG c o (k + j)).1 = false
  | 0 => h
  | j + 1 => by
    show ((tG c o (k + j)).1 && _) = false
    rw [tG_f h j, Bool.false_and]
theorem tOK_f {c : Nat} {o : Int32} {k : Nat} (hk : k ≤ c) (h : (tG c o k).1 = false) : tOK c o = false := by
  unfold tOK
  have := tG_f h (c - k)
  rw [show k + (c - k) = c by omega] at this
  rw [this, Bool.false_and]
theorem c_isOrder {A B p K C N : Nat} {M : Mm} {Q : Po} {kd : Nat → Nat} {W : Nat → Nat → Int32} {lk : Nat → Int32} {o : Int32} (hp : isPP p) (hq : CQ M p K C N kd W lk) (hQ1 : tOK C o = true → Q (some (.int 1)) (shw A B) (st M 20 (rowF C o (M 20) C))) (hQ0 : tOK C o = false → ∀ f, Q (some (.int 0)) (shw A B) (st M 20 f)) : WP 85 0 [.ref 15, .ref p, .int o, mk, mk, mk, mk] [] (shw A B) (0, 0) M Q := by
  obtain ⟨⟨h1, h2, h3⟩, h4, h5, h6⟩ := id hq.1
  have g3 : ¬ (10 : Int32) = 0 := by decide
  have ep : ∀ f, st M 20 f p = M p := fun f => if_neg (by have := (T_ne (k := 0) hp).2.2.2; omega)
  have hc : ∀ f, CP (st M 20 f) p K C N := fun f => (hq.st (T_ne (k := 0) hp).2.2.2).1
  have key : ∀ f s, s + f = C → (tG C o s).1 = true → ∀ x : Int32, (f = 0 → x = -1) → (∀ f', f = f' + 1 → x = nI f') → ∀ j6, WP 85 13 [.ref 15, .ref p, .int o, .int (lf o s), .int (tG C o s).2, .int x, j6] [] (shw A B) (0, 0) (st M 20 (rowF C o (M 20) s)) Q := by
    intro f
    induction f with
    | zero =>
      intro s hs hg x x0 _ j6
      have hs : s = C := hs
      subst hs
      rw [x0 rfl, w_t_isOrder_13]
      have hpos : 0 < s := by
        by_cases q : 0 < s
        · exact q
        · have e : s = 0 := by omega
          subst e
          have : (tG 0 o 0).1 = (decide (0 < 0) && decide (0 < o)) := rfl
          rw [this] at hg
          exact absurd hg (by simp)
      have p1 : (0 < nI s) = True := eq_true (nI_lt (a := 0) hpos (by omega))
      unfold tOK at hQ1 hQ0
      rw [hg, Bool.true_and] at hQ1 hQ0
      by_cases q2 : lf o s = 0
      · simp only [w_t_isOrder_0, w_t_isOrder_1, w_t_isOrder_2, w_t_isOrder_3, w_t_isOrder_5, w_t_isOrder_6, w_t_isOrder_9, w_t_isOrder_10, w_t_isOrder_11, w_t_isOrder_15, w_t_isOrder_18, w_t_isOrder_19, w_t_isOrder_21, w_t_isOrder_22, w_t_isOrder_23, w_t_isOrder_24, w_t_isOrder_26, w_t_isOrder_27, w_t_isOrder_29, w_t_isOrder_32, w_t_isOrder_35, w_t_isOrder_37, w_t_isOrder_39, w_t_isOrder_40, w_t_isOrder_41, w_t_isOrder_42, w_t_isOrder_45, w_t_isOrder_46, w_t_isOrder_47, w_t_isOrder_49, w_t_isOrder_50, w_t_isOrder_52, w_t_isOrder_53, w_t_isOrder_54, w_t_isOrder_56, w_t_isOrder_57, w_t_isOrder_60, w_t_isOrder_62, w_t_isOrder_64, w_t_isOrder_65, w_t_isOrder_66, w_t_isOrder_68, w_t_isOrder_69, w_t_isOrder_70, w_t_isOrder_73, w_t_isOrder_76, w_t_isOrder_77, w_t_isOrder_80, w_t_isOrder_81, w_t_isOrder_84, w_t_isOrder_87, w_t_isOrder_88, w_t_isOrder_91, w_t_isOrder_92, xt_2, al_20, (show ((-1 : Int32) < 0) = True by decide), xpp_1 hp, ep, h2, p1, eq_true q2, i10, Bool.false_eq_true, eq_self, true_or, or_true, if_true, if_false, gv_int, gv_ref, av_some, al_some, un_int, un_ref, un_mk, ok4_0, ok4_1, ok4_2, ok4_3, ok4_4, Kn_some, Kn_none, true_and, and_true]
        exact hQ1 (decide_eq_true q2)
      · simp only [w_t_isOrder_0, w_t_isOrder_1, w_t_isOrder_2, w_t_isOrder_3, w_t_isOrder_5, w_t_isOrder_6, w_t_isOrder_9, w_t_isOrder_10, w_t_isOrder_11, w_t_isOrder_15, w_t_isOrder_18, w_t_isOrder_19, w_t_isOrder_21, w_t_isOrder_22, w_t_isOrder_23, w_t_isOrder_24, w_t_isOrder_26, w_t_isOrder_27, w_t_isOrder_29, w_t_isOrder_32, w_t_isOrder_35, w_t_isOrder_37, w_t_isOrder_39, w_t_isOrder_40, w_t_isOrder_41, w_t_isOrder_42, w_t_isOrder_45, w_t_isOrder_46, w_t_isOrder_47, w_t_isOrder_49, w_t_isOrder_50, w_t_isOrder_52, w_t_isOrder_53, w_t_isOrder_54, w_t_isOrder_56, w_t_isOrder_57, w_t_isOrder_60, w_t_isOrder_62, w_t_isOrder_64, w_t_isOrder_65, w_t_isOrder_66, w_t_isOrder_68, w_t_isOrder_69, w_t_isOrder_70, w_t_isOrder_73, w_t_isOrder_76, w_t_isOrder_77, w_t_isOrder_80, w_t_isOrder_81, w_t_isOrder_84, w_t_isOrder_87, w_t_isOrder_88, w_t_isOrder_91, w_t_isOrder_92, xt_2, al_20, (show ((-1 : Int32) < 0) = True by decide), xpp_1 hp, ep, h2, p1, eq_false q2, i10, Bool.false_eq_true, eq_self, true_or, or_true, if_true, if_false, gv_int, gv_ref, av_some, al_some, un_int, un_ref, un_mk, ok4_0, ok4_1, ok4_2, ok4_3, ok4_4, Kn_some, Kn_none, true_and, and_true]
        exact hQ0 (decide_eq_false q2) _
    | succ f ih =>
      intro s hs hg x _ x1 j6
      have g1 : (nI f < 0) = False := eq_false (nI_pos (by omega))
      have g2 : vp_in (nI f) 4 := vp_in_nI (by omega) (by decide)
      have hf : f = C - 1 - s := by omega
      have er : up (st M 20 (rowF C o (M 20) s)) 20 f (fg o s) = st M 20 (rowF C o (M 20) (s + 1)) := by
        rw [up_st, hf, rowF_s (by omega)]
      have ih := ih (s + 1) (by omega)
      have e1 : (tG C o (s + 1)).1 = ((tG C o s).1 && (inb (fg o s) C && !bt (tG C o s).2 (fg o s))) := rfl
      have e2 : (tG C o (s + 1)).2 = if (tG C o s).1 && (inb (fg o s) C && !bt (tG C o s).2 (fg o s)) then (tG C o s).2 ||| (1 <<< (fg o s &&& 31)) else (tG C o s).2 ||| 0 := rfl
      have hbad : (tG C o (s + 1)).1 = false → tOK C o = false := fun e => tOK_f (by omega) e
      rw [e1] at hbad
      rw [e1, e2] at ih
      rw [x1 f rfl, w_t_isOrder_13]
      rw [hg, Bool.true_and] at ih hbad
      generalize (tG C o s).2 = gt at ih hbad ⊢
      cases q1 : inb (fg o s) C
      · simp only [w_t_isOrder_0, w_t_isOrder_1, w_t_isOrder_2, w_t_isOrder_3, w_t_isOrder_5, w_t_isOrder_6, w_t_isOrder_9, w_t_isOrder_10, w_t_isOrder_11, w_t_isOrder_15, w_t_isOrder_18, w_t_isOrder_19, w_t_isOrder_21, w_t_isOrder_22, w_t_isOrder_23, w_t_isOrder_24, w_t_isOrder_26, w_t_isOrder_27, w_t_isOrder_29, w_t_isOrder_32, w_t_isOrder_35, w_t_isOrder_37, w_t_isOrder_39, w_t_isOrder_40, w_t_isOrder_41, w_t_isOrder_42, w_t_isOrder_45, w_t_isOrder_46, w_t_isOrder_47, w_t_isOrder_49, w_t_isOrder_50, w_t_isOrder_52, w_t_isOrder_53, w_t_isOrder_54, w_t_isOrder_56, w_t_isOrder_57, w_t_isOrder_60, w_t_isOrder_62, w_t_isOrder_64, w_t_isOrder_65, w_t_isOrder_66, w_t_isOrder_68, w_t_isOrder_69, w_t_isOrder_70, w_t_isOrder_73, w_t_isOrder_76, w_t_isOrder_77, w_t_isOrder_80, w_t_isOrder_81, w_t_isOrder_84, w_t_isOrder_87, w_t_isOrder_88, w_t_isOrder_91, w_t_isOrder_92, xt_2, al_20, g1, g3, not_false_eq_true, show lf o s - lf o s / 10 * 10 - 1 = fg o s from rfl, e_p_hasChild hp (hc _), q1, zpp hp, i10, Bool.false_eq_true, eq_self, true_or, or_true, if_true, if_false, gv_int, gv_ref, av_some, al_some, un_int, un_ref, un_mk, ok4_0, ok4_1, ok4_2, ok4_3, ok4_4, Kn_some, Kn_none, true_and, and_true]
        exact hQ0 (hbad (by rw [q1, Bool.false_and])) _
      · cases q2 : bt gt (fg o s)
        · rw [q1, q2] at ih
          simp only [Bool.not_false, Bool.and_self, if_true] at ih
          simp only [w_t_isOrder_0, w_t_isOrder_1, w_t_isOrder_2, w_t_isOrder_3, w_t_isOrder_5, w_t_isOrder_6, w_t_isOrder_9, w_t_isOrder_10, w_t_isOrder_11, w_t_isOrder_15, w_t_isOrder_18, w_t_isOrder_19, w_t_isOrder_21, w_t_isOrder_22, w_t_isOrder_23, w_t_isOrder_24, w_t_isOrder_26, w_t_isOrder_27, w_t_isOrder_29, w_t_isOrder_32, w_t_isOrder_35, w_t_isOrder_37, w_t_isOrder_39, w_t_isOrder_40, w_t_isOrder_41, w_t_isOrder_42, w_t_isOrder_45, w_t_isOrder_46, w_t_isOrder_47, w_t_isOrder_49, w_t_isOrder_50, w_t_isOrder_52, w_t_isOrder_53, w_t_isOrder_54, w_t_isOrder_56, w_t_isOrder_57, w_t_isOrder_60, w_t_isOrder_62, w_t_isOrder_64, w_t_isOrder_65, w_t_isOrder_66, w_t_isOrder_68, w_t_isOrder_69, w_t_isOrder_70, w_t_isOrder_73, w_t_isOrder_76, w_t_isOrder_77, w_t_isOrder_80, w_t_isOrder_81, w_t_isOrder_84, w_t_isOrder_87, w_t_isOrder_88, w_t_isOrder_91, w_t_isOrder_92, xt_2, al_20, g1, g2, g3, not_false_eq_true, show lf o s - lf o s / 10 * 10 - 1 = fg o s from rfl, e_p_hasChild hp (hc _), q1, zpp hp, bt0, q2, nI_clamp (show f < 2 ^ 31 by omega), er, i10, Bool.false_eq_true, eq_self, true_or, or_true, if_true, if_false, gv_int, gv_ref, av_some, al_some, un_int, un_ref, un_mk, ok4_0, ok4_1, ok4_2, ok4_3, ok4_4, Kn_some, Kn_none, true_and, and_true]
          exact ih trivial (nI f + (-1)) (fun e => by rw [e]; exact nI_neg1) (fun f' e => by rw [e]; exact nI_m1 f') _
        · simp only [w_t_isOrder_0, w_t_isOrder_1, w_t_isOrder_2, w_t_isOrder_3, w_t_isOrder_5, w_t_isOrder_6, w_t_isOrder_9, w_t_isOrder_10, w_t_isOrder_11, w_t_isOrder_15, w_t_isOrder_18, w_t_isOrder_19, w_t_isOrder_21, w_t_isOrder_22, w_t_isOrder_23, w_t_isOrder_24, w_t_isOrder_26, w_t_isOrder_27, w_t_isOrder_29, w_t_isOrder_32, w_t_isOrder_35, w_t_isOrder_37, w_t_isOrder_39, w_t_isOrder_40, w_t_isOrder_41, w_t_isOrder_42, w_t_isOrder_45, w_t_isOrder_46, w_t_isOrder_47, w_t_isOrder_49, w_t_isOrder_50, w_t_isOrder_52, w_t_isOrder_53, w_t_isOrder_54, w_t_isOrder_56, w_t_isOrder_57, w_t_isOrder_60, w_t_isOrder_62, w_t_isOrder_64, w_t_isOrder_65, w_t_isOrder_66, w_t_isOrder_68, w_t_isOrder_69, w_t_isOrder_70, w_t_isOrder_73, w_t_isOrder_76, w_t_isOrder_77, w_t_isOrder_80, w_t_isOrder_81, w_t_isOrder_84, w_t_isOrder_87, w_t_isOrder_88, w_t_isOrder_91, w_t_isOrder_92, xt_2, al_20, g1, g2, g3, not_false_eq_true, show lf o s - lf o s / 10 * 10 - 1 = fg o s from rfl, e_p_hasChild hp (hc _), q1, zpp hp, bt0, q2, Bool.true_eq_false, i10, Bool.false_eq_true, eq_self, true_or, or_true, if_true, if_false, gv_int, gv_ref, av_some, al_some, un_int, un_ref, un_mk, ok4_0, ok4_1, ok4_2, ok4_3, ok4_4, Kn_some, Kn_none, true_and, and_true]
          exact hQ0 (hbad (by rw [q1, q2]; rfl)) _
  have st0 : st M 20 (rowF C o (M 20) 0) = M := by
    rw [show rowF C o (M 20) 0 = M 20 from by funext j; unfold rowF; rw [if_neg (by omega)], st_self]
  by_cases q1 : 0 < C
  · by_cases q2 : 0 < o
    · have start := key C 0 (Nat.zero_add C) (by show (decide (0 < C) && decide (0 < o)) = true; rw [decide_eq_true q1, decide_eq_true q2]; rfl) (nI C - 1) (fun e => by rw [e]; decide) (fun f' e => by rw [e]; exact nI_pred f') mk
      rw [st0] at start
      simp only [w_t_isOrder_0, w_t_isOrder_1, w_t_isOrder_2, w_t_isOrder_3, w_t_isOrder_5, w_t_isOrder_6, w_t_isOrder_9, w_t_isOrder_10, w_t_isOrder_11, w_t_isOrder_15, w_t_isOrder_18, w_t_isOrder_19, w_t_isOrder_21, w_t_isOrder_22, w_t_isOrder_23, w_t_isOrder_24, w_t_isOrder_26, w_t_isOrder_27, w_t_isOrder_29, w_t_isOrder_32, w_t_isOrder_35, w_t_isOrder_37, w_t_isOrder_39, w_t_isOrder_40, w_t_isOrder_41, w_t_isOrder_42, w_t_isOrder_45, w_t_isOrder_46, w_t_isOrder_47, w_t_isOrder_49, w_t_isOrder_50, w_t_isOrder_52, w_t_isOrder_53, w_t_isOrder_54, w_t_isOrder_56, w_t_isOrder_57, w_t_isOrder_60, w_t_isOrder_62, w_t_isOrder_64, w_t_isOrder_65, w_t_isOrder_66, w_t_isOrder_68, w_t_isOrder_69, w_t_isOrder_70, w_t_isOrder_73, w_t_isOrder_76, w_t_isOrder_77, w_t_isOrder_80, w_t_isOrder_81, w_t_isOrder_84, w_t_isOrder_87, w_t_isOrder_88, w_t_isOrder_91, w_t_isOrder_92, xt_2, al_20, xpp_1 hp, h2, i10, Bool.false_eq_true, eq_self, true_or, or_true, if_true, if_false, gv_int, gv_ref, av_some, al_some, un_int, un_ref, un_mk, ok4_0, ok4_1, ok4_2, ok4_3, ok4_4, Kn_some, Kn_none, true_and, and_true]
      exact start
    · have hno : tOK C o = false := tOK_f (k := 0) (by omega) (by show (decide (0 < C) && decide (0 < o)) = false; rw [decide_eq_false q2, Bool.and_false])
      obtain ⟨c', rfl⟩ : ∃ c', C = c' + 1 := ⟨C - 1, by omega⟩
      have g1 : (nI c' < 0) = False := eq_false (nI_pos (by omega))
      simp only [w_t_isOrder_0, w_t_isOrder_1, w_t_isOrder_2, w_t_isOrder_3, w_t_isOrder_5, w_t_isOrder_6, w_t_isOrder_9, w_t_isOrder_10, w_t_isOrder_11, w_t_isOrder_15, w_t_isOrder_18, w_t_isOrder_19, w_t_isOrder_21, w_t_isOrder_22, w_t_isOrder_23, w_t_isOrder_24, w_t_isOrder_26, w_t_isOrder_27, w_t_isOrder_29, w_t_isOrder_32, w_t_isOrder_35, w_t_isOrder_37, w_t_isOrder_39, w_t_isOrder_40, w_t_isOrder_41, w_t_isOrder_42, w_t_isOrder_45, w_t_isOrder_46, w_t_isOrder_47, w_t_isOrder_49, w_t_isOrder_50, w_t_isOrder_52, w_t_isOrder_53, w_t_isOrder_54, w_t_isOrder_56, w_t_isOrder_57, w_t_isOrder_60, w_t_isOrder_62, w_t_isOrder_64, w_t_isOrder_65, w_t_isOrder_66, w_t_isOrder_68, w_t_isOrder_69, w_t_isOrder_70, w_t_isOrder_73, w_t_isOrder_76, w_t_isOrder_77, w_t_isOrder_80, w_t_isOrder_81, w_t_isOrder_84, w_t_isOrder_87, w_t_isOrder_88, w_t_isOrder_91, w_t_isOrder_92, xt_2, al_20, xpp_1 hp, h2, nI_pred, i10, Bool.false_eq_true, eq_self, true_or, or_true, if_true, if_false, gv_int, gv_ref, av_some, al_some, un_int, un_ref, un_mk, ok4_0, ok4_1, ok4_2, ok4_3, ok4_4, Kn_some, Kn_none, true_and, and_true]
      rw [w_t_isOrder_13]
      simp only [w_t_isOrder_0, w_t_isOrder_1, w_t_isOrder_2, w_t_isOrder_3, w_t_isOrder_5, w_t_isOrder_6, w_t_isOrder_9, w_t_isOrder_10, w_t_isOrder_11, w_t_isOrder_15, w_t_isOrder_18, w_t_isOrder_19, w_t_isOrder_21, w_t_isOrder_22, w_t_isOrder_23, w_t_isOrder_24, w_t_isOrder_26, w_t_isOrder_27, w_t_isOrder_29, w_t_isOrder_32, w_t_isOrder_35, w_t_isOrder_37, w_t_isOrder_39, w_t_isOrder_40, w_t_isOrder_41, w_t_isOrder_42, w_t_isOrder_45, w_t_isOrder_46, w_t_isOrder_47, w_t_isOrder_49, w_t_isOrder_50, w_t_isOrder_52, w_t_isOrder_53, w_t_isOrder_54, w_t_isOrder_56, w_t_isOrder_57, w_t_isOrder_60, w_t_isOrder_62, w_t_isOrder_64, w_t_isOrder_65, w_t_isOrder_66, w_t_isOrder_68, w_t_isOrder_69, w_t_isOrder_70, w_t_isOrder_73, w_t_isOrder_76, w_t_isOrder_77, w_t_isOrder_80, w_t_isOrder_81, w_t_isOrder_84, w_t_isOrder_87, w_t_isOrder_88, w_t_isOrder_91, w_t_isOrder_92, xt_2, al_20, g1, g3, not_false_eq_true, e_p_hasChild hp hq.1, fg_np (c := c' + 1) q2, zpp hp, i10, Bool.false_eq_true, eq_self, true_or, or_true, if_true, if_false, gv_int, gv_ref, av_some, al_some, un_int, un_ref, un_mk, ok4_0, ok4_1, ok4_2, ok4_3, ok4_4, Kn_some, Kn_none, true_and, and_true]
      have := hQ0 hno (M 20)
      rw [st_self] at this
      exact this
  · have c0 : C = 0 := by omega
    subst c0
    have hno : tOK 0 o = false := tOK_f (k := 0) (by omega) (by show (decide (0 < 0) && decide (0 < o)) = false; simp)
    have fin := hQ0 hno (M 20)
    rw [st_self] at fin
    simp only [w_t_isOrder_0, w_t_isOrder_1, w_t_isOrder_2, w_t_isOrder_3, w_t_isOrder_5, w_t_isOrder_6, w_t_isOrder_9, w_t_isOrder_10, w_t_isOrder_11, w_t_isOrder_15, w_t_isOrder_18, w_t_isOrder_19, w_t_isOrder_21, w_t_isOrder_22, w_t_isOrder_23, w_t_isOrder_24, w_t_isOrder_26, w_t_isOrder_27, w_t_isOrder_29, w_t_isOrder_32, w_t_isOrder_35, w_t_isOrder_37, w_t_isOrder_39, w_t_isOrder_40, w_t_isOrder_41, w_t_isOrder_42, w_t_isOrder_45, w_t_isOrder_46, w_t_isOrder_47, w_t_isOrder_49, w_t_isOrder_50, w_t_isOrder_52, w_t_isOrder_53, w_t_isOrder_54, w_t_isOrder_56, w_t_isOrder_57, w_t_isOrder_60, w_t_isOrder_62, w_t_isOrder_64, w_t_isOrder_65, w_t_isOrder_66, w_t_isOrder_68, w_t_isOrder_69, w_t_isOrder_70, w_t_isOrder_73, w_t_isOrder_76, w_t_isOrder_77, w_t_isOrder_80, w_t_isOrder_81, w_t_isOrder_84, w_t_isOrder_87, w_t_isOrder_88, w_t_isOrder_91, w_t_isOrder_92, xt_2, al_20, xpp_1 hp, h2, i10, Bool.false_eq_true, eq_self, true_or, or_true, if_true, if_false, gv_int, gv_ref, av_some, al_some, un_int, un_ref, un_mk, ok4_0, ok4_1, ok4_2, ok4_3, ok4_4, Kn_some, Kn_none, true_and, and_true]
    rw [w_t_isOrder_13]
    simp only [w_t_isOrder_0, w_t_isOrder_1, w_t_isOrder_2, w_t_isOrder_3, w_t_isOrder_5, w_t_isOrder_6, w_t_isOrder_9, w_t_isOrder_10, w_t_isOrder_11, w_t_isOrder_15, w_t_isOrder_18, w_t_isOrder_19, w_t_isOrder_21, w_t_isOrder_22, w_t_isOrder_23, w_t_isOrder_24, w_t_isOrder_26, w_t_isOrder_27, w_t_isOrder_29, w_t_isOrder_32, w_t_isOrder_35, w_t_isOrder_37, w_t_isOrder_39, w_t_isOrder_40, w_t_isOrder_41, w_t_isOrder_42, w_t_isOrder_45, w_t_isOrder_46, w_t_isOrder_47, w_t_isOrder_49, w_t_isOrder_50, w_t_isOrder_52, w_t_isOrder_53, w_t_isOrder_54, w_t_isOrder_56, w_t_isOrder_57, w_t_isOrder_60, w_t_isOrder_62, w_t_isOrder_64, w_t_isOrder_65, w_t_isOrder_66, w_t_isOrder_68, w_t_isOrder_69, w_t_isOrder_70, w_t_isOrder_73, w_t_isOrder_76, w_t_isOrder_77, w_t_isOrder_80, w_t_isOrder_81, w_t_isOrder_84, w_t_isOrder_87, w_t_isOrder_88, w_t_isOrder_91, w_t_isOrder_92, xt_2, al_20, xpp_1 hp, h2, (show (nI 0 - 1 < 0) = True by decide), (show ((0 : Int32) < nI 0) = False by decide), i10, Bool.false_eq_true, eq_self, true_or, or_true, if_true, if_false, gv_int, gv_ref, av_some, al_some, un_int, un_ref, un_mk, ok4_0, ok4_1, ok4_2, ok4_3, ok4_4, Kn_some, Kn_none, true_and, and_true]
    by_cases q : o = 0
    · simp only [eq_true q, if_true]; exact fin
    · simp only [eq_false q, if_false]; exact fin
