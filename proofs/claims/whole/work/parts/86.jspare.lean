/-! both try alike: a spare thing, odds -/
theorem i_ring (a b p q : Int32) : (a + p) - (b + q) = a - b + p - q := by
  simp only [Int32.sub_eq_add_neg, Int32.neg_add]
  rw [← Int32.add_assoc, i_rc a p (-b)]
def spZ (W : Nat → Nat → Int32) (h : Nat → Int32) (n c : Nat) (X : Nat → Int32) (i j : Nat) : Int32 := wo W h n i (nI j) + (if j = c then X i else 0)
theorem spE_Z {W : Nat → Nat → Int32} {lk h : Nat → Int32} {n C c : Nat} {X : Nat → Int32} (hC : C ≤ 4) (hc : c < C) : allZ lk (spZ W h n c X) C = spE W lk h n C (nI c) X := by
  unfold allZ spE spI
  refine lp_congr (fun i hi s => lp_congr (fun j hj s => ?_) s) 0
  congr 1
  unfold gZ
  split
  · congr 1
    unfold spZ moreE
    have e1 : (nI j = nI c) ↔ j = c := ⟨fun e => nI_iq (by omega) (by omega) e, fun e => by rw [e]⟩
    have e2 : (nI i = nI c) ↔ i = c := ⟨fun e => nI_iq (by omega) (by omega) e, fun e => by rw [e]⟩
    rw [i_ring]
    by_cases q1 : j = c <;> by_cases q2 : i = c <;> simp only [e1, e2, q1, q2, if_true, if_false]
  · rfl
theorem spV_eq (W : Nat → Nat → Int32) (lk h : Nat → Int32) (n c : Nat) (w : Int32) (X : Nat → Nat → Int32) (ban : Nat → Bool) (k : Nat) : spV W lk h n c w X ban k = if ban k then 100000000 else spE W lk h n c w (fun i => X i k) := rfl
theorem j_spare {A B : Nat} {M : Mm} {x : Int32} (hj : JJ M A B) : WP 128 0 [.ref 0, .int x, mk, mk, mk, mk, mk] [] (shw A B) (0, 0) M (JQ 206 [.ref 58, .int x, mk, mk, mk, mk]) := by
  obtain ⟨K, C, N, h⟩ := id hj
  obtain ⟨h0, h1, h2, h3, h4, h5, h6, h7, h8, h9, h10⟩ := id h
  have hp := h0.pp
  obtain ⟨c1, c2, c3, c4, c5, c6, c7, c8⟩ := id h1
  obtain ⟨d1, d2, d3, d4⟩ := id h2
  obtain ⟨⟨m1, m2, m3⟩, m4, m5, m6⟩ := id c2.1
  have hv : HV (M 4) C := by rw [d1]; exact d2
  cases hx : inb x C
  · simp only [w_c_spare_0, w_c_spare_1, w_c_spare_4, w_c_spare_5, w_c_spare_8, w_c_spare_11, w_c_spare_13, w_c_spare_14, w_c_spare_15, w_c_spare_18, w_c_spare_19, w_c_spare_20, w_c_spare_21, w_c_spare_22, w_c_spare_24, w_c_spare_25, w_c_spare_29, w_c_spare_30, w_c_spare_33, w_c_spare_36, w_c_spare_39, w_c_spare_40, w_c_spare_43, w_c_spare_44, w_c_spare_46, w_c_spare_49, w_c_spare_52, w_c_spare_53, w_c_spare_54, w_c_spare_57, w_c_spare_59, w_c_spare_60, w_c_spare_61, w_c_spare_64, w_c_spare_65, w_c_spare_66, w_c_spare_69, w_c_spare_72, w_c_spare_74, w_c_spare_75, w_c_spare_76, w_c_spare_79, w_c_spare_81, w_c_spare_82, w_c_spare_83, w_c_spare_86, w_c_spare_87, w_c_spare_88, w_c_spare_91, w_c_spare_93, w_c_spare_95, w_c_spare_98, w_c_spare_100, w_c_spare_101, w_c_spare_103, w_c_spare_105, w_c_spare_108, w_c_spare_111, w_c_spare_112, xc_8, cl_0, e_p_hasChild hp c2.1, hx, cl_0, cl_1, cl_3, cl_5, cl_7, cl_12, cl_15, cl_21, cl_29, zpp hp, i10, Bool.false_eq_true, eq_self, true_or, or_true, if_true, if_false, gv_int, gv_ref, av_some, al_some, un_int, un_ref, un_mk, ok4_0, ok4_1, ok4_2, ok4_3, ok4_4, Kn_some, Kn_none, true_and, and_true]
    refine JQ.mk ?_
    rw [e_m_spare c1, hx]
    exact ⟨rfl, rfl, hj⟩
  obtain ⟨c, cc, rfl⟩ := inb_of hx (by omega)
  have hwb := h.wb
  have hsum : ∀ k, k < K → ∃ z, z ≤ 100000 ∧ spE (wT M) (M 63) (M 65) N C (nI c) (fun i => wN M i k) = nI z := by
    intro k hk
    rw [← spE_Z m5 cc]
    obtain ⟨z, z1, z2⟩ := allZ_b (lk := M 63) (Z := spZ (wT M) (M 65) N c (fun i => wN M i k)) (D := 800) m5 (by omega) (fun i j hi hj => by
      obtain ⟨y, y1, y2⟩ := wo_b hwb (M 65) (nI j) hi N (Nat.le_refl N)
      obtain ⟨v, v1, v2⟩ := c7 i k hi hk
      unfold spZ
      rw [y2]
      by_cases q : j = c
      · rw [if_pos q]
        unfold wN
        dsimp only
        split
        · exact ⟨y, by omega, Int32.add_zero _⟩
        · rw [v2, nI_add]; exact ⟨y + v, by omega, rfl⟩
      · rw [if_neg q]; exact ⟨y, by omega, Int32.add_zero _⟩)
    exact ⟨z, by omega, z2⟩
  have hlt : ∀ k, k < K → spE (wT M) (M 63) (M 65) N C (nI c) (fun i => wN M i k) < 100000000 := by
    intro k hk
    obtain ⟨z, z1, z2⟩ := hsum k hk
    rw [z2]; exact nI_lt (b := 100000000) (by omega) (by decide)
  simp only [w_c_spare_0, w_c_spare_1, w_c_spare_4, w_c_spare_5, w_c_spare_8, w_c_spare_11, w_c_spare_13, w_c_spare_14, w_c_spare_15, w_c_spare_18, w_c_spare_19, w_c_spare_20, w_c_spare_21, w_c_spare_22, w_c_spare_24, w_c_spare_25, w_c_spare_29, w_c_spare_30, w_c_spare_33, w_c_spare_36, w_c_spare_39, w_c_spare_40, w_c_spare_43, w_c_spare_44, w_c_spare_46, w_c_spare_49, w_c_spare_52, w_c_spare_53, w_c_spare_54, w_c_spare_57, w_c_spare_59, w_c_spare_60, w_c_spare_61, w_c_spare_64, w_c_spare_65, w_c_spare_66, w_c_spare_69, w_c_spare_72, w_c_spare_74, w_c_spare_75, w_c_spare_76, w_c_spare_79, w_c_spare_81, w_c_spare_82, w_c_spare_83, w_c_spare_86, w_c_spare_87, w_c_spare_88, w_c_spare_91, w_c_spare_93, w_c_spare_95, w_c_spare_98, w_c_spare_100, w_c_spare_101, w_c_spare_103, w_c_spare_105, w_c_spare_108, w_c_spare_111, w_c_spare_112, xc_8, cl_0, e_p_hasChild hp c2.1, hx, cl_0, cl_1, cl_3, cl_5, cl_7, cl_12, cl_15, cl_21, cl_29, zpp hp, i10, Bool.false_eq_true, eq_self, true_or, or_true, if_true, if_false, gv_int, gv_ref, av_some, al_some, un_int, un_ref, un_mk, ok4_0, ok4_1, ok4_2, ok4_3, ok4_4, Kn_some, Kn_none, true_and, and_true]
  refine c_worthsNow hp c2 hv (fun f0 hw0 => ?_)
  simp only [w_c_spare_0, w_c_spare_1, w_c_spare_4, w_c_spare_5, w_c_spare_8, w_c_spare_11, w_c_spare_13, w_c_spare_14, w_c_spare_15, w_c_spare_18, w_c_spare_19, w_c_spare_20, w_c_spare_21, w_c_spare_22, w_c_spare_24, w_c_spare_25, w_c_spare_29, w_c_spare_30, w_c_spare_33, w_c_spare_36, w_c_spare_39, w_c_spare_40, w_c_spare_43, w_c_spare_44, w_c_spare_46, w_c_spare_49, w_c_spare_52, w_c_spare_53, w_c_spare_54, w_c_spare_57, w_c_spare_59, w_c_spare_60, w_c_spare_61, w_c_spare_64, w_c_spare_65, w_c_spare_66, w_c_spare_69, w_c_spare_72, w_c_spare_74, w_c_spare_75, w_c_spare_76, w_c_spare_79, w_c_spare_81, w_c_spare_82, w_c_spare_83, w_c_spare_86, w_c_spare_87, w_c_spare_88, w_c_spare_91, w_c_spare_93, w_c_spare_95, w_c_spare_98, w_c_spare_100, w_c_spare_101, w_c_spare_103, w_c_spare_105, w_c_spare_108, w_c_spare_111, w_c_spare_112, xc_8, cl_0, i10, Bool.false_eq_true, eq_self, true_or, or_true, if_true, if_false, gv_int, gv_ref, av_some, al_some, un_int, un_ref, un_mk, ok4_0, ok4_1, ok4_2, ok4_3, ok4_4, Kn_some, Kn_none, true_and, and_true]
  refine for_up (n := K) (P := fun k => ∀ f (least : Int32) j6, WOk (st M 6 f) 5 (wT M) (M 65) N C → (spB (spV (wT M) (M 63) (M 65) N C (nI c) (wN M) (fun k => bt (M 61 c) (nI k))) k = (-1, 100000000) ∨ ∃ b, b < k ∧ (spB (spV (wT M) (M 63) (M 65) N C (nI c) (wN M) (fun k => bt (M 61 c) (nI k))) k).1 = nI b ∧ least = (spB (spV (wT M) (M 63) (M 65) N C (nI c) (wN M) (fun k => bt (M 61 c) (nI k))) k).2 ∧ ¬ 100000000 < least) → WP 128 27 [.ref 0, .int (nI c), .ref 5, .int (spB (spV (wT M) (M 63) (M 65) N C (nI c) (wN M) (fun k => bt (M 61 c) (nI k))) k).1, .int least, .int (nI k), j6] [] (shw A B) (0, 0) (st M 6 f) (JQ 206 [.ref 58, .int (nI c), mk, mk, mk, mk])) ?_ ?_ f0 0 _ (by rw [← d1]; exact hw0) (Or.inl rfl)
  · intro f least j6 hw hs
    have hX := h.s6 f
    rw [w_c_spare_27]
    simp only [w_c_spare_0, w_c_spare_1, w_c_spare_4, w_c_spare_5, w_c_spare_8, w_c_spare_11, w_c_spare_13, w_c_spare_14, w_c_spare_15, w_c_spare_18, w_c_spare_19, w_c_spare_20, w_c_spare_21, w_c_spare_22, w_c_spare_24, w_c_spare_25, w_c_spare_29, w_c_spare_30, w_c_spare_33, w_c_spare_36, w_c_spare_39, w_c_spare_40, w_c_spare_43, w_c_spare_44, w_c_spare_46, w_c_spare_49, w_c_spare_52, w_c_spare_53, w_c_spare_54, w_c_spare_57, w_c_spare_59, w_c_spare_60, w_c_spare_61, w_c_spare_64, w_c_spare_65, w_c_spare_66, w_c_spare_69, w_c_spare_72, w_c_spare_74, w_c_spare_75, w_c_spare_76, w_c_spare_79, w_c_spare_81, w_c_spare_82, w_c_spare_83, w_c_spare_86, w_c_spare_87, w_c_spare_88, w_c_spare_91, w_c_spare_93, w_c_spare_95, w_c_spare_98, w_c_spare_100, w_c_spare_101, w_c_spare_103, w_c_spare_105, w_c_spare_108, w_c_spare_111, w_c_spare_112, xc_8, cl_0, xpp_0 hp, hX.2.1.2.1.1.1.1, lt_irr, i10, Bool.false_eq_true, eq_self, true_or, or_true, if_true, if_false, gv_int, gv_ref, av_some, al_some, un_int, un_ref, un_mk, ok4_0, ok4_1, ok4_2, ok4_3, ok4_4, Kn_some, Kn_none, true_and, and_true]
    refine JQ.mk ?_
    refine Eq.mpr (e_m_spare hX.2.1.1) (ite_t hx ?_)
    refine ⟨?_, rfl, K, C, N, hX⟩
    rw [nI_clamp (show c < 2 ^ 31 by omega)]
    rfl
  · intro k hk ih f least j6 hw hs
    have hX := h.s6 f
    have g1 : nI k < nI K := nI_lt hk (by omega)
    have eA : st M 6 f (A + 3) c = M 61 c := hX.2.1.2.2.2.1 c cc
    have hV := spV_eq (wT M) (M 63) (M 65) N C (nI c) (wN M) (fun k => bt (M 61 c) (nI k)) k
    rw [spB_s, hV] at ih
    generalize spB (spV (wT M) (M 63) (M 65) N C (nI c) (wN M) (fun k => bt (M 61 c) (nI k))) k = s0 at ih hs ⊢
    rw [w_c_spare_27]
    cases hb : bt (M 61 c) (nI k)
    · rw [hb] at ih
      simp only [Bool.false_eq_true, if_false] at ih
      -- the sum with one thing more
      have s6 : ∀ f' , CQ (st M 6 f') A K C N (kN M) (wT M) (M 63) := fun f' => (h.s6 f').2.1.2.1
      have e6 : ∀ f', st M 6 f' (A + 6) = M (A + 6) := fun f' => if_neg (by unfold isPP at hp; omega)
      have e56 : ∀ f', st M 6 f' (5 + 1) = f' := fun _ => rfl
      have hZ : ∀ i j, i < C → j < C → st M 6 (cgF f c (fun i => 1 * M (A + 6) (i * 5 + k)) C) (5 + 1) (i * 4 + j) = spZ (wT M) (M 65) N c (fun i => wN M i k) i j := by
        intro i j hi hj
        rw [e56, cgF_at _ _ _ (by omega) _ _ _ (by omega), (c5 i k hi hk).2, Int32.one_mul]
        unfold spZ
        have := hw i j hi hj
        rw [e56] at this
        rw [this]
        by_cases q : j = c
        · rw [if_pos ⟨hi, q⟩, if_pos q]
        · rw [if_neg (fun z => q z.2), if_neg q, Int32.add_zero]
      have hback : WOk (st M 6 (cgF (cgF f c (fun i => 1 * M (A + 6) (i * 5 + k)) C) c (fun i => -1 * M (A + 6) (i * 5 + k)) C)) 5 (wT M) (M 65) N C := by
        intro i j hi hj
        have := hw i j hi hj
        rw [e56] at this
        rw [e56, cgF_at _ _ _ (by omega) _ _ _ (by omega), cgF_at _ _ _ (by omega) _ _ _ (by omega), this]
        by_cases q : i < C ∧ j = c
        · rw [if_pos q, if_pos q, Int32.one_mul, Int32.neg_mul, Int32.one_mul, Int32.add_assoc, Int32.add_right_neg, Int32.add_zero]
        · rw [if_neg q, if_neg q]
      have es := spE_Z (W := wT M) (lk := M 63) (h := M 65) (n := N) (X := fun i => wN M i k) m5 cc
      have ev := fun (Q : Po) => e_v_allZ (A := A) (B := B) (Q := Q) isVV_5 hp (s6 _) hZ
      rw [es] at ev
      have hl := hlt k hk
      generalize spE (wT M) (M 63) (M 65) N C (nI c) (fun i => wN M i k) = sm at ih hl ev
      have hnl : ¬ 100000000 < sm := by
        intro z
        have := Int32.lt_iff_toInt_lt.mp z
        have := Int32.lt_iff_toInt_lt.mp hl
        omega
      rcases hs with e | ⟨b, b1, b2, b3, b4⟩
      · rw [e] at ih ⊢
        rw [if_pos hl] at ih
        simp only [w_c_spare_0, w_c_spare_1, w_c_spare_4, w_c_spare_5, w_c_spare_8, w_c_spare_11, w_c_spare_13, w_c_spare_14, w_c_spare_15, w_c_spare_18, w_c_spare_19, w_c_spare_20, w_c_spare_21, w_c_spare_22, w_c_spare_24, w_c_spare_25, w_c_spare_29, w_c_spare_30, w_c_spare_33, w_c_spare_36, w_c_spare_39, w_c_spare_40, w_c_spare_43, w_c_spare_44, w_c_spare_46, w_c_spare_49, w_c_spare_52, w_c_spare_53, w_c_spare_54, w_c_spare_57, w_c_spare_59, w_c_spare_60, w_c_spare_61, w_c_spare_64, w_c_spare_65, w_c_spare_66, w_c_spare_69, w_c_spare_72, w_c_spare_74, w_c_spare_75, w_c_spare_76, w_c_spare_79, w_c_spare_81, w_c_spare_82, w_c_spare_83, w_c_spare_86, w_c_spare_87, w_c_spare_88, w_c_spare_91, w_c_spare_93, w_c_spare_95, w_c_spare_98, w_c_spare_100, w_c_spare_101, w_c_spare_103, w_c_spare_105, w_c_spare_108, w_c_spare_111, w_c_spare_112, xc_8, cl_0, xpp_0 hp, hX.2.1.2.1.1.1.1, g1, e_p_isBanned hp (show c < 4 by omega), eA, hb, cl_0, cl_1, cl_3, cl_5, cl_7, cl_12, cl_15, cl_21, cl_29, zpp hp, e_v_change isVV_5 hp (s6 _).1 (show k < 5 by omega), hx, nI_clamp (show c < 2 ^ 31 by omega), st_st, e6, e56, ev, nI_1, i10, Bool.false_eq_true, eq_self, true_or, or_true, if_true, if_false, gv_int, gv_ref, av_some, al_some, un_int, un_ref, un_mk, ok4_0, ok4_1, ok4_2, ok4_3, ok4_4, Kn_some, Kn_none, true_and, and_true]
        exact ih _ _ _ hback (Or.inr ⟨k, by omega, rfl, rfl, hnl⟩)
      · have n1 : (nI b = -1) = False := eq_false (nI_ne_m1 (by omega))
        rw [b2, b3]
        rw [b3] at b4
        by_cases q : sm < s0.2
        · rw [if_pos q] at ih
          simp only [w_c_spare_0, w_c_spare_1, w_c_spare_4, w_c_spare_5, w_c_spare_8, w_c_spare_11, w_c_spare_13, w_c_spare_14, w_c_spare_15, w_c_spare_18, w_c_spare_19, w_c_spare_20, w_c_spare_21, w_c_spare_22, w_c_spare_24, w_c_spare_25, w_c_spare_29, w_c_spare_30, w_c_spare_33, w_c_spare_36, w_c_spare_39, w_c_spare_40, w_c_spare_43, w_c_spare_44, w_c_spare_46, w_c_spare_49, w_c_spare_52, w_c_spare_53, w_c_spare_54, w_c_spare_57, w_c_spare_59, w_c_spare_60, w_c_spare_61, w_c_spare_64, w_c_spare_65, w_c_spare_66, w_c_spare_69, w_c_spare_72, w_c_spare_74, w_c_spare_75, w_c_spare_76, w_c_spare_79, w_c_spare_81, w_c_spare_82, w_c_spare_83, w_c_spare_86, w_c_spare_87, w_c_spare_88, w_c_spare_91, w_c_spare_93, w_c_spare_95, w_c_spare_98, w_c_spare_100, w_c_spare_101, w_c_spare_103, w_c_spare_105, w_c_spare_108, w_c_spare_111, w_c_spare_112, xc_8, cl_0, xpp_0 hp, hX.2.1.2.1.1.1.1, g1, e_p_isBanned hp (show c < 4 by omega), eA, hb, cl_0, cl_1, cl_3, cl_5, cl_7, cl_12, cl_15, cl_21, cl_29, zpp hp, e_v_change isVV_5 hp (s6 _).1 (show k < 5 by omega), hx, nI_clamp (show c < 2 ^ 31 by omega), st_st, e6, e56, ev, n1, eq_true q, nI_1, i10, Bool.false_eq_true, eq_self, true_or, or_true, if_true, if_false, gv_int, gv_ref, av_some, al_some, un_int, un_ref, un_mk, ok4_0, ok4_1, ok4_2, ok4_3, ok4_4, Kn_some, Kn_none, true_and, and_true]
          exact ih _ _ _ hback (Or.inr ⟨k, by omega, rfl, rfl, hnl⟩)
        · rw [if_neg q, b2] at ih
          simp only [w_c_spare_0, w_c_spare_1, w_c_spare_4, w_c_spare_5, w_c_spare_8, w_c_spare_11, w_c_spare_13, w_c_spare_14, w_c_spare_15, w_c_spare_18, w_c_spare_19, w_c_spare_20, w_c_spare_21, w_c_spare_22, w_c_spare_24, w_c_spare_25, w_c_spare_29, w_c_spare_30, w_c_spare_33, w_c_spare_36, w_c_spare_39, w_c_spare_40, w_c_spare_43, w_c_spare_44, w_c_spare_46, w_c_spare_49, w_c_spare_52, w_c_spare_53, w_c_spare_54, w_c_spare_57, w_c_spare_59, w_c_spare_60, w_c_spare_61, w_c_spare_64, w_c_spare_65, w_c_spare_66, w_c_spare_69, w_c_spare_72, w_c_spare_74, w_c_spare_75, w_c_spare_76, w_c_spare_79, w_c_spare_81, w_c_spare_82, w_c_spare_83, w_c_spare_86, w_c_spare_87, w_c_spare_88, w_c_spare_91, w_c_spare_93, w_c_spare_95, w_c_spare_98, w_c_spare_100, w_c_spare_101, w_c_spare_103, w_c_spare_105, w_c_spare_108, w_c_spare_111, w_c_spare_112, xc_8, cl_0, xpp_0 hp, hX.2.1.2.1.1.1.1, g1, e_p_isBanned hp (show c < 4 by omega), eA, hb, cl_0, cl_1, cl_3, cl_5, cl_7, cl_12, cl_15, cl_21, cl_29, zpp hp, e_v_change isVV_5 hp (s6 _).1 (show k < 5 by omega), hx, nI_clamp (show c < 2 ^ 31 by omega), st_st, e6, e56, ev, n1, eq_false q, nI_1, i10, Bool.false_eq_true, eq_self, true_or, or_true, if_true, if_false, gv_int, gv_ref, av_some, al_some, un_int, un_ref, un_mk, ok4_0, ok4_1, ok4_2, ok4_3, ok4_4, Kn_some, Kn_none, true_and, and_true]
          exact ih _ _ _ hback (Or.inr ⟨b, by omega, rfl, rfl, b4⟩)
    · rw [hb] at ih
      simp only [if_true] at ih
      have hno : ¬ 100000000 < s0.2 := by
        rcases hs with e | ⟨b, b1, b2, b3, b4⟩
        · rw [e]; decide
        · rw [← b3]; exact b4
      rw [if_neg hno] at ih
      simp only [w_c_spare_0, w_c_spare_1, w_c_spare_4, w_c_spare_5, w_c_spare_8, w_c_spare_11, w_c_spare_13, w_c_spare_14, w_c_spare_15, w_c_spare_18, w_c_spare_19, w_c_spare_20, w_c_spare_21, w_c_spare_22, w_c_spare_24, w_c_spare_25, w_c_spare_29, w_c_spare_30, w_c_spare_33, w_c_spare_36, w_c_spare_39, w_c_spare_40, w_c_spare_43, w_c_spare_44, w_c_spare_46, w_c_spare_49, w_c_spare_52, w_c_spare_53, w_c_spare_54, w_c_spare_57, w_c_spare_59, w_c_spare_60, w_c_spare_61, w_c_spare_64, w_c_spare_65, w_c_spare_66, w_c_spare_69, w_c_spare_72, w_c_spare_74, w_c_spare_75, w_c_spare_76, w_c_spare_79, w_c_spare_81, w_c_spare_82, w_c_spare_83, w_c_spare_86, w_c_spare_87, w_c_spare_88, w_c_spare_91, w_c_spare_93, w_c_spare_95, w_c_spare_98, w_c_spare_100, w_c_spare_101, w_c_spare_103, w_c_spare_105, w_c_spare_108, w_c_spare_111, w_c_spare_112, xc_8, cl_0, xpp_0 hp, hX.2.1.2.1.1.1.1, g1, e_p_isBanned hp (show c < 4 by omega), eA, hb, cl_0, cl_1, cl_3, cl_5, cl_7, cl_12, cl_15, cl_21, cl_29, zpp hp, nI_1, i10, Bool.false_eq_true, eq_self, true_or, or_true, if_true, if_false, gv_int, gv_ref, av_some, al_some, un_int, un_ref, un_mk, ok4_0, ok4_1, ok4_2, ok4_3, ok4_4, Kn_some, Kn_none, true_and, and_true]
      refine ih _ _ _ hw ?_
      rcases hs with e | ⟨b, b1, b2, b3, b4⟩
      · exact Or.inl e
      · exact Or.inr ⟨b, by omega, b2, b3, b4⟩
/-- one step of the odds, as the component takes it -/
theorem dry_step {y k : Nat} (hy : y < 2 ^ 30) (hk : k ≤ 1000000000) : (lN k * (100 - (if nI y < 100 then nI y else 100)).toInt64 / 100 = dryS (nI y) (lN k)) ∧ ∃ k', k' ≤ 1000000000 ∧ dryS (nI y) (lN k) = lN k' := by
  have l100 : (100 : Int64) = lN 100 := rfl
  have i100 : (100 : Int32) = nI 100 := rfl
  unfold dryS
  by_cases q : y < 100
  · have q' : nI y < 100 := nI_lt (b := 100) q (by decide)
    have e1 : (100 : Int32) - nI y = nI (100 - y) := pk_sub (a := 100) (by omega)
    rw [if_pos q', if_pos q', e1, nI_l (by omega), l100, lN_mul]
    have hb : k * (100 - y) ≤ 1000000000 * 100 := Nat.mul_le_mul hk (by omega)
    rw [pk_lDiv (by omega) (by decide) (by decide)]
    by_cases z : y = 0
    · subst z
      rw [if_neg (by decide)]
      rw [show k * (100 - 0) / 100 = k from Nat.mul_div_cancel k (by decide)]
      exact ⟨rfl, k, hk, rfl⟩
    · rw [if_pos (show (0 : Int32) < nI y from nI_lt (a := 0) (by omega) (by omega))]
      refine ⟨rfl, _, ?_, rfl⟩
      have : k * (100 - y) / 100 ≤ 1000000000 * 100 / 100 := Nat.div_le_div_right hb
      omega
  · have q' : ¬ nI y < 100 := nI_nlt (b := 100) (by omega) (by omega)
    rw [if_neg q', if_neg q', if_pos (show (0 : Int32) < nI y from nI_lt (a := 0) (by omega) (by omega))]
    have e1 : (100 : Int32) - 100 = nI 0 := by decide
    have e2 : (0 : Int32) = nI 0 := rfl
    rw [e1, e2, nI_l (by omega), l100, lN_mul, pk_lDiv (by omega) (by decide) (by decide), Nat.mul_zero]
    exact ⟨rfl, 0, by omega, rfl⟩
theorem dryI_s (E : Nat → Int32) (c : Nat) (o : Int64) : dryI E (c + 1) o = dryS (E c) (dryI E c o) := rfl
theorem j_dry {A B : Nat} {M : Mm} (hj : JJ M A B) : WP 129 0 [.ref 0, mk, mk, mk, mk, mk] [] (shw A B) (0, 0) M (JQ 207 [.ref 58, mk, mk, mk, mk, mk]) := by
  obtain ⟨K, C, N, h⟩ := id hj
  obtain ⟨h0, h1, h2, h3, h4, h5, h6, h7, h8, h9, h10⟩ := id h
  have hp := h0.pp
  obtain ⟨c1, c2, c3, c4, c5, c6, c7, c8⟩ := id h1
  obtain ⟨d1, d2, d3, d4⟩ := id h2
  obtain ⟨⟨m1, m2, m3⟩, m4, m5, m6⟩ := id c2.1
  have hv : HV (M 4) C := by rw [d1]; exact d2
  have hev : ∀ i j, i < C → j < C → ∃ y, y ≤ 700 ∧ ev (wT M) (M 63) (M 65) N i j = nI y := by
    intro i j hi hj
    obtain ⟨a, a1, a2⟩ := wo_b h.wb (M 65) (nI j) hi N (Nat.le_refl N)
    obtain ⟨b, b1, b2⟩ := wo_b h.wb (M 65) (nI i) hi N (Nat.le_refl N)
    unfold ev
    split
    · rw [a2, b2, mx0_b (by omega) (by omega)]; exact ⟨a - b, by omega, rfl⟩
    · exact ⟨0, by omega, rfl⟩
  simp only [w_c_dry_0, w_c_dry_1, w_c_dry_4, w_c_dry_5, w_c_dry_8, w_c_dry_9, w_c_dry_10, w_c_dry_14, w_c_dry_15, w_c_dry_18, w_c_dry_21, w_c_dry_24, w_c_dry_25, w_c_dry_29, w_c_dry_30, w_c_dry_33, w_c_dry_36, w_c_dry_39, w_c_dry_40, w_c_dry_42, w_c_dry_44, w_c_dry_45, w_c_dry_46, w_c_dry_49, w_c_dry_51, w_c_dry_53, w_c_dry_56, w_c_dry_59, w_c_dry_60, w_c_dry_61, w_c_dry_62, w_c_dry_65, w_c_dry_66, w_c_dry_67, w_c_dry_70, w_c_dry_73, w_c_dry_76, w_c_dry_79, w_c_dry_80, w_c_dry_81, cl_0, xc_8, cl_0, cl_1, cl_3, cl_5, cl_7, cl_12, cl_15, cl_21, cl_29, zpp hp, i10, Bool.false_eq_true, eq_self, true_or, or_true, if_true, if_false, gv_int, gv_ref, av_some, al_some, un_int, un_ref, un_mk, ok4_0, ok4_1, ok4_2, ok4_3, ok4_4, Kn_some, Kn_none, true_and, and_true]
  refine c_worthsNow hp c2 hv (fun f hw => ?_)
  have hX := h.s6 f
  have hm2 := hX.2.1.2.1.1.1.2.1
  have g100 : ¬ (100 : Int64) = 0 := by decide
  simp only [w_c_dry_0, w_c_dry_1, w_c_dry_4, w_c_dry_5, w_c_dry_8, w_c_dry_9, w_c_dry_10, w_c_dry_14, w_c_dry_15, w_c_dry_18, w_c_dry_21, w_c_dry_24, w_c_dry_25, w_c_dry_29, w_c_dry_30, w_c_dry_33, w_c_dry_36, w_c_dry_39, w_c_dry_40, w_c_dry_42, w_c_dry_44, w_c_dry_45, w_c_dry_46, w_c_dry_49, w_c_dry_51, w_c_dry_53, w_c_dry_56, w_c_dry_59, w_c_dry_60, w_c_dry_61, w_c_dry_62, w_c_dry_65, w_c_dry_66, w_c_dry_67, w_c_dry_70, w_c_dry_73, w_c_dry_76, w_c_dry_79, w_c_dry_80, w_c_dry_81, cl_0, xc_8, i10, Bool.false_eq_true, eq_self, true_or, or_true, if_true, if_false, gv_int, gv_ref, av_some, al_some, un_int, un_ref, un_mk, ok4_0, ok4_1, ok4_2, ok4_3, ok4_4, Kn_some, Kn_none, true_and, and_true]
  refine for_up (n := C) (P := fun i => ∀ j5, (∃ k, k ≤ 1000000000 ∧ lp (fun i o => dryI (ev (wT M) (M 63) (M 65) N i) C o) i 1000000000 = lN k) → WP 129 12 [.ref 0, .ref 5, .long (lp (fun i o => dryI (ev (wT M) (M 63) (M 65) N i) C o) i 1000000000), mk, .int (nI i), j5] [] (shw A B) (0, 0) (st M 6 f) (JQ 207 [.ref 58, mk, mk, mk, mk, mk])) ?_ ?_ _ ⟨1000000000, Nat.le_refl _, rfl⟩
  · intro j5 _
    rw [w_c_dry_12]
    simp only [w_c_dry_0, w_c_dry_1, w_c_dry_4, w_c_dry_5, w_c_dry_8, w_c_dry_9, w_c_dry_10, w_c_dry_14, w_c_dry_15, w_c_dry_18, w_c_dry_21, w_c_dry_24, w_c_dry_25, w_c_dry_29, w_c_dry_30, w_c_dry_33, w_c_dry_36, w_c_dry_39, w_c_dry_40, w_c_dry_42, w_c_dry_44, w_c_dry_45, w_c_dry_46, w_c_dry_49, w_c_dry_51, w_c_dry_53, w_c_dry_56, w_c_dry_59, w_c_dry_60, w_c_dry_61, w_c_dry_62, w_c_dry_65, w_c_dry_66, w_c_dry_67, w_c_dry_70, w_c_dry_73, w_c_dry_76, w_c_dry_79, w_c_dry_80, w_c_dry_81, cl_0, xc_8, xpp_1 hp, hm2, lt_irr, i10, Bool.false_eq_true, eq_self, true_or, or_true, if_true, if_false, gv_int, gv_ref, av_some, al_some, un_int, un_ref, un_mk, ok4_0, ok4_1, ok4_2, ok4_3, ok4_4, Kn_some, Kn_none, true_and, and_true]
    refine JQ.mk ?_
    refine Eq.mpr (e_m_dry hX.2.1.1) ?_
    exact ⟨rfl, rfl, K, C, N, hX⟩
  · intro i hi ih j5 hk
    have g1 : nI i < nI C := nI_lt hi (by omega)
    rw [w_c_dry_12]
    simp only [w_c_dry_0, w_c_dry_1, w_c_dry_4, w_c_dry_5, w_c_dry_8, w_c_dry_9, w_c_dry_10, w_c_dry_14, w_c_dry_15, w_c_dry_18, w_c_dry_21, w_c_dry_24, w_c_dry_25, w_c_dry_29, w_c_dry_30, w_c_dry_33, w_c_dry_36, w_c_dry_39, w_c_dry_40, w_c_dry_42, w_c_dry_44, w_c_dry_45, w_c_dry_46, w_c_dry_49, w_c_dry_51, w_c_dry_53, w_c_dry_56, w_c_dry_59, w_c_dry_60, w_c_dry_61, w_c_dry_62, w_c_dry_65, w_c_dry_66, w_c_dry_67, w_c_dry_70, w_c_dry_73, w_c_dry_76, w_c_dry_79, w_c_dry_80, w_c_dry_81, cl_0, xc_8, xpp_1 hp, hm2, g1, i10, Bool.false_eq_true, eq_self, true_or, or_true, if_true, if_false, gv_int, gv_ref, av_some, al_some, un_int, un_ref, un_mk, ok4_0, ok4_1, ok4_2, ok4_3, ok4_4, Kn_some, Kn_none, true_and, and_true]
    simp only [lp_s] at ih
    generalize lp (fun i o => dryI (ev (wT M) (M 63) (M 65) N i) C o) i 1000000000 = s0 at ih hk ⊢
    refine for_up (n := C) (P := fun j => (∃ k, k ≤ 1000000000 ∧ dryI (ev (wT M) (M 63) (M 65) N i) j s0 = lN k) → WP 129 27 [.ref 0, .ref 5, .long (dryI (ev (wT M) (M 63) (M 65) N i) j s0), mk, .int (nI i), .int (nI j)] [] (shw A B) (0, 0) (st M 6 f) (JQ 207 [.ref 58, mk, mk, mk, mk, mk])) ?_ ?_ hk
    · intro hk2
      rw [w_c_dry_27]
      simp only [w_c_dry_0, w_c_dry_1, w_c_dry_4, w_c_dry_5, w_c_dry_8, w_c_dry_9, w_c_dry_10, w_c_dry_14, w_c_dry_15, w_c_dry_18, w_c_dry_21, w_c_dry_24, w_c_dry_25, w_c_dry_29, w_c_dry_30, w_c_dry_33, w_c_dry_36, w_c_dry_39, w_c_dry_40, w_c_dry_42, w_c_dry_44, w_c_dry_45, w_c_dry_46, w_c_dry_49, w_c_dry_51, w_c_dry_53, w_c_dry_56, w_c_dry_59, w_c_dry_60, w_c_dry_61, w_c_dry_62, w_c_dry_65, w_c_dry_66, w_c_dry_67, w_c_dry_70, w_c_dry_73, w_c_dry_76, w_c_dry_79, w_c_dry_80, w_c_dry_81, cl_0, xc_8, xpp_1 hp, hm2, lt_irr, nI_1, i10, Bool.false_eq_true, eq_self, true_or, or_true, if_true, if_false, gv_int, gv_ref, av_some, al_some, un_int, un_ref, un_mk, ok4_0, ok4_1, ok4_2, ok4_3, ok4_4, Kn_some, Kn_none, true_and, and_true]
      exact ih _ hk2
    · intro j hj ih2 hk2
      have g2 : nI j < nI C := nI_lt hj (by omega)
      have eg : (if bt (st M 6 f (A + 4) i) (nI j) then (if 0 < ldE (st M 6 f (5 + 1)) i j then ldE (st M 6 f (5 + 1)) i j else 0) else 0) = ev (wT M) (M 63) (M 65) N i j := by
        unfold ldE
        rw [hw i j hi hj, hw i i hi hi, hX.2.1.2.1.2.2.2.1 i hi, d1]
        rfl
      rw [dryI_s] at ih2
      generalize dryI (ev (wT M) (M 63) (M 65) N i) j s0 = s1 at ih2 hk2 ⊢
      obtain ⟨k, k1, k2⟩ := hk2
      obtain ⟨y, y1, y2⟩ := hev i j hi hj
      obtain ⟨st1, st2⟩ := dry_step (y := y) (k := k) (by omega) k1
      rw [w_c_dry_27]
      rw [y2, k2] at ih2
      rw [k2]
      rw [y2] at eg
      simp only [w_c_dry_0, w_c_dry_1, w_c_dry_4, w_c_dry_5, w_c_dry_8, w_c_dry_9, w_c_dry_10, w_c_dry_14, w_c_dry_15, w_c_dry_18, w_c_dry_21, w_c_dry_24, w_c_dry_25, w_c_dry_29, w_c_dry_30, w_c_dry_33, w_c_dry_36, w_c_dry_39, w_c_dry_40, w_c_dry_42, w_c_dry_44, w_c_dry_45, w_c_dry_46, w_c_dry_49, w_c_dry_51, w_c_dry_53, w_c_dry_56, w_c_dry_59, w_c_dry_60, w_c_dry_61, w_c_dry_62, w_c_dry_65, w_c_dry_66, w_c_dry_67, w_c_dry_70, w_c_dry_73, w_c_dry_76, w_c_dry_79, w_c_dry_80, w_c_dry_81, cl_0, xc_8, xpp_1 hp, hm2, g2, e_v_grudge isVV_5 hp hX.2.1.2.1.1 hi hj, eg, cl_0, cl_1, cl_3, cl_5, cl_7, cl_12, cl_15, cl_21, cl_29, zpp hp, g100, not_false_eq_true, st1, nI_1, i10, Bool.false_eq_true, eq_self, true_or, or_true, if_true, if_false, gv_int, gv_ref, av_some, al_some, un_int, un_ref, un_mk, ok4_0, ok4_1, ok4_2, ok4_3, ok4_4, Kn_some, Kn_none, true_and, and_true]
      exact ih2 st2
