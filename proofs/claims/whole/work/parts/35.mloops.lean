/-! the reference: more loops -/
theorem e_m_waysToGive {A B : Nat} {M : Mm} {Q : Po} {K c n : Nat} (h : MD M K c n) : WP 193 0 [.ref 58, mk, mk] [] (shw A B) (0, 0) M Q = Q (some (.int (nI (c ^ n)))) (shw A B) M := by
  refine WP.is (fun Q hQ => ?_)
  obtain ⟨h1, h2, h3, h4, h5, h6, h7⟩ := id h
  simp only [w_m_waysToGive_0, w_m_waysToGive_1, w_m_waysToGive_2, w_m_waysToGive_3, w_m_waysToGive_5, w_m_waysToGive_6, w_m_waysToGive_9, w_m_waysToGive_12, w_m_waysToGive_13, w_m_waysToGive_14, w_m_waysToGive_17, w_m_waysToGive_18, w_m_waysToGive_19, w_m_waysToGive_22, w_m_waysToGive_25, w_m_waysToGive_26, xm_7, xm_3, i10, Bool.false_eq_true, eq_self, true_or, or_true, if_true, if_false, gv_int, gv_ref, av_some, al_some, un_int, un_ref, un_mk, ok4_0, ok4_1, ok4_2, ok4_3, ok4_4, Kn_some, Kn_none, true_and, and_true]
  refine for_up (n := n) (P := fun k => WP 193 4 [.ref 58, .int (nI (c ^ k)), .int (nI k)] [] (shw A B) (0, 0) M Q) ?_ ?_
  · rw [w_m_waysToGive_4]
    simp only [w_m_waysToGive_0, w_m_waysToGive_1, w_m_waysToGive_2, w_m_waysToGive_3, w_m_waysToGive_5, w_m_waysToGive_6, w_m_waysToGive_9, w_m_waysToGive_12, w_m_waysToGive_13, w_m_waysToGive_14, w_m_waysToGive_17, w_m_waysToGive_18, w_m_waysToGive_19, w_m_waysToGive_22, w_m_waysToGive_25, w_m_waysToGive_26, xm_7, xm_3, h3, lt_irr, i10, Bool.false_eq_true, eq_self, true_or, or_true, if_true, if_false, gv_int, gv_ref, av_some, al_some, un_int, un_ref, un_mk, ok4_0, ok4_1, ok4_2, ok4_3, ok4_4, Kn_some, Kn_none, true_and, and_true]
    exact hQ
  · intro k hk ih
    have g1 : nI k < nI n := nI_lt hk (by omega)
    rw [w_m_waysToGive_4]
    simp only [w_m_waysToGive_0, w_m_waysToGive_1, w_m_waysToGive_2, w_m_waysToGive_3, w_m_waysToGive_5, w_m_waysToGive_6, w_m_waysToGive_9, w_m_waysToGive_12, w_m_waysToGive_13, w_m_waysToGive_14, w_m_waysToGive_17, w_m_waysToGive_18, w_m_waysToGive_19, w_m_waysToGive_22, w_m_waysToGive_25, w_m_waysToGive_26, xm_7, xm_3, h3, h2, g1, nI_1, pk_mul, i10, Bool.false_eq_true, eq_self, true_or, or_true, if_true, if_false, gv_int, gv_ref, av_some, al_some, un_int, un_ref, un_mk, ok4_0, ok4_1, ok4_2, ok4_3, ok4_4, Kn_some, Kn_none, true_and, and_true]
    rw [Nat.pow_succ] at ih
    exact ih
/-- figure j of m, written with c signs in n places -/
def dg (c n m j : Nat) : Nat := m / c ^ (n - 1 - j) % c
theorem rem_nI (a c : Nat) : nI a - nI (a / c) * nI c = nI (a % c) := by
  rw [pk_mul, pk_sub (Nat.div_mul_le_self a c)]
  congr 1
  have := Nat.div_add_mod a c
  rw [Nat.mul_comm] at this
  omega
theorem leastE_s (h : Nat → Int32) (n i : Nat) : leastE h n (i + 1) = if cntE h n i < leastE h n i then cntE h n i else leastE h n i := rfl
theorem mostE_s (h : Nat → Int32) (n i : Nat) : mostE h n (i + 1) = if mostE h n i < cntE h n i then cntE h n i else mostE h n i := rfl
theorem nI_m1 (k : Nat) : nI (k + 1) + (-1) = nI k := pk_m1 k
theorem nI_neg1 : nI 0 + (-1) = -1 := by decide
theorem e_m_giveBy {A B : Nat} {M : Mm} {Q : Po} {K c n m : Nat} (h : MD M K c n) (hc : 0 < c) (hm : m < 2 ^ 31) : WP 194 0 [.ref 58, .int (nI m), mk, mk] [] (shw A B) (0, 0) M Q = Q none (shw A B) (st M 65 (fun j => if j < n then nI (dg c n m j) else M 65 j)) := by
  refine WP.is (fun Q hQ => ?_)
  obtain ⟨h1, h2, h3, h4, h5, h6, h7⟩ := id h
  simp only [w_m_giveBy_0, w_m_giveBy_1, w_m_giveBy_2, w_m_giveBy_3, w_m_giveBy_6, w_m_giveBy_7, w_m_giveBy_8, w_m_giveBy_10, w_m_giveBy_13, w_m_giveBy_14, w_m_giveBy_17, w_m_giveBy_18, w_m_giveBy_19, w_m_giveBy_20, w_m_giveBy_23, w_m_giveBy_24, w_m_giveBy_25, w_m_giveBy_26, w_m_giveBy_27, w_m_giveBy_30, w_m_giveBy_31, w_m_giveBy_32, w_m_giveBy_35, w_m_giveBy_38, xm_7, xm_9, al_65, xm_3, h3, i10, Bool.false_eq_true, eq_self, true_or, or_true, if_true, if_false, gv_int, gv_ref, av_some, al_some, un_int, un_ref, un_mk, ok4_0, ok4_1, ok4_2, ok4_3, ok4_4, Kn_some, Kn_none, true_and, and_true]
  have g0 : ∀ k, k ≤ n → (∀ f : Nat → Int32, (∀ j, k ≤ j → j < n → f j = nI (dg c n m j)) → (∀ j, ¬ j < n → f j = M 65 j) → ∀ x : Int32, (k = 0 → x = -1) → (∀ k', k = k' + 1 → x = nI k') → WP 194 9 [.ref 58, .int (nI m), .int (nI (m / c ^ (n - k))), .int x] [] (shw A B) (0, 0) (st M 65 f) Q) := by
    intro k
    induction k with
    | zero =>
      intro hk f f1 f2 x x0 _
      rw [x0 rfl, w_m_giveBy_9]
      simp only [w_m_giveBy_0, w_m_giveBy_1, w_m_giveBy_2, w_m_giveBy_3, w_m_giveBy_6, w_m_giveBy_7, w_m_giveBy_8, w_m_giveBy_10, w_m_giveBy_13, w_m_giveBy_14, w_m_giveBy_17, w_m_giveBy_18, w_m_giveBy_19, w_m_giveBy_20, w_m_giveBy_23, w_m_giveBy_24, w_m_giveBy_25, w_m_giveBy_26, w_m_giveBy_27, w_m_giveBy_30, w_m_giveBy_31, w_m_giveBy_32, w_m_giveBy_35, w_m_giveBy_38, xm_7, xm_9, al_65, xm_3, (show ((-1 : Int32) < 0) = True by decide), i10, Bool.false_eq_true, eq_self, true_or, or_true, if_true, if_false, gv_int, gv_ref, av_some, al_some, un_int, un_ref, un_mk, ok4_0, ok4_1, ok4_2, ok4_3, ok4_4, Kn_some, Kn_none, true_and, and_true]
      have : f = fun j => if j < n then nI (dg c n m j) else M 65 j := by
        funext j
        by_cases hj : j < n
        · rw [if_pos hj]; exact f1 j (Nat.zero_le _) hj
        · rw [if_neg hj]; exact f2 j hj
      rw [this]
      exact hQ
    | succ k ih =>
      intro hk f f1 f2 x _ x1
      have g1 : (nI k < 0) = False := eq_false (nI_pos (by omega))
      have g2 : vp_in (nI k) 7 := vp_in_nI (by omega) (by decide)
      have g3 : m / c ^ (n - (k + 1)) < 2 ^ 31 := Nat.lt_of_le_of_lt (Nat.div_le_self _ _) hm
      have g4 : ¬ nI c = 0 := nI_ne0 hc (by omega)
      rw [x1 k rfl, w_m_giveBy_9]
      simp only [w_m_giveBy_0, w_m_giveBy_1, w_m_giveBy_2, w_m_giveBy_3, w_m_giveBy_6, w_m_giveBy_7, w_m_giveBy_8, w_m_giveBy_10, w_m_giveBy_13, w_m_giveBy_14, w_m_giveBy_17, w_m_giveBy_18, w_m_giveBy_19, w_m_giveBy_20, w_m_giveBy_23, w_m_giveBy_24, w_m_giveBy_25, w_m_giveBy_26, w_m_giveBy_27, w_m_giveBy_30, w_m_giveBy_31, w_m_giveBy_32, w_m_giveBy_35, w_m_giveBy_38, xm_7, xm_9, al_65, xm_3, g1, g2, nI_clamp (show k < 2 ^ 31 by omega), show st M 65 f 58 = M 58 from rfl, h2, g4, rem_nI, pk_div g3 hc (show c < 2 ^ 31 by omega), show ∀ i x, up (st M 65 f) 65 i x 58 = M 58 from fun _ _ => rfl, not_false_eq_true, i10, Bool.false_eq_true, eq_self, true_or, or_true, if_true, if_false, gv_int, gv_ref, av_some, al_some, un_int, un_ref, un_mk, ok4_0, ok4_1, ok4_2, ok4_3, ok4_4, Kn_some, Kn_none, true_and, and_true]
      rw [up_st, Nat.div_div_eq_div_mul, ← Nat.pow_succ, show (n - (k + 1)).succ = n - k by omega]
      refine ih (by omega) _ ?_ ?_ _ ?_ ?_
      · intro j hj1 hj2
        unfold upd
        by_cases hjk : j = k
        · rw [if_pos hjk, hjk]; unfold dg; rw [show n - 1 - k = n - (k + 1) by omega]
        · rw [if_neg hjk]; exact f1 j (by omega) hj2
      · intro j hj
        unfold upd
        rw [if_neg (by omega)]; exact f2 j hj
      · intro k0; rw [k0]; exact nI_neg1
      · intro k' hk'; rw [hk']; exact nI_m1 k'
  have := g0 n (Nat.le_refl n) (M 65) (fun j h1 h2 => absurd h2 (by omega)) (fun _ _ => rfl) (nI n - 1) (fun h => by rw [h]; decide) (fun k' h => by rw [h]; exact nI_pred k')
  rw [Nat.sub_self, Nat.pow_zero, Nat.div_one, st_self] at this
  exact this
theorem e_m_isEven {A B : Nat} {M : Mm} {Q : Po} {K c n : Nat} (h : MD M K c n) : WP 195 0 [.ref 58, mk, mk, mk, mk, mk] [] (shw A B) (0, 0) M Q = if evenE (M 65) n c then Q (some (.int 1)) (shw A B) M else Q (some (.int 0)) (shw A B) M := by
  refine WP.isb (fun Q hQ => ?_)
  obtain ⟨h1, h2, h3, h4, h5, h6, h7⟩ := id h
  simp only [w_m_isEven_0, w_m_isEven_3, w_m_isEven_4, w_m_isEven_5, w_m_isEven_6, w_m_isEven_7, w_m_isEven_9, w_m_isEven_10, w_m_isEven_13, w_m_isEven_16, w_m_isEven_17, w_m_isEven_19, w_m_isEven_20, w_m_isEven_24, w_m_isEven_25, w_m_isEven_28, w_m_isEven_31, w_m_isEven_33, w_m_isEven_34, w_m_isEven_37, w_m_isEven_39, w_m_isEven_40, w_m_isEven_41, w_m_isEven_44, w_m_isEven_45, w_m_isEven_48, w_m_isEven_49, w_m_isEven_50, w_m_isEven_52, w_m_isEven_55, w_m_isEven_58, w_m_isEven_60, w_m_isEven_61, w_m_isEven_64, w_m_isEven_66, w_m_isEven_69, w_m_isEven_70, w_m_isEven_71, w_m_isEven_73, w_m_isEven_74, w_m_isEven_77, w_m_isEven_79, w_m_isEven_82, w_m_isEven_83, w_m_isEven_84, w_m_isEven_87, w_m_isEven_90, w_m_isEven_91, w_m_isEven_92, w_m_isEven_93, w_m_isEven_94, w_m_isEven_97, w_m_isEven_98, w_m_isEven_101, w_m_isEven_102, xm_3, xm_7, xm_9, al_65, i10, Bool.false_eq_true, eq_self, true_or, or_true, if_true, if_false, gv_int, gv_ref, av_some, al_some, un_int, un_ref, un_mk, ok4_0, ok4_1, ok4_2, ok4_3, ok4_4, Kn_some, Kn_none, true_and, and_true]
  refine for_up (n := c) (P := fun i => ∀ j4 j5, WP 195 8 [.ref 58, .int (leastE (M 65) n i), .int (mostE (M 65) n i), .int (nI i), j4, j5] [] (shw A B) (0, 0) M Q) ?_ ?_ mk mk
  · intro j4 j5
    rw [w_m_isEven_8]
    simp only [w_m_isEven_0, w_m_isEven_3, w_m_isEven_4, w_m_isEven_5, w_m_isEven_6, w_m_isEven_7, w_m_isEven_9, w_m_isEven_10, w_m_isEven_13, w_m_isEven_16, w_m_isEven_17, w_m_isEven_19, w_m_isEven_20, w_m_isEven_24, w_m_isEven_25, w_m_isEven_28, w_m_isEven_31, w_m_isEven_33, w_m_isEven_34, w_m_isEven_37, w_m_isEven_39, w_m_isEven_40, w_m_isEven_41, w_m_isEven_44, w_m_isEven_45, w_m_isEven_48, w_m_isEven_49, w_m_isEven_50, w_m_isEven_52, w_m_isEven_55, w_m_isEven_58, w_m_isEven_60, w_m_isEven_61, w_m_isEven_64, w_m_isEven_66, w_m_isEven_69, w_m_isEven_70, w_m_isEven_71, w_m_isEven_73, w_m_isEven_74, w_m_isEven_77, w_m_isEven_79, w_m_isEven_82, w_m_isEven_83, w_m_isEven_84, w_m_isEven_87, w_m_isEven_90, w_m_isEven_91, w_m_isEven_92, w_m_isEven_93, w_m_isEven_94, w_m_isEven_97, w_m_isEven_98, w_m_isEven_101, w_m_isEven_102, xm_3, xm_7, xm_9, al_65, h2, lt_irr, i10, Bool.false_eq_true, eq_self, true_or, or_true, if_true, if_false, gv_int, gv_ref, av_some, al_some, un_int, un_ref, un_mk, ok4_0, ok4_1, ok4_2, ok4_3, ok4_4, Kn_some, Kn_none, true_and, and_true]
    unfold evenE at hQ
    simp only [decide_eq_true_eq] at hQ
    exact hQ
  · intro i hi ih j4 j5
    have g1 : nI i < nI c := nI_lt hi (by omega)
    rw [w_m_isEven_8]
    simp only [w_m_isEven_0, w_m_isEven_3, w_m_isEven_4, w_m_isEven_5, w_m_isEven_6, w_m_isEven_7, w_m_isEven_9, w_m_isEven_10, w_m_isEven_13, w_m_isEven_16, w_m_isEven_17, w_m_isEven_19, w_m_isEven_20, w_m_isEven_24, w_m_isEven_25, w_m_isEven_28, w_m_isEven_31, w_m_isEven_33, w_m_isEven_34, w_m_isEven_37, w_m_isEven_39, w_m_isEven_40, w_m_isEven_41, w_m_isEven_44, w_m_isEven_45, w_m_isEven_48, w_m_isEven_49, w_m_isEven_50, w_m_isEven_52, w_m_isEven_55, w_m_isEven_58, w_m_isEven_60, w_m_isEven_61, w_m_isEven_64, w_m_isEven_66, w_m_isEven_69, w_m_isEven_70, w_m_isEven_71, w_m_isEven_73, w_m_isEven_74, w_m_isEven_77, w_m_isEven_79, w_m_isEven_82, w_m_isEven_83, w_m_isEven_84, w_m_isEven_87, w_m_isEven_90, w_m_isEven_91, w_m_isEven_92, w_m_isEven_93, w_m_isEven_94, w_m_isEven_97, w_m_isEven_98, w_m_isEven_101, w_m_isEven_102, xm_3, xm_7, xm_9, al_65, h2, g1, i10, Bool.false_eq_true, eq_self, true_or, or_true, if_true, if_false, gv_int, gv_ref, av_some, al_some, un_int, un_ref, un_mk, ok4_0, ok4_1, ok4_2, ok4_3, ok4_4, Kn_some, Kn_none, true_and, and_true]
    refine for_up (n := n) (P := fun k => WP 195 22 [.ref 58, .int (leastE (M 65) n i), .int (mostE (M 65) n i), .int (nI i), .int (cntE (M 65) k i), .int (nI k)] [] (shw A B) (0, 0) M Q) ?_ ?_
    · rw [w_m_isEven_22]
      simp only [w_m_isEven_0, w_m_isEven_3, w_m_isEven_4, w_m_isEven_5, w_m_isEven_6, w_m_isEven_7, w_m_isEven_9, w_m_isEven_10, w_m_isEven_13, w_m_isEven_16, w_m_isEven_17, w_m_isEven_19, w_m_isEven_20, w_m_isEven_24, w_m_isEven_25, w_m_isEven_28, w_m_isEven_31, w_m_isEven_33, w_m_isEven_34, w_m_isEven_37, w_m_isEven_39, w_m_isEven_40, w_m_isEven_41, w_m_isEven_44, w_m_isEven_45, w_m_isEven_48, w_m_isEven_49, w_m_isEven_50, w_m_isEven_52, w_m_isEven_55, w_m_isEven_58, w_m_isEven_60, w_m_isEven_61, w_m_isEven_64, w_m_isEven_66, w_m_isEven_69, w_m_isEven_70, w_m_isEven_71, w_m_isEven_73, w_m_isEven_74, w_m_isEven_77, w_m_isEven_79, w_m_isEven_82, w_m_isEven_83, w_m_isEven_84, w_m_isEven_87, w_m_isEven_90, w_m_isEven_91, w_m_isEven_92, w_m_isEven_93, w_m_isEven_94, w_m_isEven_97, w_m_isEven_98, w_m_isEven_101, w_m_isEven_102, xm_3, xm_7, xm_9, al_65, h3, lt_irr, nI_1, i10, Bool.false_eq_true, eq_self, true_or, or_true, if_true, if_false, gv_int, gv_ref, av_some, al_some, un_int, un_ref, un_mk, ok4_0, ok4_1, ok4_2, ok4_3, ok4_4, Kn_some, Kn_none, true_and, and_true]
      by_cases q1 : cntE (M 65) n i < leastE (M 65) n i <;> by_cases q2 : mostE (M 65) n i < cntE (M 65) n i <;> simp only [leastE_s, mostE_s, q1, q2, if_true, if_false] at ih ⊢ <;> exact ih _ _
    · intro k hk ih2
      have g3 : nI k < nI n := nI_lt hk (by omega)
      have g2 : vp_in (nI k) 7 := vp_in_nI (by omega) (by decide)
      rw [w_m_isEven_22]
      simp only [w_m_isEven_0, w_m_isEven_3, w_m_isEven_4, w_m_isEven_5, w_m_isEven_6, w_m_isEven_7, w_m_isEven_9, w_m_isEven_10, w_m_isEven_13, w_m_isEven_16, w_m_isEven_17, w_m_isEven_19, w_m_isEven_20, w_m_isEven_24, w_m_isEven_25, w_m_isEven_28, w_m_isEven_31, w_m_isEven_33, w_m_isEven_34, w_m_isEven_37, w_m_isEven_39, w_m_isEven_40, w_m_isEven_41, w_m_isEven_44, w_m_isEven_45, w_m_isEven_48, w_m_isEven_49, w_m_isEven_50, w_m_isEven_52, w_m_isEven_55, w_m_isEven_58, w_m_isEven_60, w_m_isEven_61, w_m_isEven_64, w_m_isEven_66, w_m_isEven_69, w_m_isEven_70, w_m_isEven_71, w_m_isEven_73, w_m_isEven_74, w_m_isEven_77, w_m_isEven_79, w_m_isEven_82, w_m_isEven_83, w_m_isEven_84, w_m_isEven_87, w_m_isEven_90, w_m_isEven_91, w_m_isEven_92, w_m_isEven_93, w_m_isEven_94, w_m_isEven_97, w_m_isEven_98, w_m_isEven_101, w_m_isEven_102, xm_3, xm_7, xm_9, al_65, h3, g3, g2, nI_1, nI_clamp (show k < 2 ^ 31 by omega), i10, Bool.false_eq_true, eq_self, true_or, or_true, if_true, if_false, gv_int, gv_ref, av_some, al_some, un_int, un_ref, un_mk, ok4_0, ok4_1, ok4_2, ok4_3, ok4_4, Kn_some, Kn_none, true_and, and_true]
      simp only [cntE, lp_s] at ih2 ⊢
      split
      · rename_i q; simp only [q, if_true] at ih2; exact ih2
      · rename_i q; simp only [q, if_false] at ih2; exact ih2
/-- what is picked is a thing on the table, or nothing -/
theorem pickE_in (W : Nat → Nat → Int32) (h : Nat → Int32) (n i : Nat) : pickE W h n i = -1 ∨ ∃ j, j < n ∧ pickE W h n i = nI j ∧ h j < 0 := by
  induction n with
  | zero => exact Or.inl rfl
  | succ n ih =>
    have e : pickE W h (n + 1) i = if h n < 0 then (if pickE W h n i < 0 then nI n else if W i (pickE W h n i).toNatClampNeg < W i n then nI n else pickE W h n i) else pickE W h n i := rfl
    have keep : pickE W h n i = -1 ∨ ∃ j, j < n + 1 ∧ pickE W h n i = nI j ∧ h j < 0 := by
      rcases ih with e1 | ⟨j, h1, h2, h3⟩
      · exact Or.inl e1
      · exact Or.inr ⟨j, by omega, h2, h3⟩
    rw [e]
    split
    · rename_i q
      split
      · exact Or.inr ⟨n, by omega, rfl, q⟩
      · split
        · exact Or.inr ⟨n, by omega, rfl, q⟩
        · exact keep
    · exact keep
theorem e_m_pickOf {A B : Nat} {M : Mm} {Q : Po} {K c n i : Nat} (h : MD M K c n) (hi : i < 4) : WP 198 0 [.ref 58, .int (nI i), mk, mk, mk] [] (shw A B) (0, 0) M Q = Q (some (.int (pickE (wT M) (M 65) n i))) (shw A B) M := by
  refine WP.is (fun Q hQ => ?_)
  obtain ⟨h1, h2, h3, h4, h5, h6, h7⟩ := id h
  simp only [w_m_pickOf_0, w_m_pickOf_1, w_m_pickOf_2, w_m_pickOf_3, w_m_pickOf_5, w_m_pickOf_6, w_m_pickOf_9, w_m_pickOf_12, w_m_pickOf_13, w_m_pickOf_16, w_m_pickOf_17, w_m_pickOf_18, w_m_pickOf_19, w_m_pickOf_22, w_m_pickOf_23, w_m_pickOf_24, w_m_pickOf_27, w_m_pickOf_28, w_m_pickOf_29, w_m_pickOf_30, w_m_pickOf_33, w_m_pickOf_34, w_m_pickOf_35, w_m_pickOf_38, w_m_pickOf_41, w_m_pickOf_42, w_m_pickOf_45, w_m_pickOf_46, w_m_pickOf_48, w_m_pickOf_49, w_m_pickOf_52, w_m_pickOf_53, w_m_pickOf_54, w_m_pickOf_57, w_m_pickOf_59, w_m_pickOf_62, w_m_pickOf_63, w_m_pickOf_66, w_m_pickOf_67, w_m_pickOf_68, w_m_pickOf_71, w_m_pickOf_74, w_m_pickOf_75, xm_7, xm_8, al_64, cl_58, xm_9, al_65, i10, Bool.false_eq_true, eq_self, true_or, or_true, if_true, if_false, gv_int, gv_ref, av_some, al_some, un_int, un_ref, un_mk, ok4_0, ok4_1, ok4_2, ok4_3, ok4_4, Kn_some, Kn_none, true_and, and_true]
  refine for_up (n := n) (P := fun k => ∀ j4, WP 198 4 [.ref 58, .int (nI i), .int (pickE (wT M) (M 65) k i), .int (nI k), j4] [] (shw A B) (0, 0) M Q) ?_ ?_ mk
  · intro j4
    rw [w_m_pickOf_4]
    simp only [w_m_pickOf_0, w_m_pickOf_1, w_m_pickOf_2, w_m_pickOf_3, w_m_pickOf_5, w_m_pickOf_6, w_m_pickOf_9, w_m_pickOf_12, w_m_pickOf_13, w_m_pickOf_16, w_m_pickOf_17, w_m_pickOf_18, w_m_pickOf_19, w_m_pickOf_22, w_m_pickOf_23, w_m_pickOf_24, w_m_pickOf_27, w_m_pickOf_28, w_m_pickOf_29, w_m_pickOf_30, w_m_pickOf_33, w_m_pickOf_34, w_m_pickOf_35, w_m_pickOf_38, w_m_pickOf_41, w_m_pickOf_42, w_m_pickOf_45, w_m_pickOf_46, w_m_pickOf_48, w_m_pickOf_49, w_m_pickOf_52, w_m_pickOf_53, w_m_pickOf_54, w_m_pickOf_57, w_m_pickOf_59, w_m_pickOf_62, w_m_pickOf_63, w_m_pickOf_66, w_m_pickOf_67, w_m_pickOf_68, w_m_pickOf_71, w_m_pickOf_74, w_m_pickOf_75, xm_7, xm_8, al_64, cl_58, xm_9, al_65, h3, lt_irr, i10, Bool.false_eq_true, eq_self, true_or, or_true, if_true, if_false, gv_int, gv_ref, av_some, al_some, un_int, un_ref, un_mk, ok4_0, ok4_1, ok4_2, ok4_3, ok4_4, Kn_some, Kn_none, true_and, and_true]
    exact hQ
  · intro k hk ih j4
    have g1 : nI k < nI n := nI_lt hk (by omega)
    have g2 : vp_in (nI k) 7 := vp_in_nI (by omega) (by decide)
    have g4 := kN_ok h (show k < 7 by omega)
    rw [w_m_pickOf_4]
    have e : pickE (wT M) (M 65) (k + 1) i = if M 65 k < 0 then (if pickE (wT M) (M 65) k i < 0 then nI k else if wT M i (pickE (wT M) (M 65) k i).toNatClampNeg < wT M i k then nI k else pickE (wT M) (M 65) k i) else pickE (wT M) (M 65) k i := rfl
    simp only [e] at ih
    rcases pickE_in (wT M) (M 65) k i with p | ⟨j, p1, p2, p3⟩
    · rw [p] at ih ⊢
      simp only [w_m_pickOf_0, w_m_pickOf_1, w_m_pickOf_2, w_m_pickOf_3, w_m_pickOf_5, w_m_pickOf_6, w_m_pickOf_9, w_m_pickOf_12, w_m_pickOf_13, w_m_pickOf_16, w_m_pickOf_17, w_m_pickOf_18, w_m_pickOf_19, w_m_pickOf_22, w_m_pickOf_23, w_m_pickOf_24, w_m_pickOf_27, w_m_pickOf_28, w_m_pickOf_29, w_m_pickOf_30, w_m_pickOf_33, w_m_pickOf_34, w_m_pickOf_35, w_m_pickOf_38, w_m_pickOf_41, w_m_pickOf_42, w_m_pickOf_45, w_m_pickOf_46, w_m_pickOf_48, w_m_pickOf_49, w_m_pickOf_52, w_m_pickOf_53, w_m_pickOf_54, w_m_pickOf_57, w_m_pickOf_59, w_m_pickOf_62, w_m_pickOf_63, w_m_pickOf_66, w_m_pickOf_67, w_m_pickOf_68, w_m_pickOf_71, w_m_pickOf_74, w_m_pickOf_75, xm_7, xm_8, al_64, cl_58, xm_9, al_65, h3, g1, g2, nI_1, nI_clamp (show k < 2 ^ 31 by omega), (show ((-1 : Int32) < 0) = True by decide), i10, Bool.false_eq_true, eq_self, true_or, or_true, if_true, if_false, gv_int, gv_ref, av_some, al_some, un_int, un_ref, un_mk, ok4_0, ok4_1, ok4_2, ok4_3, ok4_4, Kn_some, Kn_none, true_and, and_true]
      by_cases q : M 65 k < 0
      · simp only [q, if_true, (show ((-1 : Int32) < 0) = True by decide)] at ih ⊢; exact ih _
      · simp only [q, if_false] at ih ⊢; exact ih _
    · rw [p2] at ih ⊢
      have g5 := kN_ok h (show j < 7 by omega)
      have g6 : vp_in (nI j) 7 := vp_in_nI (by omega) (by decide)
      have g7 : (nI j < 0) = False := eq_false (nI_pos (by omega))
      simp only [w_m_pickOf_0, w_m_pickOf_1, w_m_pickOf_2, w_m_pickOf_3, w_m_pickOf_5, w_m_pickOf_6, w_m_pickOf_9, w_m_pickOf_12, w_m_pickOf_13, w_m_pickOf_16, w_m_pickOf_17, w_m_pickOf_18, w_m_pickOf_19, w_m_pickOf_22, w_m_pickOf_23, w_m_pickOf_24, w_m_pickOf_27, w_m_pickOf_28, w_m_pickOf_29, w_m_pickOf_30, w_m_pickOf_33, w_m_pickOf_34, w_m_pickOf_35, w_m_pickOf_38, w_m_pickOf_41, w_m_pickOf_42, w_m_pickOf_45, w_m_pickOf_46, w_m_pickOf_48, w_m_pickOf_49, w_m_pickOf_52, w_m_pickOf_53, w_m_pickOf_54, w_m_pickOf_57, w_m_pickOf_59, w_m_pickOf_62, w_m_pickOf_63, w_m_pickOf_66, w_m_pickOf_67, w_m_pickOf_68, w_m_pickOf_71, w_m_pickOf_74, w_m_pickOf_75, xm_7, xm_8, al_64, cl_58, xm_9, al_65, h3, g1, g2, g6, g7, nI_1, nI_clamp (show k < 2 ^ 31 by omega), nI_clamp (show j < 2 ^ 31 by omega), g4.2, g5.2, e_m_worthOf hi g4.1, e_m_worthOf hi g5.1, cl_58, i10, Bool.false_eq_true, eq_self, true_or, or_true, if_true, if_false, gv_int, gv_ref, av_some, al_some, un_int, un_ref, un_mk, ok4_0, ok4_1, ok4_2, ok4_3, ok4_4, Kn_some, Kn_none, true_and, and_true]
      simp only [g7, if_false, nI_clamp (show j < 2 ^ 31 by omega)] at ih
      change ∀ j4, _ at ih
      simp only [wT] at ih
      by_cases q : wN M i (kN M j) < wN M i (kN M k)
      · simp only [q, if_true] at ih ⊢
        by_cases q2 : M 65 k < 0
        · simp only [q2, if_true] at ih ⊢; exact ih _
        · simp only [q2, if_false] at ih ⊢; exact ih _
      · simp only [q, if_false] at ih ⊢
        by_cases q2 : M 65 k < 0
        · simp only [q2, if_true] at ih ⊢; exact ih _
        · simp only [q2, if_false] at ih ⊢; exact ih _
