/-! the component: the notebook -/
theorem e_n_clear {A B : Nat} {M : Mm} {Q : Po} : WP 20 0 [.ref 12] [] (shw A B) (0, 0) M Q = Q none (shw A B) (up (up (up (up M 12 0 0) 12 1 0) 12 2 0) 12 5 0) := by
  simp only [w_n_clear_0, w_n_clear_1, w_n_clear_2, w_n_clear_5, w_n_clear_6, w_n_clear_7, w_n_clear_10, w_n_clear_11, w_n_clear_12, w_n_clear_15, w_n_clear_16, w_n_clear_17, w_n_clear_20, xn_0, xn_1, xn_2, xn_5, i10, Bool.false_eq_true, eq_self, true_or, or_true, if_true, if_false, gv_int, gv_ref, av_some, al_some, un_int, un_ref, un_mk, ok4_0, ok4_1, ok4_2, ok4_3, ok4_4, Kn_some, Kn_none, true_and, and_true]
theorem e_n_sights {A B : Nat} {M : Mm} {Q : Po} : WP 21 0 [.ref 12] [] (shw A B) (0, 0) M Q = Q (some (.int (M 12 0))) (shw A B) M := by
  simp only [w_n_sights_0, w_n_sights_1, w_n_sights_4, xn_0, i10, Bool.false_eq_true, eq_self, true_or, or_true, if_true, if_false, gv_int, gv_ref, av_some, al_some, un_int, un_ref, un_mk, ok4_0, ok4_1, ok4_2, ok4_3, ok4_4, Kn_some, Kn_none, true_and, and_true]
theorem e_n_entries {A B : Nat} {M : Mm} {Q : Po} : WP 24 0 [.ref 12] [] (shw A B) (0, 0) M Q = Q (some (.int (M 12 5))) (shw A B) M := by
  simp only [w_n_entries_0, w_n_entries_1, w_n_entries_4, xn_5, i10, Bool.false_eq_true, eq_self, true_or, or_true, if_true, if_false, gv_int, gv_ref, av_some, al_some, un_int, un_ref, un_mk, ok4_0, ok4_1, ok4_2, ok4_3, ok4_4, Kn_some, Kn_none, true_and, and_true]
def ptB (i j : Nat) : Int32 := 1 <<< (nI (i * 4 + j) &&& 31)
theorem e_n_addSight {A B i j : Nat} {M : Mm} {Q : Po} {b : Int32} : WP 22 0 [.ref 12, .int (nI i), .int (nI j), .int b, mk] [] (shw A B) (0, 0) M Q = Q none (shw A B) (up (if b = 0 then up M 12 2 (M 12 2 ||| ptB i j) else up M 12 1 (M 12 1 ||| ptB i j)) 12 0 (M 12 0 + 1)) := by
  unfold ptB
  by_cases q : b = 0
  · simp only [w_n_addSight_0, w_n_addSight_1, w_n_addSight_2, w_n_addSight_5, w_n_addSight_7, w_n_addSight_8, w_n_addSight_11, w_n_addSight_12, w_n_addSight_13, w_n_addSight_16, w_n_addSight_18, w_n_addSight_19, w_n_addSight_22, w_n_addSight_25, w_n_addSight_26, w_n_addSight_27, w_n_addSight_30, w_n_addSight_32, w_n_addSight_33, w_n_addSight_36, w_n_addSight_37, w_n_addSight_38, w_n_addSight_41, w_n_addSight_42, w_n_addSight_43, w_n_addSight_46, xn_1, xn_2, xn_0, e_v_pairBit, q, show ∀ x, up M 12 2 x 12 0 = M 12 0 from fun _ => rfl, i10, Bool.false_eq_true, eq_self, true_or, or_true, if_true, if_false, gv_int, gv_ref, av_some, al_some, un_int, un_ref, un_mk, ok4_0, ok4_1, ok4_2, ok4_3, ok4_4, Kn_some, Kn_none, true_and, and_true]
  · simp only [w_n_addSight_0, w_n_addSight_1, w_n_addSight_2, w_n_addSight_5, w_n_addSight_7, w_n_addSight_8, w_n_addSight_11, w_n_addSight_12, w_n_addSight_13, w_n_addSight_16, w_n_addSight_18, w_n_addSight_19, w_n_addSight_22, w_n_addSight_25, w_n_addSight_26, w_n_addSight_27, w_n_addSight_30, w_n_addSight_32, w_n_addSight_33, w_n_addSight_36, w_n_addSight_37, w_n_addSight_38, w_n_addSight_41, w_n_addSight_42, w_n_addSight_43, w_n_addSight_46, xn_1, xn_2, xn_0, e_v_pairBit, eq_false q, show ∀ x, up M 12 1 x 12 0 = M 12 0 from fun _ => rfl, i10, Bool.false_eq_true, eq_self, true_or, or_true, if_true, if_false, gv_int, gv_ref, av_some, al_some, un_int, un_ref, un_mk, ok4_0, ok4_1, ok4_2, ok4_3, ok4_4, Kn_some, Kn_none, true_and, and_true]
theorem e_n_fits {A B : Nat} {M : Mm} {Q : Po} {x : Int32} : WP 23 0 [.ref 12, .int x] [] (shw A B) (0, 0) M Q = if x &&& M 12 1 = M 12 1 ∧ x &&& M 12 2 = 0 then Q (some (.int 1)) (shw A B) M else Q (some (.int 0)) (shw A B) M := by
  simp only [w_n_fits_0, w_n_fits_1, w_n_fits_2, w_n_fits_5, w_n_fits_6, w_n_fits_7, w_n_fits_10, w_n_fits_13, w_n_fits_14, w_n_fits_15, w_n_fits_18, w_n_fits_19, w_n_fits_22, w_n_fits_23, w_n_fits_26, w_n_fits_27, xn_1, xn_2, i10, Bool.false_eq_true, eq_self, true_or, or_true, if_true, if_false, gv_int, gv_ref, av_some, al_some, un_int, un_ref, un_mk, ok4_0, ok4_1, ok4_2, ok4_3, ok4_4, Kn_some, Kn_none, true_and, and_true]
  by_cases q : x &&& M 12 1 = M 12 1 <;> by_cases r : x &&& M 12 2 = 0 <;> simp [q, r]
theorem e_n_addEntry {A B b : Nat} {M : Mm} {Q : Po} {t c : Int32} (hb : M 12 5 = nI b) (h15 : b < 15) : WP 25 0 [.ref 12, .int t, .int c] [] (shw A B) (0, 0) M Q = Q none (shw A B) (up (up (up M 13 b t) 14 b c) 12 5 (nI (b + 1))) := by
  have g1 : nI b < 15 := nI_lt (b := 15) h15 (by decide)
  have g2 : vp_in (nI b) 15 := vp_in_nI h15 (by decide)
  simp only [w_n_addEntry_0, w_n_addEntry_1, w_n_addEntry_4, w_n_addEntry_6, w_n_addEntry_9, w_n_addEntry_10, w_n_addEntry_13, w_n_addEntry_14, w_n_addEntry_17, w_n_addEntry_18, w_n_addEntry_19, w_n_addEntry_20, w_n_addEntry_23, w_n_addEntry_24, w_n_addEntry_27, w_n_addEntry_28, w_n_addEntry_29, w_n_addEntry_30, w_n_addEntry_31, w_n_addEntry_34, w_n_addEntry_35, w_n_addEntry_36, w_n_addEntry_39, xn_5, xn_3, al_13, xn_4, al_14, hb, g1, g2, nI_clamp (show b < 2 ^ 31 by omega), show ∀ x, up M 13 b x 12 5 = nI b from fun _ => hb, show ∀ x y, up (up M 13 b x) 14 b y 12 5 = nI b from fun _ _ => hb, nI_1, i10, Bool.false_eq_true, eq_self, true_or, or_true, if_true, if_false, gv_int, gv_ref, av_some, al_some, un_int, un_ref, un_mk, ok4_0, ok4_1, ok4_2, ok4_3, ok4_4, Kn_some, Kn_none, true_and, and_true]
theorem e_n_firstWrong {A B o b : Nat} {M : Mm} {Q : Po} (ho : isHH o) (hb : M 12 5 = nI b) (h15 : b ≤ 15) (ht : ∀ k, k < b → ∃ t, t < 7 ∧ M 13 k = nI t) : WP 26 0 [.ref 12, .ref o, mk] [] (shw A B) (0, 0) M Q = Q (some (.int (jdE (M (o + 1)) (M 13) (M 14) b 0))) (shw A B) M := by
  refine WP.is (fun Q hQ => ?_)
  have key : ∀ f k, k + f = b → jdE (M (o + 1)) (M 13) (M 14) f k = jdE (M (o + 1)) (M 13) (M 14) b 0 → WP 26 2 [.ref 12, .ref o, .int (nI k)] [] (shw A B) (0, 0) M Q := by
    intro f
    induction f with
    | zero =>
      intro k hk e
      have hk : k = b := hk
      subst hk
      rw [← e] at hQ
      rw [w_n_firstWrong_2]
      simp only [w_n_firstWrong_0, w_n_firstWrong_1, w_n_firstWrong_3, w_n_firstWrong_4, w_n_firstWrong_7, w_n_firstWrong_10, w_n_firstWrong_11, w_n_firstWrong_12, w_n_firstWrong_15, w_n_firstWrong_16, w_n_firstWrong_17, w_n_firstWrong_20, w_n_firstWrong_21, w_n_firstWrong_24, w_n_firstWrong_25, w_n_firstWrong_26, w_n_firstWrong_29, w_n_firstWrong_30, w_n_firstWrong_31, w_n_firstWrong_34, w_n_firstWrong_37, w_n_firstWrong_38, xn_5, xn_3, al_13, xn_4, al_14, hb, lt_irr, i10, Bool.false_eq_true, eq_self, true_or, or_true, if_true, if_false, gv_int, gv_ref, av_some, al_some, un_int, un_ref, un_mk, ok4_0, ok4_1, ok4_2, ok4_3, ok4_4, Kn_some, Kn_none, true_and, and_true]
      exact hQ
    | succ f ih =>
      intro k hk e
      have g1 : nI k < nI b := nI_lt (by omega) (by omega)
      have g2 : vp_in (nI k) 15 := vp_in_nI (by omega) (by decide)
      obtain ⟨t, t1, t2⟩ := ht k (by omega)
      rw [jdE, t2, nI_clamp (show t < 2 ^ 31 by omega)] at e
      rw [w_n_firstWrong_2]
      by_cases q : M (o + 1) t = M 14 k
      · rw [if_pos q] at e
        simp only [w_n_firstWrong_0, w_n_firstWrong_1, w_n_firstWrong_3, w_n_firstWrong_4, w_n_firstWrong_7, w_n_firstWrong_10, w_n_firstWrong_11, w_n_firstWrong_12, w_n_firstWrong_15, w_n_firstWrong_16, w_n_firstWrong_17, w_n_firstWrong_20, w_n_firstWrong_21, w_n_firstWrong_24, w_n_firstWrong_25, w_n_firstWrong_26, w_n_firstWrong_29, w_n_firstWrong_30, w_n_firstWrong_31, w_n_firstWrong_34, w_n_firstWrong_37, w_n_firstWrong_38, xn_5, xn_3, al_13, xn_4, al_14, hb, g1, g2, nI_clamp (show k < 2 ^ 31 by omega), t2, e_h_holderOf ho t1, zhh ho, q, nI_1, i10, Bool.false_eq_true, eq_self, true_or, or_true, if_true, if_false, gv_int, gv_ref, av_some, al_some, un_int, un_ref, un_mk, ok4_0, ok4_1, ok4_2, ok4_3, ok4_4, Kn_some, Kn_none, true_and, and_true]
        exact ih (k + 1) (by omega) e
      · rw [if_neg q] at e
        rw [← e] at hQ
        simp only [w_n_firstWrong_0, w_n_firstWrong_1, w_n_firstWrong_3, w_n_firstWrong_4, w_n_firstWrong_7, w_n_firstWrong_10, w_n_firstWrong_11, w_n_firstWrong_12, w_n_firstWrong_15, w_n_firstWrong_16, w_n_firstWrong_17, w_n_firstWrong_20, w_n_firstWrong_21, w_n_firstWrong_24, w_n_firstWrong_25, w_n_firstWrong_26, w_n_firstWrong_29, w_n_firstWrong_30, w_n_firstWrong_31, w_n_firstWrong_34, w_n_firstWrong_37, w_n_firstWrong_38, xn_5, xn_3, al_13, xn_4, al_14, hb, g1, g2, nI_clamp (show k < 2 ^ 31 by omega), t2, e_h_holderOf ho t1, zhh ho, eq_false q, i10, Bool.false_eq_true, eq_self, true_or, or_true, if_true, if_false, gv_int, gv_ref, av_some, al_some, un_int, un_ref, un_mk, ok4_0, ok4_1, ok4_2, ok4_3, ok4_4, Kn_some, Kn_none, true_and, and_true]
        exact hQ
  simp only [w_n_firstWrong_0, w_n_firstWrong_1, w_n_firstWrong_3, w_n_firstWrong_4, w_n_firstWrong_7, w_n_firstWrong_10, w_n_firstWrong_11, w_n_firstWrong_12, w_n_firstWrong_15, w_n_firstWrong_16, w_n_firstWrong_17, w_n_firstWrong_20, w_n_firstWrong_21, w_n_firstWrong_24, w_n_firstWrong_25, w_n_firstWrong_26, w_n_firstWrong_29, w_n_firstWrong_30, w_n_firstWrong_31, w_n_firstWrong_34, w_n_firstWrong_37, w_n_firstWrong_38, xn_5, xn_3, al_13, xn_4, al_14, i10, Bool.false_eq_true, eq_self, true_or, or_true, if_true, if_false, gv_int, gv_ref, av_some, al_some, un_int, un_ref, un_mk, ok4_0, ok4_1, ok4_2, ok4_3, ok4_4, Kn_some, Kn_none, true_and, and_true]
  exact key b 0 (by omega) rfl
