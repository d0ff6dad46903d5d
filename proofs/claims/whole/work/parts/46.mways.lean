/-! the reference: all ways that fit -/
def FWm (X : Mm) (fit : Int32) (env sur h : Nat → Int32) : Mm := fun a => if a = 65 then h else if a = 79 then sur else if a = 80 then env else if a = 58 then upd (X 58) 34 fit else X a
theorem FW_sur (X : Mm) (fit : Int32) (env sur h : Nat → Int32) (k : Nat) (x : Int32) : up (FWm X fit env sur h) 79 k x = FWm X fit env (upd sur k x) h := by
  funext a; unfold up FWm
  by_cases q : a = 79
  · subst q; rfl
  · rw [if_neg q]; by_cases q1 : a = 65
    · subst q1; rfl
    · rw [if_neg q1, if_neg q, if_neg q1, if_neg q]
theorem FW_env (X : Mm) (fit : Int32) (env sur h : Nat → Int32) (k : Nat) (x : Int32) : up (FWm X fit env sur h) 80 k x = FWm X fit (upd env k x) sur h := by
  funext a; unfold up FWm
  by_cases q : a = 80
  · subst q; rfl
  · rw [if_neg q]; by_cases q1 : a = 65
    · subst q1; rfl
    · by_cases q2 : a = 79
      · subst q2; rfl
      · rw [if_neg q1, if_neg q2, if_neg q, if_neg q1, if_neg q2, if_neg q]
theorem FW_fit (X : Mm) (fit : Int32) (env sur h : Nat → Int32) (x : Int32) : up (FWm X fit env sur h) 58 34 x = FWm X x env sur h := by
  funext a; unfold up FWm
  by_cases q : a = 58
  · subst q
    funext j
    show upd (upd (X 58) 34 fit) 34 x j = upd (X 58) 34 x j
    unfold upd; split <;> rfl
  · rw [if_neg q]
    by_cases q1 : a = 65
    · subst q1; rfl
    · by_cases q2 : a = 79
      · subst q2; rfl
      · by_cases q3 : a = 80
        · subst q3; rfl
        · rw [if_neg q1, if_neg q2, if_neg q3, if_neg q, if_neg q1, if_neg q2, if_neg q3, if_neg q]
theorem FW_now (X : Mm) (fit : Int32) (env sur h g : Nat → Int32) : st (FWm X fit env sur h) 65 g = FWm X fit env sur g := by
  funext a; unfold st FWm
  by_cases q : a = 65
  · subst q; rfl
  · rw [if_neg q, if_neg q, if_neg q]
def surF (f n : Nat) (sur h : Nat → Int32) : Nat → Int32 := fun t => if t < n then (if f = 0 ∨ sur t = h t then h t else 4) else sur t
def envF (c : Nat) (E : Nat → Nat → Int32) (env : Nat → Int32) (n : Nat) : Nat → Int32 := fun k => if k < n then env k + (if k / 4 < c then (if k % 4 < c then (if 0 < E (k / 4) (k % 4) then 1 else 0) else 0) else 0) else env k
theorem surF_s {f k : Nat} {sur h : Nat → Int32} : upd (surF f k sur h) k (if f = 0 ∨ sur k = h k then h k else 4) = surF f (k + 1) sur h := by
  funext j; simp only [upd, surF]
  by_cases q : j = k
  · subst q; rw [if_pos rfl, if_pos (show j < j + 1 by omega)]
  · rw [if_neg q]
    by_cases q2 : j < k
    · rw [if_pos q2, if_pos (show j < k + 1 by omega)]
    · rw [if_neg q2, if_neg (show ¬ j < k + 1 by omega)]
theorem envF_s {c k : Nat} {E : Nat → Nat → Int32} {env : Nat → Int32} : upd (envF c E env k) k (env k + (if k / 4 < c then (if k % 4 < c then (if 0 < E (k / 4) (k % 4) then 1 else 0) else 0) else 0)) = envF c E env (k + 1) := by
  funext j; simp only [upd, envF]
  by_cases q : j = k
  · subst q; rw [if_pos rfl, if_pos (show j < j + 1 by omega)]
  · rw [if_neg q]
    by_cases q2 : j < k
    · rw [if_pos q2, if_pos (show j < k + 1 by omega)]
    · rw [if_neg q2, if_neg (show ¬ j < k + 1 by omega)]
theorem d4 {k : Nat} (h : k < 2 ^ 31) : nI k / 4 = nI (k / 4) := pk_div h (by decide) (by decide)
theorem r4 (k : Nat) : nI k - nI (k / 4) * 4 = nI (k % 4) := rem_nI k 4
theorem e_m_countWay {A B : Nat} {X : Mm} {Q : Po} {K c n f : Nat} {env sur h : Nat → Int32} (hd : MD X K c n) (hf : f < 2 ^ 30) : WP 210 0 [.ref 58, mk] [] (shw A B) (0, 0) (FWm X (nI f) env sur h) Q = Q none (shw A B) (FWm X (nI (f + 1)) (envF c (ev (wT X) (X 63) h n) env 16) (surF f n sur h) h) := by
  refine WP.is (fun Q hQ => ?_)
  obtain ⟨h1, h2, h3, h4, h5, h6, h7⟩ := id hd
  have tail : ∀ x, WP 210 54 [.ref 58, x] [] (shw A B) (0, 0) (FWm X (nI f) env (surF f n sur h) h) Q := by
    intro x
    simp only [w_m_countWay_0, w_m_countWay_1, w_m_countWay_3, w_m_countWay_4, w_m_countWay_7, w_m_countWay_10, w_m_countWay_11, w_m_countWay_14, w_m_countWay_15, w_m_countWay_16, w_m_countWay_19, w_m_countWay_22, w_m_countWay_23, w_m_countWay_26, w_m_countWay_27, w_m_countWay_28, w_m_countWay_29, w_m_countWay_32, w_m_countWay_33, w_m_countWay_34, w_m_countWay_37, w_m_countWay_38, w_m_countWay_41, w_m_countWay_42, w_m_countWay_43, w_m_countWay_46, w_m_countWay_47, w_m_countWay_48, w_m_countWay_51, w_m_countWay_54, w_m_countWay_55, w_m_countWay_57, w_m_countWay_59, w_m_countWay_62, w_m_countWay_63, w_m_countWay_66, w_m_countWay_67, w_m_countWay_68, w_m_countWay_69, w_m_countWay_70, w_m_countWay_71, w_m_countWay_72, w_m_countWay_73, w_m_countWay_76, w_m_countWay_79, w_m_countWay_80, w_m_countWay_81, w_m_countWay_82, w_m_countWay_83, w_m_countWay_86, w_m_countWay_89, w_m_countWay_90, w_m_countWay_91, w_m_countWay_92, w_m_countWay_93, w_m_countWay_94, w_m_countWay_95, w_m_countWay_96, w_m_countWay_99, w_m_countWay_102, w_m_countWay_103, w_m_countWay_106, w_m_countWay_107, w_m_countWay_108, w_m_countWay_109, w_m_countWay_112, w_m_countWay_115, w_m_countWay_116, w_m_countWay_117, w_m_countWay_120, w_m_countWay_121, w_m_countWay_122, w_m_countWay_125, xm_7, xm_35, al_79, xm_34, xm_9, al_65, xm_36, al_80, xm_3, cl_58, i10, Bool.false_eq_true, eq_self, true_or, or_true, if_true, if_false, gv_int, gv_ref, av_some, al_some, un_int, un_ref, un_mk, ok4_0, ok4_1, ok4_2, ok4_3, ok4_4, Kn_some, Kn_none, true_and, and_true]
    have := for_up (n := 16) (P := fun k => WP 210 56 [.ref 58, .int (nI k)] [] (shw A B) (0, 0) (FWm X (nI f) (envF c (ev (wT X) (X 63) h n) env k) (surF f n sur h) h) Q) ?_ ?_
    · rw [show envF c (ev (wT X) (X 63) h n) env 0 = env from by funext j; unfold envF; rw [if_neg (by omega)]] at this
      exact this
    · rw [w_m_countWay_56]
      simp only [w_m_countWay_0, w_m_countWay_1, w_m_countWay_3, w_m_countWay_4, w_m_countWay_7, w_m_countWay_10, w_m_countWay_11, w_m_countWay_14, w_m_countWay_15, w_m_countWay_16, w_m_countWay_19, w_m_countWay_22, w_m_countWay_23, w_m_countWay_26, w_m_countWay_27, w_m_countWay_28, w_m_countWay_29, w_m_countWay_32, w_m_countWay_33, w_m_countWay_34, w_m_countWay_37, w_m_countWay_38, w_m_countWay_41, w_m_countWay_42, w_m_countWay_43, w_m_countWay_46, w_m_countWay_47, w_m_countWay_48, w_m_countWay_51, w_m_countWay_54, w_m_countWay_55, w_m_countWay_57, w_m_countWay_59, w_m_countWay_62, w_m_countWay_63, w_m_countWay_66, w_m_countWay_67, w_m_countWay_68, w_m_countWay_69, w_m_countWay_70, w_m_countWay_71, w_m_countWay_72, w_m_countWay_73, w_m_countWay_76, w_m_countWay_79, w_m_countWay_80, w_m_countWay_81, w_m_countWay_82, w_m_countWay_83, w_m_countWay_86, w_m_countWay_89, w_m_countWay_90, w_m_countWay_91, w_m_countWay_92, w_m_countWay_93, w_m_countWay_94, w_m_countWay_95, w_m_countWay_96, w_m_countWay_99, w_m_countWay_102, w_m_countWay_103, w_m_countWay_106, w_m_countWay_107, w_m_countWay_108, w_m_countWay_109, w_m_countWay_112, w_m_countWay_115, w_m_countWay_116, w_m_countWay_117, w_m_countWay_120, w_m_countWay_121, w_m_countWay_122, w_m_countWay_125, xm_7, xm_35, al_79, xm_34, xm_9, al_65, xm_36, al_80, xm_3, cl_58, (show (nI 16 < 16) = False by decide), show ∀ a b c d e, FWm a b c d e 58 34 = b from fun _ _ _ _ _ => rfl, nI_1, FW_fit, i10, Bool.false_eq_true, eq_self, true_or, or_true, if_true, if_false, gv_int, gv_ref, av_some, al_some, un_int, un_ref, un_mk, ok4_0, ok4_1, ok4_2, ok4_3, ok4_4, Kn_some, Kn_none, true_and, and_true]
      exact hQ
    · intro k hk ih
      have g1 : (nI k < 16) = True := eq_true (nI_lt hk (by decide))
      have g2 : vp_in (nI k) 16 := vp_in_nI hk (by decide)
      have g3 : ¬ (4 : Int32) = 0 := by decide
      rw [← envF_s] at ih
      have ee : envF c (ev (wT X) (X 63) h n) env k k = env k := by unfold envF; rw [if_neg (by omega)]
      rw [w_m_countWay_56]
      by_cases q1 : k / 4 < c
      · have p1 : (nI (k / 4) < nI c) = True := eq_true (nI_lt q1 (by omega))
        by_cases q2 : k % 4 < c
        · have p2 : (nI (k % 4) < nI c) = True := eq_true (nI_lt q2 (by omega))
          simp only [q1, q2, if_true] at ih
          simp only [w_m_countWay_0, w_m_countWay_1, w_m_countWay_3, w_m_countWay_4, w_m_countWay_7, w_m_countWay_10, w_m_countWay_11, w_m_countWay_14, w_m_countWay_15, w_m_countWay_16, w_m_countWay_19, w_m_countWay_22, w_m_countWay_23, w_m_countWay_26, w_m_countWay_27, w_m_countWay_28, w_m_countWay_29, w_m_countWay_32, w_m_countWay_33, w_m_countWay_34, w_m_countWay_37, w_m_countWay_38, w_m_countWay_41, w_m_countWay_42, w_m_countWay_43, w_m_countWay_46, w_m_countWay_47, w_m_countWay_48, w_m_countWay_51, w_m_countWay_54, w_m_countWay_55, w_m_countWay_57, w_m_countWay_59, w_m_countWay_62, w_m_countWay_63, w_m_countWay_66, w_m_countWay_67, w_m_countWay_68, w_m_countWay_69, w_m_countWay_70, w_m_countWay_71, w_m_countWay_72, w_m_countWay_73, w_m_countWay_76, w_m_countWay_79, w_m_countWay_80, w_m_countWay_81, w_m_countWay_82, w_m_countWay_83, w_m_countWay_86, w_m_countWay_89, w_m_countWay_90, w_m_countWay_91, w_m_countWay_92, w_m_countWay_93, w_m_countWay_94, w_m_countWay_95, w_m_countWay_96, w_m_countWay_99, w_m_countWay_102, w_m_countWay_103, w_m_countWay_106, w_m_countWay_107, w_m_countWay_108, w_m_countWay_109, w_m_countWay_112, w_m_countWay_115, w_m_countWay_116, w_m_countWay_117, w_m_countWay_120, w_m_countWay_121, w_m_countWay_122, w_m_countWay_125, xm_7, xm_35, al_79, xm_34, xm_9, al_65, xm_36, al_80, xm_3, cl_58, g1, g2, g3, not_false_eq_true, nI_clamp (show k < 2 ^ 31 by omega), d4 (show k < 2 ^ 31 by omega), r4, show ∀ b c' d e, FWm X b c' d e 58 3 = nI c from fun _ _ _ _ => h2, p1, p2, e_m_envyOf (show MD (FWm X (nI f) (envF c (ev (wT X) (X 63) h n) env k) (surF f n sur h) h) K c n from hd) (show k / 4 < 4 by omega), cl_58, show wT (FWm X (nI f) (envF c (ev (wT X) (X 63) h n) env k) (surF f n sur h) h) = wT X from rfl, show ∀ b c' d e, FWm X b c' d e 63 = X 63 from fun _ _ _ _ => rfl, show ∀ b c' d e, FWm X b c' d e 65 = e from fun _ _ _ _ => rfl, show ∀ b c' d e, FWm X b c' d e 80 = c' from fun _ _ _ _ => rfl, ee, FW_env, nI_1, i10, Bool.false_eq_true, eq_self, true_or, or_true, if_true, if_false, gv_int, gv_ref, av_some, al_some, un_int, un_ref, un_mk, ok4_0, ok4_1, ok4_2, ok4_3, ok4_4, Kn_some, Kn_none, true_and, and_true]
          by_cases q3 : 0 < ev (wT X) (X 63) h n (k / 4) (k % 4)
          · simp only [q3, if_true] at ih ⊢; exact ih
          · simp only [q3, if_false] at ih ⊢; exact ih
        · have p2 : (nI (k % 4) < nI c) = False := eq_false (nI_nlt (by omega) (by omega))
          simp only [q1, q2, if_true, if_false] at ih
          simp only [w_m_countWay_0, w_m_countWay_1, w_m_countWay_3, w_m_countWay_4, w_m_countWay_7, w_m_countWay_10, w_m_countWay_11, w_m_countWay_14, w_m_countWay_15, w_m_countWay_16, w_m_countWay_19, w_m_countWay_22, w_m_countWay_23, w_m_countWay_26, w_m_countWay_27, w_m_countWay_28, w_m_countWay_29, w_m_countWay_32, w_m_countWay_33, w_m_countWay_34, w_m_countWay_37, w_m_countWay_38, w_m_countWay_41, w_m_countWay_42, w_m_countWay_43, w_m_countWay_46, w_m_countWay_47, w_m_countWay_48, w_m_countWay_51, w_m_countWay_54, w_m_countWay_55, w_m_countWay_57, w_m_countWay_59, w_m_countWay_62, w_m_countWay_63, w_m_countWay_66, w_m_countWay_67, w_m_countWay_68, w_m_countWay_69, w_m_countWay_70, w_m_countWay_71, w_m_countWay_72, w_m_countWay_73, w_m_countWay_76, w_m_countWay_79, w_m_countWay_80, w_m_countWay_81, w_m_countWay_82, w_m_countWay_83, w_m_countWay_86, w_m_countWay_89, w_m_countWay_90, w_m_countWay_91, w_m_countWay_92, w_m_countWay_93, w_m_countWay_94, w_m_countWay_95, w_m_countWay_96, w_m_countWay_99, w_m_countWay_102, w_m_countWay_103, w_m_countWay_106, w_m_countWay_107, w_m_countWay_108, w_m_countWay_109, w_m_countWay_112, w_m_countWay_115, w_m_countWay_116, w_m_countWay_117, w_m_countWay_120, w_m_countWay_121, w_m_countWay_122, w_m_countWay_125, xm_7, xm_35, al_79, xm_34, xm_9, al_65, xm_36, al_80, xm_3, cl_58, g1, g2, g3, not_false_eq_true, nI_clamp (show k < 2 ^ 31 by omega), d4 (show k < 2 ^ 31 by omega), r4, show ∀ b c' d e, FWm X b c' d e 58 3 = nI c from fun _ _ _ _ => h2, p1, p2, show ∀ b c' d e, FWm X b c' d e 80 = c' from fun _ _ _ _ => rfl, ee, FW_env, nI_1, i10, Bool.false_eq_true, eq_self, true_or, or_true, if_true, if_false, gv_int, gv_ref, av_some, al_some, un_int, un_ref, un_mk, ok4_0, ok4_1, ok4_2, ok4_3, ok4_4, Kn_some, Kn_none, true_and, and_true]
          exact ih
      · have p1 : (nI (k / 4) < nI c) = False := eq_false (nI_nlt (by omega) (by omega))
        simp only [q1, if_false] at ih
        simp only [w_m_countWay_0, w_m_countWay_1, w_m_countWay_3, w_m_countWay_4, w_m_countWay_7, w_m_countWay_10, w_m_countWay_11, w_m_countWay_14, w_m_countWay_15, w_m_countWay_16, w_m_countWay_19, w_m_countWay_22, w_m_countWay_23, w_m_countWay_26, w_m_countWay_27, w_m_countWay_28, w_m_countWay_29, w_m_countWay_32, w_m_countWay_33, w_m_countWay_34, w_m_countWay_37, w_m_countWay_38, w_m_countWay_41, w_m_countWay_42, w_m_countWay_43, w_m_countWay_46, w_m_countWay_47, w_m_countWay_48, w_m_countWay_51, w_m_countWay_54, w_m_countWay_55, w_m_countWay_57, w_m_countWay_59, w_m_countWay_62, w_m_countWay_63, w_m_countWay_66, w_m_countWay_67, w_m_countWay_68, w_m_countWay_69, w_m_countWay_70, w_m_countWay_71, w_m_countWay_72, w_m_countWay_73, w_m_countWay_76, w_m_countWay_79, w_m_countWay_80, w_m_countWay_81, w_m_countWay_82, w_m_countWay_83, w_m_countWay_86, w_m_countWay_89, w_m_countWay_90, w_m_countWay_91, w_m_countWay_92, w_m_countWay_93, w_m_countWay_94, w_m_countWay_95, w_m_countWay_96, w_m_countWay_99, w_m_countWay_102, w_m_countWay_103, w_m_countWay_106, w_m_countWay_107, w_m_countWay_108, w_m_countWay_109, w_m_countWay_112, w_m_countWay_115, w_m_countWay_116, w_m_countWay_117, w_m_countWay_120, w_m_countWay_121, w_m_countWay_122, w_m_countWay_125, xm_7, xm_35, al_79, xm_34, xm_9, al_65, xm_36, al_80, xm_3, cl_58, g1, g2, g3, not_false_eq_true, nI_clamp (show k < 2 ^ 31 by omega), d4 (show k < 2 ^ 31 by omega), r4, show ∀ b c' d e, FWm X b c' d e 58 3 = nI c from fun _ _ _ _ => h2, p1, show ∀ b c' d e, FWm X b c' d e 80 = c' from fun _ _ _ _ => rfl, ee, FW_env, nI_1, i10, Bool.false_eq_true, eq_self, true_or, or_true, if_true, if_false, gv_int, gv_ref, av_some, al_some, un_int, un_ref, un_mk, ok4_0, ok4_1, ok4_2, ok4_3, ok4_4, Kn_some, Kn_none, true_and, and_true]
        exact ih
  simp only [w_m_countWay_0, w_m_countWay_1, w_m_countWay_3, w_m_countWay_4, w_m_countWay_7, w_m_countWay_10, w_m_countWay_11, w_m_countWay_14, w_m_countWay_15, w_m_countWay_16, w_m_countWay_19, w_m_countWay_22, w_m_countWay_23, w_m_countWay_26, w_m_countWay_27, w_m_countWay_28, w_m_countWay_29, w_m_countWay_32, w_m_countWay_33, w_m_countWay_34, w_m_countWay_37, w_m_countWay_38, w_m_countWay_41, w_m_countWay_42, w_m_countWay_43, w_m_countWay_46, w_m_countWay_47, w_m_countWay_48, w_m_countWay_51, w_m_countWay_55, w_m_countWay_57, w_m_countWay_59, w_m_countWay_62, w_m_countWay_63, w_m_countWay_66, w_m_countWay_67, w_m_countWay_68, w_m_countWay_69, w_m_countWay_70, w_m_countWay_71, w_m_countWay_72, w_m_countWay_73, w_m_countWay_76, w_m_countWay_79, w_m_countWay_80, w_m_countWay_81, w_m_countWay_82, w_m_countWay_83, w_m_countWay_86, w_m_countWay_89, w_m_countWay_90, w_m_countWay_91, w_m_countWay_92, w_m_countWay_93, w_m_countWay_94, w_m_countWay_95, w_m_countWay_96, w_m_countWay_99, w_m_countWay_102, w_m_countWay_103, w_m_countWay_106, w_m_countWay_107, w_m_countWay_108, w_m_countWay_109, w_m_countWay_112, w_m_countWay_115, w_m_countWay_116, w_m_countWay_117, w_m_countWay_120, w_m_countWay_121, w_m_countWay_122, w_m_countWay_125, xm_7, xm_35, al_79, xm_34, xm_9, al_65, xm_36, al_80, xm_3, cl_58, i10, Bool.false_eq_true, eq_self, true_or, or_true, if_true, if_false, gv_int, gv_ref, av_some, al_some, un_int, un_ref, un_mk, ok4_0, ok4_1, ok4_2, ok4_3, ok4_4, Kn_some, Kn_none, true_and, and_true]
  have := for_up (n := n) (P := fun k => WP 210 2 [.ref 58, .int (nI k)] [] (shw A B) (0, 0) (FWm X (nI f) env (surF f k sur h) h) Q) ?_ ?_
  · rw [show surF f 0 sur h = sur from by funext j; unfold surF; rw [if_neg (by omega)]] at this
    exact this
  · rw [w_m_countWay_2]
    simp only [w_m_countWay_0, w_m_countWay_1, w_m_countWay_3, w_m_countWay_4, w_m_countWay_7, w_m_countWay_10, w_m_countWay_11, w_m_countWay_14, w_m_countWay_15, w_m_countWay_16, w_m_countWay_19, w_m_countWay_22, w_m_countWay_23, w_m_countWay_26, w_m_countWay_27, w_m_countWay_28, w_m_countWay_29, w_m_countWay_32, w_m_countWay_33, w_m_countWay_34, w_m_countWay_37, w_m_countWay_38, w_m_countWay_41, w_m_countWay_42, w_m_countWay_43, w_m_countWay_46, w_m_countWay_47, w_m_countWay_48, w_m_countWay_51, w_m_countWay_55, w_m_countWay_57, w_m_countWay_59, w_m_countWay_62, w_m_countWay_63, w_m_countWay_66, w_m_countWay_67, w_m_countWay_68, w_m_countWay_69, w_m_countWay_70, w_m_countWay_71, w_m_countWay_72, w_m_countWay_73, w_m_countWay_76, w_m_countWay_79, w_m_countWay_80, w_m_countWay_81, w_m_countWay_82, w_m_countWay_83, w_m_countWay_86, w_m_countWay_89, w_m_countWay_90, w_m_countWay_91, w_m_countWay_92, w_m_countWay_93, w_m_countWay_94, w_m_countWay_95, w_m_countWay_96, w_m_countWay_99, w_m_countWay_102, w_m_countWay_103, w_m_countWay_106, w_m_countWay_107, w_m_countWay_108, w_m_countWay_109, w_m_countWay_112, w_m_countWay_115, w_m_countWay_116, w_m_countWay_117, w_m_countWay_120, w_m_countWay_121, w_m_countWay_122, w_m_countWay_125, xm_7, xm_35, al_79, xm_34, xm_9, al_65, xm_36, al_80, xm_3, cl_58, show ∀ b c' d e, FWm X b c' d e 58 7 = nI n from fun _ _ _ _ => h3, lt_irr, i10, Bool.false_eq_true, eq_self, true_or, or_true, if_true, if_false, gv_int, gv_ref, av_some, al_some, un_int, un_ref, un_mk, ok4_0, ok4_1, ok4_2, ok4_3, ok4_4, Kn_some, Kn_none, true_and, and_true]
    exact tail _
  · intro k hk ih
    have g1 : nI k < nI n := nI_lt hk (by omega)
    have g2 : vp_in (nI k) 7 := vp_in_nI (by omega) (by decide)
    rw [← surF_s] at ih
    have ee : surF f k sur h k = sur k := by unfold surF; rw [if_neg (by omega)]
    rw [w_m_countWay_2]
    by_cases q : f = 0
    · subst q
      simp only [true_or, if_true] at ih
      simp only [w_m_countWay_0, w_m_countWay_1, w_m_countWay_3, w_m_countWay_4, w_m_countWay_7, w_m_countWay_10, w_m_countWay_11, w_m_countWay_14, w_m_countWay_15, w_m_countWay_16, w_m_countWay_19, w_m_countWay_22, w_m_countWay_23, w_m_countWay_26, w_m_countWay_27, w_m_countWay_28, w_m_countWay_29, w_m_countWay_32, w_m_countWay_33, w_m_countWay_34, w_m_countWay_37, w_m_countWay_38, w_m_countWay_41, w_m_countWay_42, w_m_countWay_43, w_m_countWay_46, w_m_countWay_47, w_m_countWay_48, w_m_countWay_51, w_m_countWay_55, w_m_countWay_57, w_m_countWay_59, w_m_countWay_62, w_m_countWay_63, w_m_countWay_66, w_m_countWay_67, w_m_countWay_68, w_m_countWay_69, w_m_countWay_70, w_m_countWay_71, w_m_countWay_72, w_m_countWay_73, w_m_countWay_76, w_m_countWay_79, w_m_countWay_80, w_m_countWay_81, w_m_countWay_82, w_m_countWay_83, w_m_countWay_86, w_m_countWay_89, w_m_countWay_90, w_m_countWay_91, w_m_countWay_92, w_m_countWay_93, w_m_countWay_94, w_m_countWay_95, w_m_countWay_96, w_m_countWay_99, w_m_countWay_102, w_m_countWay_103, w_m_countWay_106, w_m_countWay_107, w_m_countWay_108, w_m_countWay_109, w_m_countWay_112, w_m_countWay_115, w_m_countWay_116, w_m_countWay_117, w_m_countWay_120, w_m_countWay_121, w_m_countWay_122, w_m_countWay_125, xm_7, xm_35, al_79, xm_34, xm_9, al_65, xm_36, al_80, xm_3, cl_58, show ∀ b c' d e, FWm X b c' d e 58 7 = nI n from fun _ _ _ _ => h3, g1, g2, nI_clamp (show k < 2 ^ 31 by omega), show ∀ b c' d e, FWm X b c' d e 58 34 = b from fun _ _ _ _ => rfl, (show (nI 0 = 0) = True by decide), show ∀ b c' d e, FWm X b c' d e 65 = e from fun _ _ _ _ => rfl, FW_sur, nI_1, i10, Bool.false_eq_true, eq_self, true_or, or_true, if_true, if_false, gv_int, gv_ref, av_some, al_some, un_int, un_ref, un_mk, ok4_0, ok4_1, ok4_2, ok4_3, ok4_4, Kn_some, Kn_none, true_and, and_true]
      exact ih
    · have p : (nI f = 0) = False := eq_false (nI_ne0 (by omega) (by omega))
      simp only [q, false_or] at ih
      simp only [w_m_countWay_0, w_m_countWay_1, w_m_countWay_3, w_m_countWay_4, w_m_countWay_7, w_m_countWay_10, w_m_countWay_11, w_m_countWay_14, w_m_countWay_15, w_m_countWay_16, w_m_countWay_19, w_m_countWay_22, w_m_countWay_23, w_m_countWay_26, w_m_countWay_27, w_m_countWay_28, w_m_countWay_29, w_m_countWay_32, w_m_countWay_33, w_m_countWay_34, w_m_countWay_37, w_m_countWay_38, w_m_countWay_41, w_m_countWay_42, w_m_countWay_43, w_m_countWay_46, w_m_countWay_47, w_m_countWay_48, w_m_countWay_51, w_m_countWay_55, w_m_countWay_57, w_m_countWay_59, w_m_countWay_62, w_m_countWay_63, w_m_countWay_66, w_m_countWay_67, w_m_countWay_68, w_m_countWay_69, w_m_countWay_70, w_m_countWay_71, w_m_countWay_72, w_m_countWay_73, w_m_countWay_76, w_m_countWay_79, w_m_countWay_80, w_m_countWay_81, w_m_countWay_82, w_m_countWay_83, w_m_countWay_86, w_m_countWay_89, w_m_countWay_90, w_m_countWay_91, w_m_countWay_92, w_m_countWay_93, w_m_countWay_94, w_m_countWay_95, w_m_countWay_96, w_m_countWay_99, w_m_countWay_102, w_m_countWay_103, w_m_countWay_106, w_m_countWay_107, w_m_countWay_108, w_m_countWay_109, w_m_countWay_112, w_m_countWay_115, w_m_countWay_116, w_m_countWay_117, w_m_countWay_120, w_m_countWay_121, w_m_countWay_122, w_m_countWay_125, xm_7, xm_35, al_79, xm_34, xm_9, al_65, xm_36, al_80, xm_3, cl_58, show ∀ b c' d e, FWm X b c' d e 58 7 = nI n from fun _ _ _ _ => h3, g1, g2, nI_clamp (show k < 2 ^ 31 by omega), show ∀ b c' d e, FWm X b c' d e 58 34 = b from fun _ _ _ _ => rfl, p, show ∀ b c' d e, FWm X b c' d e 65 = e from fun _ _ _ _ => rfl, show ∀ b c' d e, FWm X b c' d e 79 = d from fun _ _ _ _ => rfl, ee, FW_sur, nI_1, i10, Bool.false_eq_true, eq_self, true_or, or_true, if_true, if_false, gv_int, gv_ref, av_some, al_some, un_int, un_ref, un_mk, ok4_0, ok4_1, ok4_2, ok4_3, ok4_4, Kn_some, Kn_none, true_and, and_true]
      by_cases q2 : sur k = h k
      · simp only [q2, if_true] at ih ⊢; exact ih
      · simp only [q2, if_false] at ih ⊢; exact ih
/-- how many ways fit, by how many each pair envies, who surely has what -/
def fwS (W : Nat → Nat → Int32) (lk h : Nat → Int32) (so sa si : Nat → Int32) (sn n c m : Nat) (s : Nat × (Nat → Int32) × (Nat → Int32)) : Nat × (Nat → Int32) × (Nat → Int32) :=
  if asE (ev W lk (gvF h c n m) n) so sa si sn then (s.1 + 1, envF c (ev W lk (gvF h c n m) n) s.2.1 16, surF s.1 n s.2.2 (gvF h c n m)) else s
def fwE (W : Nat → Nat → Int32) (lk h : Nat → Int32) (so sa si : Nat → Int32) (sn n c : Nat) (e0 s0 : Nat → Int32) (k : Nat) : Nat × (Nat → Int32) × (Nat → Int32) := lp (fun m s => fwS W lk h so sa si sn n c m s) k (0, e0, s0)
theorem fwE_s (W : Nat → Nat → Int32) (lk h : Nat → Int32) (so sa si : Nat → Int32) (sn n c : Nat) (e0 s0 : Nat → Int32) (k : Nat) : fwE W lk h so sa si sn n c e0 s0 (k + 1) = fwS W lk h so sa si sn n c k (fwE W lk h so sa si sn n c e0 s0 k) := rfl
theorem fwE_le (W : Nat → Nat → Int32) (lk h : Nat → Int32) (so sa si : Nat → Int32) (sn n c : Nat) (e0 s0 : Nat → Int32) : ∀ k, (fwE W lk h so sa si sn n c e0 s0 k).1 ≤ k
  | 0 => Nat.le_refl _
  | k + 1 => by
    have := fwE_le W lk h so sa si sn n c e0 s0 k
    rw [fwE_s]; unfold fwS
    split
    · exact Nat.succ_le_succ this
    · omega
/-- the reference's count of ways -/
def fwM (M : Mm) (sn n c : Nat) : Nat × (Nat → Int32) × (Nat → Int32) := fwE (wT M) (M 63) (M 65) (M 76) (M 77) (M 78) sn n c (fun k => if k < 16 then 0 else M 80 k) (M 79) (if c = 0 then 0 else c ^ n)
theorem e_m_findWays {A B : Nat} {M : Mm} {Q : Po} {K c n sn : Nat} (h : MD M K c n) (hs : SN M sn) : WP 211 0 [.ref 58, mk] [] (shw A B) (0, 0) M Q = Q none (shw A B) (FWm (SV M) (nI (fwM M sn n c).1) (fwM M sn n c).2.1 (fwM M sn n c).2.2 (M 65)) := by
  refine WP.is (fun Q hQ => ?_)
  obtain ⟨h1, h2, h3, h4, h5, h6, h7⟩ := id h
  have hp := pow_le h5 h6
  have back : ∀ f e s (g : Nat → Int32), (∀ j, ¬ j < n → g j = M 65 j) → st (FWm (SV M) f e s g) 65 (ov (FWm (SV M) f e s g 74) (FWm (SV M) f e s g 65) 7) = FWm (SV M) f e s (M 65) := by
    intro f e s g hg
    rw [FW_now]
    congr 1
    funext j
    show (if j < 7 then (if j < 7 then M 65 j else M 74 j) else g j) = M 65 j
    by_cases hj : j < 7
    · rw [if_pos hj, if_pos hj]
    · rw [if_neg hj, hg j (by omega)]
  simp only [w_m_findWays_0, w_m_findWays_1, w_m_findWays_2, w_m_findWays_5, w_m_findWays_6, w_m_findWays_8, w_m_findWays_10, w_m_findWays_13, w_m_findWays_14, w_m_findWays_17, w_m_findWays_18, w_m_findWays_19, w_m_findWays_20, w_m_findWays_23, w_m_findWays_26, w_m_findWays_27, w_m_findWays_30, w_m_findWays_31, w_m_findWays_33, w_m_findWays_34, w_m_findWays_37, w_m_findWays_40, w_m_findWays_41, w_m_findWays_44, w_m_findWays_47, w_m_findWays_48, w_m_findWays_49, w_m_findWays_52, w_m_findWays_53, w_m_findWays_56, w_m_findWays_59, w_m_findWays_60, w_m_findWays_63, w_m_findWays_66, w_m_findWays_69, w_m_findWays_70, w_m_findWays_73, xm_34, xm_36, al_80, cl_58, xm_3, i10, Bool.false_eq_true, eq_self, true_or, or_true, if_true, if_false, gv_int, gv_ref, av_some, al_some, un_int, un_ref, un_mk, ok4_0, ok4_1, ok4_2, ok4_3, ok4_4, Kn_some, Kn_none, true_and, and_true]
  have := for_up (n := 16) (P := fun k => WP 211 7 [.ref 58, .int (nI k)] [] (shw A B) (0, 0) (st (up M 58 34 0) 80 (fun j => if j < k then 0 else M 80 j)) Q) ?_ ?_
  · rw [show (fun j => if j < 0 then 0 else M 80 j) = M 80 from by funext j; rw [if_neg (by omega)], show st (up M 58 34 0) 80 (M 80) = up M 58 34 0 from st_self _ 80] at this
    exact this
  · rw [w_m_findWays_7]
    simp only [w_m_findWays_0, w_m_findWays_1, w_m_findWays_2, w_m_findWays_5, w_m_findWays_6, w_m_findWays_8, w_m_findWays_10, w_m_findWays_13, w_m_findWays_14, w_m_findWays_17, w_m_findWays_18, w_m_findWays_19, w_m_findWays_20, w_m_findWays_23, w_m_findWays_26, w_m_findWays_27, w_m_findWays_30, w_m_findWays_31, w_m_findWays_33, w_m_findWays_34, w_m_findWays_37, w_m_findWays_40, w_m_findWays_41, w_m_findWays_44, w_m_findWays_47, w_m_findWays_48, w_m_findWays_49, w_m_findWays_52, w_m_findWays_53, w_m_findWays_56, w_m_findWays_59, w_m_findWays_60, w_m_findWays_63, w_m_findWays_66, w_m_findWays_69, w_m_findWays_70, w_m_findWays_73, xm_34, xm_36, al_80, cl_58, xm_3, (show (nI 16 < 16) = False by decide), e_m_save, cl_58, i10, Bool.false_eq_true, eq_self, true_or, or_true, if_true, if_false, gv_int, gv_ref, av_some, al_some, un_int, un_ref, un_mk, ok4_0, ok4_1, ok4_2, ok4_3, ok4_4, Kn_some, Kn_none, true_and, and_true]
    have em : st (st (up M 58 34 0) 80 (fun j => if j < 16 then 0 else M 80 j)) 74 (ov (st (up M 58 34 0) 80 (fun j => if j < 16 then 0 else M 80 j) 65) (st (up M 58 34 0) 80 (fun j => if j < 16 then 0 else M 80 j) 74) 7) = FWm (SV M) 0 (fun j => if j < 16 then 0 else M 80 j) (M 79) (M 65) := by
      funext a
      simp only [st, up, FWm, SV]
      by_cases q1 : a = 74
      · subst q1; rfl
      · by_cases q2 : a = 80
        · subst q2; rfl
        · by_cases q3 : a = 58
          · subst q3; rfl
          · by_cases q4 : a = 65
            · subst q4; rfl
            · by_cases q5 : a = 79
              · subst q5; rfl
              · rw [if_neg q1, if_neg q2, if_neg q3, if_neg q4, if_neg q5, if_neg q2, if_neg q3, if_neg q1]
    rw [em]
    unfold fwM at hQ
    by_cases c0 : c = 0
    · subst c0
      rw [if_pos rfl] at hQ
      rw [w_m_findWays_32]
      by_cases q : (0 : Int32) < nI (0 ^ n)
      · simp only [w_m_findWays_0, w_m_findWays_1, w_m_findWays_2, w_m_findWays_5, w_m_findWays_6, w_m_findWays_8, w_m_findWays_10, w_m_findWays_13, w_m_findWays_14, w_m_findWays_17, w_m_findWays_18, w_m_findWays_19, w_m_findWays_20, w_m_findWays_23, w_m_findWays_26, w_m_findWays_27, w_m_findWays_30, w_m_findWays_31, w_m_findWays_33, w_m_findWays_34, w_m_findWays_37, w_m_findWays_40, w_m_findWays_41, w_m_findWays_44, w_m_findWays_47, w_m_findWays_48, w_m_findWays_49, w_m_findWays_52, w_m_findWays_53, w_m_findWays_56, w_m_findWays_59, w_m_findWays_60, w_m_findWays_63, w_m_findWays_66, w_m_findWays_69, w_m_findWays_70, w_m_findWays_73, xm_34, xm_36, al_80, cl_58, xm_3, e_m_waysToGive (show MD (FWm (SV M) 0 (fun j => if j < 16 then 0 else M 80 j) (M 79) (M 65)) K 0 n from h), q, show ∀ a b d e, FWm (SV M) a b d e 58 3 = nI 0 from fun _ _ _ _ => h2, (show ((0 : Int32) < nI 0) = False by decide), e_m_putBack, cl_58, i10, Bool.false_eq_true, eq_self, true_or, or_true, if_true, if_false, gv_int, gv_ref, av_some, al_some, un_int, un_ref, un_mk, ok4_0, ok4_1, ok4_2, ok4_3, ok4_4, Kn_some, Kn_none, true_and, and_true]
        rw [back _ _ _ _ (fun _ _ => rfl)]
        exact hQ
      · simp only [w_m_findWays_0, w_m_findWays_1, w_m_findWays_2, w_m_findWays_5, w_m_findWays_6, w_m_findWays_8, w_m_findWays_10, w_m_findWays_13, w_m_findWays_14, w_m_findWays_17, w_m_findWays_18, w_m_findWays_19, w_m_findWays_20, w_m_findWays_23, w_m_findWays_26, w_m_findWays_27, w_m_findWays_30, w_m_findWays_31, w_m_findWays_33, w_m_findWays_34, w_m_findWays_37, w_m_findWays_40, w_m_findWays_41, w_m_findWays_44, w_m_findWays_47, w_m_findWays_48, w_m_findWays_49, w_m_findWays_52, w_m_findWays_53, w_m_findWays_56, w_m_findWays_59, w_m_findWays_60, w_m_findWays_63, w_m_findWays_66, w_m_findWays_69, w_m_findWays_70, w_m_findWays_73, xm_34, xm_36, al_80, cl_58, xm_3, e_m_waysToGive (show MD (FWm (SV M) 0 (fun j => if j < 16 then 0 else M 80 j) (M 79) (M 65)) K 0 n from h), q, e_m_putBack, cl_58, i10, Bool.false_eq_true, eq_self, true_or, or_true, if_true, if_false, gv_int, gv_ref, av_some, al_some, un_int, un_ref, un_mk, ok4_0, ok4_1, ok4_2, ok4_3, ok4_4, Kn_some, Kn_none, true_and, and_true]
        rw [back _ _ _ _ (fun _ _ => rfl)]
        exact hQ
    · rw [if_neg c0] at hQ
      refine for_up (n := c ^ n) (P := fun m => ∀ g : Nat → Int32, (∀ j, ¬ j < n → g j = M 65 j) → WP 211 32 [.ref 58, .int (nI m)] [] (shw A B) (0, 0) (FWm (SV M) (nI (fwE (wT M) (M 63) (M 65) (M 76) (M 77) (M 78) sn n c (fun k => if k < 16 then 0 else M 80 k) (M 79) m).1) (fwE (wT M) (M 63) (M 65) (M 76) (M 77) (M 78) sn n c (fun k => if k < 16 then 0 else M 80 k) (M 79) m).2.1 (fwE (wT M) (M 63) (M 65) (M 76) (M 77) (M 78) sn n c (fun k => if k < 16 then 0 else M 80 k) (M 79) m).2.2 g) Q) ?_ ?_ (M 65) (fun _ _ => rfl)
      · intro g hg
        generalize fwE (wT M) (M 63) (M 65) (M 76) (M 77) (M 78) sn n c (fun k => if k < 16 then 0 else M 80 k) (M 79) (c ^ n) = s0 at hQ ⊢
        rw [w_m_findWays_32]
        simp only [w_m_findWays_0, w_m_findWays_1, w_m_findWays_2, w_m_findWays_5, w_m_findWays_6, w_m_findWays_8, w_m_findWays_10, w_m_findWays_13, w_m_findWays_14, w_m_findWays_17, w_m_findWays_18, w_m_findWays_19, w_m_findWays_20, w_m_findWays_23, w_m_findWays_26, w_m_findWays_27, w_m_findWays_30, w_m_findWays_31, w_m_findWays_33, w_m_findWays_34, w_m_findWays_37, w_m_findWays_40, w_m_findWays_41, w_m_findWays_44, w_m_findWays_47, w_m_findWays_48, w_m_findWays_49, w_m_findWays_52, w_m_findWays_53, w_m_findWays_56, w_m_findWays_59, w_m_findWays_60, w_m_findWays_63, w_m_findWays_66, w_m_findWays_69, w_m_findWays_70, w_m_findWays_73, xm_34, xm_36, al_80, cl_58, xm_3, e_m_waysToGive (show MD (FWm (SV M) (nI s0.1) s0.2.1 s0.2.2 g) K c n from h), lt_irr, e_m_putBack, cl_58, i10, Bool.false_eq_true, eq_self, true_or, or_true, if_true, if_false, gv_int, gv_ref, av_some, al_some, un_int, un_ref, un_mk, ok4_0, ok4_1, ok4_2, ok4_3, ok4_4, Kn_some, Kn_none, true_and, and_true]
        rw [back _ _ _ _ hg]
        exact hQ
      · intro m hm ih g hg
        have hle := fwE_le (wT M) (M 63) (M 65) (M 76) (M 77) (M 78) sn n c (fun k => if k < 16 then 0 else M 80 k) (M 79) m
        rw [fwE_s] at ih
        have g1 : nI m < nI (c ^ n) := nI_lt hm (by omega)
        have g2 : (0 < nI c) = True := eq_true (nI_lt (a := 0) (by omega) (by omega))
        generalize fwE (wT M) (M 63) (M 65) (M 76) (M 77) (M 78) sn n c (fun k => if k < 16 then 0 else M 80 k) (M 79) m = s0 at ih hle ⊢
        have ih := ih (gvF (M 65) c n m) (fun j hj => by unfold gvF; rw [if_neg hj])
        unfold fwS at ih
        have em2 : st (FWm (SV M) (nI s0.1) s0.2.1 s0.2.2 g) 65 (fun j => if j < n then nI (dg c n m j) else FWm (SV M) (nI s0.1) s0.2.1 s0.2.2 g 65 j) = FWm (SV M) (nI s0.1) s0.2.1 s0.2.2 (gvF (M 65) c n m) := by
          rw [FW_now, show FWm (SV M) (nI s0.1) s0.2.1 s0.2.2 g 65 = g from rfl, gvF_far hg]
        have em3 : st (FWm (SV M) (nI s0.1) s0.2.1 s0.2.2 g) 65 (fun j => if j < n then nI (dg c n m j) else g j) = FWm (SV M) (nI s0.1) s0.2.1 s0.2.2 (gvF (M 65) c n m) := em2
        rw [w_m_findWays_32]
        simp only [w_m_findWays_0, w_m_findWays_1, w_m_findWays_2, w_m_findWays_5, w_m_findWays_6, w_m_findWays_8, w_m_findWays_10, w_m_findWays_13, w_m_findWays_14, w_m_findWays_17, w_m_findWays_18, w_m_findWays_19, w_m_findWays_20, w_m_findWays_23, w_m_findWays_26, w_m_findWays_27, w_m_findWays_30, w_m_findWays_31, w_m_findWays_33, w_m_findWays_34, w_m_findWays_37, w_m_findWays_40, w_m_findWays_41, w_m_findWays_44, w_m_findWays_47, w_m_findWays_48, w_m_findWays_49, w_m_findWays_52, w_m_findWays_53, w_m_findWays_56, w_m_findWays_59, w_m_findWays_60, w_m_findWays_63, w_m_findWays_66, w_m_findWays_69, w_m_findWays_70, w_m_findWays_73, xm_34, xm_36, al_80, cl_58, xm_3, e_m_waysToGive (show MD (FWm (SV M) (nI s0.1) s0.2.1 s0.2.2 g) K c n from h), g1, em3, show ∀ a b d e, FWm (SV M) a b d e 58 3 = nI c from fun _ _ _ _ => h2, g2, e_m_giveBy (m := m) (show MD (FWm (SV M) (nI s0.1) s0.2.1 s0.2.2 g) K c n from h) (show 0 < c by omega) (show m < 2 ^ 31 by omega), em2, e_m_allSeen (show MD (FWm (SV M) (nI s0.1) s0.2.1 s0.2.2 (gvF (M 65) c n m)) K c n from h) (show SN (FWm (SV M) (nI s0.1) s0.2.1 s0.2.2 (gvF (M 65) c n m)) sn from hs), cl_58, nI_1, show wT (FWm (SV M) (nI s0.1) s0.2.1 s0.2.2 (gvF (M 65) c n m)) = wT M from rfl, show ∀ a b d e, FWm (SV M) a b d e 63 = M 63 from fun _ _ _ _ => rfl, show ∀ a b d e, FWm (SV M) a b d e 76 = M 76 from fun _ _ _ _ => rfl, show ∀ a b d e, FWm (SV M) a b d e 77 = M 77 from fun _ _ _ _ => rfl, show ∀ a b d e, FWm (SV M) a b d e 78 = M 78 from fun _ _ _ _ => rfl, show ∀ a b d e, FWm (SV M) a b d e 65 = e from fun _ _ _ _ => rfl, e_m_countWay (env := s0.2.1) (sur := s0.2.2) (h := gvF (M 65) c n m) (show MD (SV M) K c n from h) (show s0.1 < 2 ^ 30 by omega), show wT (SV M) = wT M from rfl, show SV M 63 = M 63 from rfl, i10, Bool.false_eq_true, eq_self, true_or, or_true, if_true, if_false, gv_int, gv_ref, av_some, al_some, un_int, un_ref, un_mk, ok4_0, ok4_1, ok4_2, ok4_3, ok4_4, Kn_some, Kn_none, true_and, and_true]
        cases q : asE (ev (wT M) (M 63) (gvF (M 65) c n m) n) (M 76) (M 77) (M 78) sn
        · simp only [q, Bool.false_eq_true, if_false, if_true] at ih ⊢; exact ih
        · simp only [q, i10, if_false, if_true] at ih ⊢; exact ih
  · intro k hk ih
    have g1 : (nI k < 16) = True := eq_true (nI_lt hk (by decide))
    have g2 : vp_in (nI k) 16 := vp_in_nI hk (by decide)
    rw [w_m_findWays_7]
    simp only [w_m_findWays_0, w_m_findWays_1, w_m_findWays_2, w_m_findWays_5, w_m_findWays_6, w_m_findWays_8, w_m_findWays_10, w_m_findWays_13, w_m_findWays_14, w_m_findWays_17, w_m_findWays_18, w_m_findWays_19, w_m_findWays_20, w_m_findWays_23, w_m_findWays_26, w_m_findWays_27, w_m_findWays_30, w_m_findWays_31, w_m_findWays_33, w_m_findWays_34, w_m_findWays_37, w_m_findWays_40, w_m_findWays_41, w_m_findWays_44, w_m_findWays_47, w_m_findWays_48, w_m_findWays_49, w_m_findWays_52, w_m_findWays_53, w_m_findWays_56, w_m_findWays_59, w_m_findWays_60, w_m_findWays_63, w_m_findWays_66, w_m_findWays_69, w_m_findWays_70, w_m_findWays_73, xm_34, xm_36, al_80, cl_58, xm_3, g1, g2, nI_clamp (show k < 2 ^ 31 by omega), nI_1, up_st, i10, Bool.false_eq_true, eq_self, true_or, or_true, if_true, if_false, gv_int, gv_ref, av_some, al_some, un_int, un_ref, un_mk, ok4_0, ok4_1, ok4_2, ok4_3, ok4_4, Kn_some, Kn_none, true_and, and_true]
    rw [show (upd (fun j => if j < k then 0 else M 80 j) k 0) = (fun j => if j < k + 1 then 0 else M 80 j) from ?_]
    · exact ih
    · funext j
      simp only [upd]
      by_cases q : j = k
      · rw [if_pos q, if_pos (by omega)]
      · rw [if_neg q]
        by_cases q2 : j < k
        · rw [if_pos q2, if_pos (by omega)]
        · rw [if_neg q2, if_neg (by omega)]
