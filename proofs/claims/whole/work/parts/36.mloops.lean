/-! the reference: a spare thing, what is seen, swaps -/
/-- envy of i at j, if w had one thing more, worth x to i -/
def moreE (W : Nat → Nat → Int32) (h : Nat → Int32) (n i j : Nat) (w : Int32) (x : Int32) : Int32 := wo W h n i (nI j) - wo W h n i (nI i) + (if nI j = w then x else 0) - (if nI i = w then x else 0)
def spI (W : Nat → Nat → Int32) (lk h : Nat → Int32) (n i : Nat) (w x : Int32) (c : Nat) (s : Int32) : Int32 := lp (fun j s => s + (if bt (lk i) (nI j) then mx0 (moreE W h n i j w x) else 0)) c s
def spE (W : Nat → Nat → Int32) (lk h : Nat → Int32) (n c : Nat) (w : Int32) (X : Nat → Int32) : Int32 := lp (fun i s => spI W lk h n i w (X i) c s) c 0
theorem e_m_envyWith {A B : Nat} {M : Mm} {Q : Po} {K c n q : Nat} {w : Int32} (h : MD M K c n) (hq : q < 5) : WP 205 0 [.ref 58, .int w, .int (nI q), mk, mk, mk, mk] [] (shw A B) (0, 0) M Q = Q (some (.int (spE (wT M) (M 63) (M 65) n c w (fun i => wN M i q)))) (shw A B) M := by
  refine WP.is (fun Q hQ => ?_)
  obtain ⟨h1, h2, h3, h4, h5, h6, h7⟩ := id h
  simp only [w_m_envyWith_0, w_m_envyWith_1, w_m_envyWith_2, w_m_envyWith_3, w_m_envyWith_7, w_m_envyWith_8, w_m_envyWith_11, w_m_envyWith_14, w_m_envyWith_15, w_m_envyWith_19, w_m_envyWith_20, w_m_envyWith_23, w_m_envyWith_26, w_m_envyWith_27, w_m_envyWith_29, w_m_envyWith_31, w_m_envyWith_34, w_m_envyWith_35, w_m_envyWith_37, w_m_envyWith_39, w_m_envyWith_42, w_m_envyWith_43, w_m_envyWith_45, w_m_envyWith_47, w_m_envyWith_49, w_m_envyWith_50, w_m_envyWith_53, w_m_envyWith_54, w_m_envyWith_56, w_m_envyWith_57, w_m_envyWith_60, w_m_envyWith_63, w_m_envyWith_64, w_m_envyWith_65, w_m_envyWith_67, w_m_envyWith_69, w_m_envyWith_71, w_m_envyWith_72, w_m_envyWith_75, w_m_envyWith_76, w_m_envyWith_78, w_m_envyWith_79, w_m_envyWith_82, w_m_envyWith_85, w_m_envyWith_86, w_m_envyWith_87, w_m_envyWith_89, w_m_envyWith_90, w_m_envyWith_91, w_m_envyWith_94, w_m_envyWith_96, w_m_envyWith_97, w_m_envyWith_99, w_m_envyWith_102, w_m_envyWith_105, w_m_envyWith_107, w_m_envyWith_110, w_m_envyWith_112, w_m_envyWith_115, w_m_envyWith_116, w_m_envyWith_117, w_m_envyWith_118, w_m_envyWith_121, w_m_envyWith_124, w_m_envyWith_127, w_m_envyWith_130, w_m_envyWith_131, xm_3, cl_58, xm_6, al_63, i10, Bool.false_eq_true, eq_self, true_or, or_true, if_true, if_false, gv_int, gv_ref, av_some, al_some, un_int, un_ref, un_mk, ok4_0, ok4_1, ok4_2, ok4_3, ok4_4, Kn_some, Kn_none, true_and, and_true]
  refine for_up (n := c) (P := fun i => ∀ j5 j6, WP 205 5 [.ref 58, .int w, .int (nI q), .int (lp (fun i s => spI (wT M) (M 63) (M 65) n i w (wN M i q) c s) i 0), .int (nI i), j5, j6] [] (shw A B) (0, 0) M Q) ?_ ?_ mk mk
  · intro j5 j6
    rw [w_m_envyWith_5]
    simp only [w_m_envyWith_0, w_m_envyWith_1, w_m_envyWith_2, w_m_envyWith_3, w_m_envyWith_7, w_m_envyWith_8, w_m_envyWith_11, w_m_envyWith_14, w_m_envyWith_15, w_m_envyWith_19, w_m_envyWith_20, w_m_envyWith_23, w_m_envyWith_26, w_m_envyWith_27, w_m_envyWith_29, w_m_envyWith_31, w_m_envyWith_34, w_m_envyWith_35, w_m_envyWith_37, w_m_envyWith_39, w_m_envyWith_42, w_m_envyWith_43, w_m_envyWith_45, w_m_envyWith_47, w_m_envyWith_49, w_m_envyWith_50, w_m_envyWith_53, w_m_envyWith_54, w_m_envyWith_56, w_m_envyWith_57, w_m_envyWith_60, w_m_envyWith_63, w_m_envyWith_64, w_m_envyWith_65, w_m_envyWith_67, w_m_envyWith_69, w_m_envyWith_71, w_m_envyWith_72, w_m_envyWith_75, w_m_envyWith_76, w_m_envyWith_78, w_m_envyWith_79, w_m_envyWith_82, w_m_envyWith_85, w_m_envyWith_86, w_m_envyWith_87, w_m_envyWith_89, w_m_envyWith_90, w_m_envyWith_91, w_m_envyWith_94, w_m_envyWith_96, w_m_envyWith_97, w_m_envyWith_99, w_m_envyWith_102, w_m_envyWith_105, w_m_envyWith_107, w_m_envyWith_110, w_m_envyWith_112, w_m_envyWith_115, w_m_envyWith_116, w_m_envyWith_117, w_m_envyWith_118, w_m_envyWith_121, w_m_envyWith_124, w_m_envyWith_127, w_m_envyWith_130, w_m_envyWith_131, xm_3, cl_58, xm_6, al_63, h2, lt_irr, i10, Bool.false_eq_true, eq_self, true_or, or_true, if_true, if_false, gv_int, gv_ref, av_some, al_some, un_int, un_ref, un_mk, ok4_0, ok4_1, ok4_2, ok4_3, ok4_4, Kn_some, Kn_none, true_and, and_true]
    exact hQ
  · intro i hi ih j5 j6
    have g1 : nI i < nI c := nI_lt hi (by omega)
    have g5 : vp_in (nI i) 4 := vp_in_nI (by omega) (by decide)
    rw [w_m_envyWith_5]
    simp only [w_m_envyWith_0, w_m_envyWith_1, w_m_envyWith_2, w_m_envyWith_3, w_m_envyWith_7, w_m_envyWith_8, w_m_envyWith_11, w_m_envyWith_14, w_m_envyWith_15, w_m_envyWith_19, w_m_envyWith_20, w_m_envyWith_23, w_m_envyWith_26, w_m_envyWith_27, w_m_envyWith_29, w_m_envyWith_31, w_m_envyWith_34, w_m_envyWith_35, w_m_envyWith_37, w_m_envyWith_39, w_m_envyWith_42, w_m_envyWith_43, w_m_envyWith_45, w_m_envyWith_47, w_m_envyWith_49, w_m_envyWith_50, w_m_envyWith_53, w_m_envyWith_54, w_m_envyWith_56, w_m_envyWith_57, w_m_envyWith_60, w_m_envyWith_63, w_m_envyWith_64, w_m_envyWith_65, w_m_envyWith_67, w_m_envyWith_69, w_m_envyWith_71, w_m_envyWith_72, w_m_envyWith_75, w_m_envyWith_76, w_m_envyWith_78, w_m_envyWith_79, w_m_envyWith_82, w_m_envyWith_85, w_m_envyWith_86, w_m_envyWith_87, w_m_envyWith_89, w_m_envyWith_90, w_m_envyWith_91, w_m_envyWith_94, w_m_envyWith_96, w_m_envyWith_97, w_m_envyWith_99, w_m_envyWith_102, w_m_envyWith_105, w_m_envyWith_107, w_m_envyWith_110, w_m_envyWith_112, w_m_envyWith_115, w_m_envyWith_116, w_m_envyWith_117, w_m_envyWith_118, w_m_envyWith_121, w_m_envyWith_124, w_m_envyWith_127, w_m_envyWith_130, w_m_envyWith_131, xm_3, cl_58, xm_6, al_63, h2, g1, i10, Bool.false_eq_true, eq_self, true_or, or_true, if_true, if_false, gv_int, gv_ref, av_some, al_some, un_int, un_ref, un_mk, ok4_0, ok4_1, ok4_2, ok4_3, ok4_4, Kn_some, Kn_none, true_and, and_true]
    simp only [lp_s] at ih
    generalize lp (fun i s => spI (wT M) (M 63) (M 65) n i w (wN M i q) c s) i 0 = s0 at ih ⊢
    refine for_up (n := c) (P := fun j => ∀ j6, WP 205 17 [.ref 58, .int w, .int (nI q), .int (spI (wT M) (M 63) (M 65) n i w (wN M i q) j s0), .int (nI i), .int (nI j), j6] [] (shw A B) (0, 0) M Q) ?_ ?_ _
    · intro j6
      rw [w_m_envyWith_17]
      simp only [w_m_envyWith_0, w_m_envyWith_1, w_m_envyWith_2, w_m_envyWith_3, w_m_envyWith_7, w_m_envyWith_8, w_m_envyWith_11, w_m_envyWith_14, w_m_envyWith_15, w_m_envyWith_19, w_m_envyWith_20, w_m_envyWith_23, w_m_envyWith_26, w_m_envyWith_27, w_m_envyWith_29, w_m_envyWith_31, w_m_envyWith_34, w_m_envyWith_35, w_m_envyWith_37, w_m_envyWith_39, w_m_envyWith_42, w_m_envyWith_43, w_m_envyWith_45, w_m_envyWith_47, w_m_envyWith_49, w_m_envyWith_50, w_m_envyWith_53, w_m_envyWith_54, w_m_envyWith_56, w_m_envyWith_57, w_m_envyWith_60, w_m_envyWith_63, w_m_envyWith_64, w_m_envyWith_65, w_m_envyWith_67, w_m_envyWith_69, w_m_envyWith_71, w_m_envyWith_72, w_m_envyWith_75, w_m_envyWith_76, w_m_envyWith_78, w_m_envyWith_79, w_m_envyWith_82, w_m_envyWith_85, w_m_envyWith_86, w_m_envyWith_87, w_m_envyWith_89, w_m_envyWith_90, w_m_envyWith_91, w_m_envyWith_94, w_m_envyWith_96, w_m_envyWith_97, w_m_envyWith_99, w_m_envyWith_102, w_m_envyWith_105, w_m_envyWith_107, w_m_envyWith_110, w_m_envyWith_112, w_m_envyWith_115, w_m_envyWith_116, w_m_envyWith_117, w_m_envyWith_118, w_m_envyWith_121, w_m_envyWith_124, w_m_envyWith_127, w_m_envyWith_130, w_m_envyWith_131, xm_3, cl_58, xm_6, al_63, h2, lt_irr, nI_1, i10, Bool.false_eq_true, eq_self, true_or, or_true, if_true, if_false, gv_int, gv_ref, av_some, al_some, un_int, un_ref, un_mk, ok4_0, ok4_1, ok4_2, ok4_3, ok4_4, Kn_some, Kn_none, true_and, and_true]
      exact ih _ _
    · intro j hj ih2 j6
      have g2 : nI j < nI c := nI_lt hj (by omega)
      rw [w_m_envyWith_17]
      have e : spI (wT M) (M 63) (M 65) n i w (wN M i q) (j + 1) s0 = spI (wT M) (M 63) (M 65) n i w (wN M i q) j s0 + (if bt (M 63 i) (nI j) then mx0 (moreE (wT M) (M 65) n i j w (wN M i q)) else 0) := rfl
      rw [e] at ih2
      generalize spI (wT M) (M 63) (M 65) n i w (wN M i q) j s0 = s1 at ih2 ⊢
      simp only [w_m_envyWith_0, w_m_envyWith_1, w_m_envyWith_2, w_m_envyWith_3, w_m_envyWith_7, w_m_envyWith_8, w_m_envyWith_11, w_m_envyWith_14, w_m_envyWith_15, w_m_envyWith_19, w_m_envyWith_20, w_m_envyWith_23, w_m_envyWith_26, w_m_envyWith_27, w_m_envyWith_29, w_m_envyWith_31, w_m_envyWith_34, w_m_envyWith_35, w_m_envyWith_37, w_m_envyWith_39, w_m_envyWith_42, w_m_envyWith_43, w_m_envyWith_45, w_m_envyWith_47, w_m_envyWith_49, w_m_envyWith_50, w_m_envyWith_53, w_m_envyWith_54, w_m_envyWith_56, w_m_envyWith_57, w_m_envyWith_60, w_m_envyWith_63, w_m_envyWith_64, w_m_envyWith_65, w_m_envyWith_67, w_m_envyWith_69, w_m_envyWith_71, w_m_envyWith_72, w_m_envyWith_75, w_m_envyWith_76, w_m_envyWith_78, w_m_envyWith_79, w_m_envyWith_82, w_m_envyWith_85, w_m_envyWith_86, w_m_envyWith_87, w_m_envyWith_89, w_m_envyWith_90, w_m_envyWith_91, w_m_envyWith_94, w_m_envyWith_96, w_m_envyWith_97, w_m_envyWith_99, w_m_envyWith_102, w_m_envyWith_105, w_m_envyWith_107, w_m_envyWith_110, w_m_envyWith_112, w_m_envyWith_115, w_m_envyWith_116, w_m_envyWith_117, w_m_envyWith_118, w_m_envyWith_121, w_m_envyWith_124, w_m_envyWith_127, w_m_envyWith_130, w_m_envyWith_131, xm_3, cl_58, xm_6, al_63, h2, g2, g5, nI_1, nI_clamp (show i < 2 ^ 31 by omega), e_m_worth h (show i < 4 by omega), e_m_worthOf (show i < 4 by omega) hq, e_m_has, cl_58, i10, Bool.false_eq_true, eq_self, true_or, or_true, if_true, if_false, gv_int, gv_ref, av_some, al_some, un_int, un_ref, un_mk, ok4_0, ok4_1, ok4_2, ok4_3, ok4_4, Kn_some, Kn_none, true_and, and_true]
      unfold moreE mx0 at ih2
      cases g6 : bt (M 63 i) (nI j) <;> rcases tf (nI j = w) with q1 | q1 <;> rcases tf (nI i = w) with q2 | q2 <;> simp only [g6, q1, q2, if_true, if_false, i10, Bool.false_eq_true] at ih2 ⊢ <;> first | exact ih2 _ | skip
      all_goals
        split at ih2
        · rename_i q3; simp only [q3, if_true]; exact ih2 _
        · rename_i q3; simp only [q3, if_false]; exact ih2 _
/-- whether sight k is so -/
def okK (E : Nat → Nat → Int32) (so sa si : Nat → Int32) (k : Nat) : Bool := decide ((if 0 < E (so k).toNatClampNeg (sa k).toNatClampNeg then (1 : Int32) else 0) = si k)
def asE (E : Nat → Nat → Int32) (so sa si : Nat → Int32) (k : Nat) : Bool := lp (fun k b => b && okK E so sa si k) k true
theorem asE_s (E : Nat → Nat → Int32) (so sa si : Nat → Int32) (k : Nat) : asE E so sa si (k + 1) = (asE E so sa si k && okK E so sa si k) := rfl
theorem asE_f {E : Nat → Nat → Int32} {so sa si : Nat → Int32} {k : Nat} (h : asE E so sa si k = false) : ∀ j, asE E so sa si (k + j) = false
  | 0 => h
  | j + 1 => by rw [← Nat.add_assoc, asE_s, asE_f h j]; rfl
/-- the sights -/
def SN (M : Mm) (s : Nat) : Prop := M 58 30 = nI s ∧ s ≤ 6 ∧ ∀ k, k < s → (∃ i, i < 4 ∧ M 76 k = nI i) ∧ (∃ j, j < 4 ∧ M 77 k = nI j)
theorem e_m_allSeen {A B : Nat} {M : Mm} {Q : Po} {K c n s : Nat} (h : MD M K c n) (hs : SN M s) : WP 209 0 [.ref 58, mk, mk] [] (shw A B) (0, 0) M Q = if asE (ev (wT M) (M 63) (M 65) n) (M 76) (M 77) (M 78) s then Q (some (.int 1)) (shw A B) M else Q (some (.int 0)) (shw A B) M := by
  refine WP.isb (fun Q hQ => ?_)
  obtain ⟨s1, s2, s3⟩ := hs
  simp only [w_m_allSeen_0, w_m_allSeen_1, w_m_allSeen_2, w_m_allSeen_3, w_m_allSeen_5, w_m_allSeen_6, w_m_allSeen_9, w_m_allSeen_12, w_m_allSeen_13, w_m_allSeen_16, w_m_allSeen_17, w_m_allSeen_18, w_m_allSeen_21, w_m_allSeen_22, w_m_allSeen_23, w_m_allSeen_24, w_m_allSeen_27, w_m_allSeen_28, w_m_allSeen_29, w_m_allSeen_32, w_m_allSeen_35, w_m_allSeen_36, w_m_allSeen_39, w_m_allSeen_40, w_m_allSeen_41, w_m_allSeen_44, w_m_allSeen_45, w_m_allSeen_46, w_m_allSeen_49, w_m_allSeen_50, w_m_allSeen_53, w_m_allSeen_54, w_m_allSeen_55, w_m_allSeen_58, w_m_allSeen_61, w_m_allSeen_62, xm_30, xm_31, al_76, xm_32, al_77, cl_58, xm_33, al_78, i10, Bool.false_eq_true, eq_self, true_or, or_true, if_true, if_false, gv_int, gv_ref, av_some, al_some, un_int, un_ref, un_mk, ok4_0, ok4_1, ok4_2, ok4_3, ok4_4, Kn_some, Kn_none, true_and, and_true]
  refine for_up (n := s) (P := fun k => WP 209 4 [.ref 58, .int (if asE (ev (wT M) (M 63) (M 65) n) (M 76) (M 77) (M 78) k then 1 else 0), .int (nI k)] [] (shw A B) (0, 0) M Q) ?_ ?_
  · rw [w_m_allSeen_4]
    simp only [w_m_allSeen_0, w_m_allSeen_1, w_m_allSeen_2, w_m_allSeen_3, w_m_allSeen_5, w_m_allSeen_6, w_m_allSeen_9, w_m_allSeen_12, w_m_allSeen_13, w_m_allSeen_16, w_m_allSeen_17, w_m_allSeen_18, w_m_allSeen_21, w_m_allSeen_22, w_m_allSeen_23, w_m_allSeen_24, w_m_allSeen_27, w_m_allSeen_28, w_m_allSeen_29, w_m_allSeen_32, w_m_allSeen_35, w_m_allSeen_36, w_m_allSeen_39, w_m_allSeen_40, w_m_allSeen_41, w_m_allSeen_44, w_m_allSeen_45, w_m_allSeen_46, w_m_allSeen_49, w_m_allSeen_50, w_m_allSeen_53, w_m_allSeen_54, w_m_allSeen_55, w_m_allSeen_58, w_m_allSeen_61, w_m_allSeen_62, xm_30, xm_31, al_76, xm_32, al_77, cl_58, xm_33, al_78, s1, lt_irr, i10, Bool.false_eq_true, eq_self, true_or, or_true, if_true, if_false, gv_int, gv_ref, av_some, al_some, un_int, un_ref, un_mk, ok4_0, ok4_1, ok4_2, ok4_3, ok4_4, Kn_some, Kn_none, true_and, and_true]
    cases g : asE (ev (wT M) (M 63) (M 65) n) (M 76) (M 77) (M 78) s <;> simp only [g, if_true, if_false, Bool.false_eq_true, eq_self, true_or, or_true, true_and] at hQ ⊢ <;> exact hQ
  · intro k hk ih
    have g1 : nI k < nI s := nI_lt hk (by omega)
    have g2 : vp_in (nI k) 6 := vp_in_nI (by omega) (by decide)
    rw [w_m_allSeen_4]
    cases g : asE (ev (wT M) (M 63) (M 65) n) (M 76) (M 77) (M 78) k
    · have := asE_f g (s - k)
      rw [show k + (s - k) = s by omega] at this
      rw [this] at hQ
      simp only [w_m_allSeen_0, w_m_allSeen_1, w_m_allSeen_2, w_m_allSeen_3, w_m_allSeen_5, w_m_allSeen_6, w_m_allSeen_9, w_m_allSeen_12, w_m_allSeen_13, w_m_allSeen_16, w_m_allSeen_17, w_m_allSeen_18, w_m_allSeen_21, w_m_allSeen_22, w_m_allSeen_23, w_m_allSeen_24, w_m_allSeen_27, w_m_allSeen_28, w_m_allSeen_29, w_m_allSeen_32, w_m_allSeen_35, w_m_allSeen_36, w_m_allSeen_39, w_m_allSeen_40, w_m_allSeen_41, w_m_allSeen_44, w_m_allSeen_45, w_m_allSeen_46, w_m_allSeen_49, w_m_allSeen_50, w_m_allSeen_53, w_m_allSeen_54, w_m_allSeen_55, w_m_allSeen_58, w_m_allSeen_61, w_m_allSeen_62, xm_30, xm_31, al_76, xm_32, al_77, cl_58, xm_33, al_78, s1, g1, i10, Bool.false_eq_true, eq_self, true_or, or_true, if_true, if_false, gv_int, gv_ref, av_some, al_some, un_int, un_ref, un_mk, ok4_0, ok4_1, ok4_2, ok4_3, ok4_4, Kn_some, Kn_none, true_and, and_true]
      simp only [Bool.false_eq_true, if_false] at hQ
      exact hQ
    · obtain ⟨⟨i, i1, i2⟩, ⟨j, j1, j2⟩⟩ := s3 k hk
      rw [asE_s, g, Bool.true_and] at ih
      simp only [w_m_allSeen_0, w_m_allSeen_1, w_m_allSeen_2, w_m_allSeen_3, w_m_allSeen_5, w_m_allSeen_6, w_m_allSeen_9, w_m_allSeen_12, w_m_allSeen_13, w_m_allSeen_16, w_m_allSeen_17, w_m_allSeen_18, w_m_allSeen_21, w_m_allSeen_22, w_m_allSeen_23, w_m_allSeen_24, w_m_allSeen_27, w_m_allSeen_28, w_m_allSeen_29, w_m_allSeen_32, w_m_allSeen_35, w_m_allSeen_36, w_m_allSeen_39, w_m_allSeen_40, w_m_allSeen_41, w_m_allSeen_44, w_m_allSeen_45, w_m_allSeen_46, w_m_allSeen_49, w_m_allSeen_50, w_m_allSeen_53, w_m_allSeen_54, w_m_allSeen_55, w_m_allSeen_58, w_m_allSeen_61, w_m_allSeen_62, xm_30, xm_31, al_76, xm_32, al_77, cl_58, xm_33, al_78, s1, g1, g2, nI_1, nI_clamp (show k < 2 ^ 31 by omega), i2, j2, e_m_envyOf h i1, cl_58, i10, Bool.false_eq_true, eq_self, true_or, or_true, if_true, if_false, gv_int, gv_ref, av_some, al_some, un_int, un_ref, un_mk, ok4_0, ok4_1, ok4_2, ok4_3, ok4_4, Kn_some, Kn_none, true_and, and_true]
      unfold okK at ih
      rw [i2, j2, nI_clamp (show i < 2 ^ 31 by omega), nI_clamp (show j < 2 ^ 31 by omega)] at ih
      by_cases q : 0 < ev (wT M) (M 63) (M 65) n i j
      · simp only [q, if_true, decide_eq_true_eq] at ih ⊢
        by_cases q2 : 1 = M 78 k
        · simp only [← q2, if_true] at ih ⊢; exact ih
        · simp only [q2, if_false] at ih ⊢; exact ih
      · simp only [q, if_false, decide_eq_true_eq] at ih ⊢
        by_cases q2 : 0 = M 78 k
        · simp only [← q2, if_true] at ih ⊢; exact ih
        · simp only [q2, if_false] at ih ⊢; exact ih
/-- the past, with what is now behind it -/
def rmF (f h : Nat → Int32) (u : Nat) : Nat → Int32 := if u = 20 then (fun j => if j < 133 then f (j + 7) else if j < 140 then h (j - 133) else f j) else (fun j => if 7 * u ≤ j ∧ j < 7 * u + 7 then h (j - 7 * u) else f j)
def rmU (u : Nat) : Nat := if u = 20 then 20 else u + 1
theorem rem_tail {A B : Nat} {M : Mm} {Q : Po} {u : Nat} {f : Nat → Int32} {x : Value} (hM : M 58 26 = nI u) (hu : u < 20) (hQ : Q none (shw A B) (up (st M 73 (fun j => if 7 * u ≤ j ∧ j < 7 * u + 7 then M 65 (j - 7 * u) else M 73 j)) 58 26 (nI (u + 1)))) : WP 176 50 [.ref 58, x] [] (shw A B) (0, 0) M Q := by
  simp only [w_m_remember_0, w_m_remember_1, w_m_remember_4, w_m_remember_6, w_m_remember_9, w_m_remember_11, w_m_remember_13, w_m_remember_16, w_m_remember_19, w_m_remember_20, w_m_remember_23, w_m_remember_24, w_m_remember_26, w_m_remember_27, w_m_remember_28, w_m_remember_31, w_m_remember_32, w_m_remember_33, w_m_remember_34, w_m_remember_37, w_m_remember_40, w_m_remember_41, w_m_remember_42, w_m_remember_45, w_m_remember_46, w_m_remember_47, w_m_remember_50, w_m_remember_51, w_m_remember_53, w_m_remember_55, w_m_remember_58, w_m_remember_59, w_m_remember_62, w_m_remember_64, w_m_remember_65, w_m_remember_68, w_m_remember_69, w_m_remember_70, w_m_remember_71, w_m_remember_72, w_m_remember_75, w_m_remember_76, w_m_remember_77, w_m_remember_78, w_m_remember_81, w_m_remember_84, w_m_remember_85, w_m_remember_86, w_m_remember_89, w_m_remember_90, w_m_remember_91, w_m_remember_94, xm_26, xm_27, al_73, xm_9, al_65, i10, Bool.false_eq_true, eq_self, true_or, or_true, if_true, if_false, gv_int, gv_ref, av_some, al_some, un_int, un_ref, un_mk, ok4_0, ok4_1, ok4_2, ok4_3, ok4_4, Kn_some, Kn_none, true_and, and_true]
  have := for_up (n := 7) (P := fun k => WP 176 52 [.ref 58, .int (nI k)] [] (shw A B) (0, 0) (st M 73 (fun j => if 7 * u ≤ j ∧ j < 7 * u + k then M 65 (j - 7 * u) else M 73 j)) Q) ?_ ?_
  · rw [show (fun j => if 7 * u ≤ j ∧ j < 7 * u + 0 then M 65 (j - 7 * u) else M 73 j) = M 73 from by funext j; rw [if_neg (by omega)], st_self] at this
    exact this
  · rw [w_m_remember_52]
    simp only [w_m_remember_0, w_m_remember_1, w_m_remember_4, w_m_remember_6, w_m_remember_9, w_m_remember_11, w_m_remember_13, w_m_remember_16, w_m_remember_19, w_m_remember_20, w_m_remember_23, w_m_remember_24, w_m_remember_26, w_m_remember_27, w_m_remember_28, w_m_remember_31, w_m_remember_32, w_m_remember_33, w_m_remember_34, w_m_remember_37, w_m_remember_40, w_m_remember_41, w_m_remember_42, w_m_remember_45, w_m_remember_46, w_m_remember_47, w_m_remember_50, w_m_remember_51, w_m_remember_53, w_m_remember_55, w_m_remember_58, w_m_remember_59, w_m_remember_62, w_m_remember_64, w_m_remember_65, w_m_remember_68, w_m_remember_69, w_m_remember_70, w_m_remember_71, w_m_remember_72, w_m_remember_75, w_m_remember_76, w_m_remember_77, w_m_remember_78, w_m_remember_81, w_m_remember_84, w_m_remember_85, w_m_remember_86, w_m_remember_89, w_m_remember_90, w_m_remember_91, w_m_remember_94, xm_26, xm_27, al_73, xm_9, al_65, (show (nI 7 < 7) = False by decide), show ∀ f, st M 73 f 58 = M 58 from fun _ => rfl, hM, nI_1, i10, Bool.false_eq_true, eq_self, true_or, or_true, if_true, if_false, gv_int, gv_ref, av_some, al_some, un_int, un_ref, un_mk, ok4_0, ok4_1, ok4_2, ok4_3, ok4_4, Kn_some, Kn_none, true_and, and_true]
    exact hQ
  · intro k hk ih
    have g1 : (nI k < 7) = True := eq_true (nI_lt hk (by decide))
    have g2 : vp_in (nI k) 7 := vp_in_nI (by omega) (by decide)
    have g3 : vp_in (nI (7 * u + k)) 140 := vp_in_nI (by omega) (by decide)
    have g4 : (7 : Int32) * nI u + nI k = nI (7 * u + k) := by rw [show (7 : Int32) = nI 7 from rfl, pk_mul, nI_add]
    rw [w_m_remember_52]
    simp only [w_m_remember_0, w_m_remember_1, w_m_remember_4, w_m_remember_6, w_m_remember_9, w_m_remember_11, w_m_remember_13, w_m_remember_16, w_m_remember_19, w_m_remember_20, w_m_remember_23, w_m_remember_24, w_m_remember_26, w_m_remember_27, w_m_remember_28, w_m_remember_31, w_m_remember_32, w_m_remember_33, w_m_remember_34, w_m_remember_37, w_m_remember_40, w_m_remember_41, w_m_remember_42, w_m_remember_45, w_m_remember_46, w_m_remember_47, w_m_remember_50, w_m_remember_51, w_m_remember_53, w_m_remember_55, w_m_remember_58, w_m_remember_59, w_m_remember_62, w_m_remember_64, w_m_remember_65, w_m_remember_68, w_m_remember_69, w_m_remember_70, w_m_remember_71, w_m_remember_72, w_m_remember_75, w_m_remember_76, w_m_remember_77, w_m_remember_78, w_m_remember_81, w_m_remember_84, w_m_remember_85, w_m_remember_86, w_m_remember_89, w_m_remember_90, w_m_remember_91, w_m_remember_94, xm_26, xm_27, al_73, xm_9, al_65, g1, g2, g3, g4, nI_clamp (show k < 2 ^ 31 by omega), nI_clamp (show 7 * u + k < 2 ^ 31 by omega), nI_1, show ∀ f, st M 73 f 58 = M 58 from fun _ => rfl, show ∀ f, st M 73 f 65 = M 65 from fun _ => rfl, hM, i10, Bool.false_eq_true, eq_self, true_or, or_true, if_true, if_false, gv_int, gv_ref, av_some, al_some, un_int, un_ref, un_mk, ok4_0, ok4_1, ok4_2, ok4_3, ok4_4, Kn_some, Kn_none, true_and, and_true]
    rw [up_st]
    rw [show (upd (fun j => if 7 * u ≤ j ∧ j < 7 * u + k then M 65 (j - 7 * u) else M 73 j) (7 * u + k) (M 65 k)) = (fun j => if 7 * u ≤ j ∧ j < 7 * u + (k + 1) then M 65 (j - 7 * u) else M 73 j) from ?_]
    · exact ih
    · funext j
      unfold upd
      by_cases q : j = 7 * u + k
      · rw [if_pos q, if_pos (by omega), q, show 7 * u + k - 7 * u = k by omega]
      · rw [if_neg q]
        dsimp only
        by_cases q2 : 7 * u ≤ j ∧ j < 7 * u + k
        · rw [if_pos q2, if_pos (by omega)]
        · rw [if_neg q2, if_neg (by omega)]
theorem e_m_remember {A B : Nat} {M : Mm} {Q : Po} {u : Nat} (hM : M 58 26 = nI u) (hu : u ≤ 20) : WP 176 0 [.ref 58, mk] [] (shw A B) (0, 0) M Q = Q none (shw A B) (up (st M 73 (rmF (M 73) (M 65) u)) 58 26 (nI (rmU u))) := by
  refine WP.is (fun Q hQ => ?_)
  unfold rmF rmU at hQ
  by_cases h20 : u = 20
  · subst h20
    rw [if_pos rfl, if_pos rfl] at hQ
    simp only [w_m_remember_0, w_m_remember_1, w_m_remember_4, w_m_remember_6, w_m_remember_9, w_m_remember_11, w_m_remember_13, w_m_remember_16, w_m_remember_19, w_m_remember_20, w_m_remember_23, w_m_remember_24, w_m_remember_26, w_m_remember_27, w_m_remember_28, w_m_remember_31, w_m_remember_32, w_m_remember_33, w_m_remember_34, w_m_remember_37, w_m_remember_40, w_m_remember_41, w_m_remember_42, w_m_remember_45, w_m_remember_46, w_m_remember_47, w_m_remember_51, w_m_remember_53, w_m_remember_55, w_m_remember_58, w_m_remember_59, w_m_remember_62, w_m_remember_64, w_m_remember_65, w_m_remember_68, w_m_remember_69, w_m_remember_70, w_m_remember_71, w_m_remember_72, w_m_remember_75, w_m_remember_76, w_m_remember_77, w_m_remember_78, w_m_remember_81, w_m_remember_84, w_m_remember_85, w_m_remember_86, w_m_remember_89, w_m_remember_90, w_m_remember_91, w_m_remember_94, xm_26, xm_27, al_73, xm_9, al_65, hM, (show (nI 20 = 20) = True by decide), i10, Bool.false_eq_true, eq_self, true_or, or_true, if_true, if_false, gv_int, gv_ref, av_some, al_some, un_int, un_ref, un_mk, ok4_0, ok4_1, ok4_2, ok4_3, ok4_4, Kn_some, Kn_none, true_and, and_true]
    have := for_up (n := 133) (P := fun k => WP 176 12 [.ref 58, .int (nI (k + 7))] [] (shw A B) (0, 0) (st M 73 (fun j => if j < k then M 73 (j + 7) else M 73 j)) Q) ?_ ?_
    · rw [show (fun j => if j < 0 then M 73 (j + 7) else M 73 j) = M 73 from by funext j; rw [if_neg (by omega)], st_self] at this
      exact this
    · rw [w_m_remember_12]
      simp only [w_m_remember_0, w_m_remember_1, w_m_remember_4, w_m_remember_6, w_m_remember_9, w_m_remember_11, w_m_remember_13, w_m_remember_16, w_m_remember_19, w_m_remember_20, w_m_remember_23, w_m_remember_24, w_m_remember_26, w_m_remember_27, w_m_remember_28, w_m_remember_31, w_m_remember_32, w_m_remember_33, w_m_remember_34, w_m_remember_37, w_m_remember_40, w_m_remember_41, w_m_remember_42, w_m_remember_45, w_m_remember_46, w_m_remember_47, w_m_remember_51, w_m_remember_53, w_m_remember_55, w_m_remember_58, w_m_remember_59, w_m_remember_62, w_m_remember_64, w_m_remember_65, w_m_remember_68, w_m_remember_69, w_m_remember_70, w_m_remember_71, w_m_remember_72, w_m_remember_75, w_m_remember_76, w_m_remember_77, w_m_remember_78, w_m_remember_81, w_m_remember_84, w_m_remember_85, w_m_remember_86, w_m_remember_89, w_m_remember_90, w_m_remember_91, w_m_remember_94, xm_26, xm_27, al_73, xm_9, al_65, (show (nI (133 + 7) < 140) = False by decide), show ∀ f, st M 73 f 58 = M 58 from fun _ => rfl, hM, (show nI 20 - 1 = nI 19 by decide), i10, Bool.false_eq_true, eq_self, true_or, or_true, if_true, if_false, gv_int, gv_ref, av_some, al_some, un_int, un_ref, un_mk, ok4_0, ok4_1, ok4_2, ok4_3, ok4_4, Kn_some, Kn_none, true_and, and_true]
      refine rem_tail (f := M 73) rfl (by decide) ?_
      rw [show up (st (up (st M 73 (fun j => if j < 133 then M 73 (j + 7) else M 73 j)) 58 26 (nI 19)) 73 (fun j => if 7 * 19 ≤ j ∧ j < 7 * 19 + 7 then up (st M 73 (fun j => if j < 133 then M 73 (j + 7) else M 73 j)) 58 26 (nI 19) 65 (j - 7 * 19) else up (st M 73 (fun j => if j < 133 then M 73 (j + 7) else M 73 j)) 58 26 (nI 19) 73 j)) 58 26 (nI (19 + 1)) = up (st M 73 (fun j => if j < 133 then M 73 (j + 7) else if j < 140 then M 65 (j - 133) else M 73 j)) 58 26 (nI 20) from ?_]
      · exact hQ
      · funext a
        by_cases q1 : a = 58
        · subst q1
          funext j
          by_cases q : j = 26
          · subst q; rfl
          · simp [up, st, upd, q]
        · by_cases q2 : a = 73
          · subst q2
            funext j
            simp only [up, st]
            simp
            by_cases q3 : j < 133
            · simp [q3]; try omega
            · by_cases q4 : j < 140
              · simp [q3, q4]; try omega
              · simp [q3, q4]; try omega
          · simp [up, st, q1, q2]
    · intro k hk ih
      have g1 : (nI (k + 7) < 140) = True := eq_true (nI_lt (show k + 7 < 140 by omega) (by decide))
      have g2 : vp_in (nI (k + 7)) 140 := vp_in_nI (by omega) (by decide)
      have g3 : vp_in (nI k) 140 := vp_in_nI (by omega) (by decide)
      have g4 : nI (k + 7) - 7 = nI k := by
        have := pk_sub (a := k + 7) (b := 7) (by omega)
        rwa [Nat.add_sub_cancel] at this
      rw [w_m_remember_12]
      simp only [w_m_remember_0, w_m_remember_1, w_m_remember_4, w_m_remember_6, w_m_remember_9, w_m_remember_11, w_m_remember_13, w_m_remember_16, w_m_remember_19, w_m_remember_20, w_m_remember_23, w_m_remember_24, w_m_remember_26, w_m_remember_27, w_m_remember_28, w_m_remember_31, w_m_remember_32, w_m_remember_33, w_m_remember_34, w_m_remember_37, w_m_remember_40, w_m_remember_41, w_m_remember_42, w_m_remember_45, w_m_remember_46, w_m_remember_47, w_m_remember_51, w_m_remember_53, w_m_remember_55, w_m_remember_58, w_m_remember_59, w_m_remember_62, w_m_remember_64, w_m_remember_65, w_m_remember_68, w_m_remember_69, w_m_remember_70, w_m_remember_71, w_m_remember_72, w_m_remember_75, w_m_remember_76, w_m_remember_77, w_m_remember_78, w_m_remember_81, w_m_remember_84, w_m_remember_85, w_m_remember_86, w_m_remember_89, w_m_remember_90, w_m_remember_91, w_m_remember_94, xm_26, xm_27, al_73, xm_9, al_65, g1, g2, g3, g4, nI_clamp (show k < 2 ^ 31 by omega), nI_clamp (show k + 7 < 2 ^ 31 by omega), nI_1, i10, Bool.false_eq_true, eq_self, true_or, or_true, if_true, if_false, gv_int, gv_ref, av_some, al_some, un_int, un_ref, un_mk, ok4_0, ok4_1, ok4_2, ok4_3, ok4_4, Kn_some, Kn_none, true_and, and_true]
      rw [up_st]
      rw [show (upd (fun j => if j < k then M 73 (j + 7) else M 73 j) k (st M 73 (fun j => if j < k then M 73 (j + 7) else M 73 j) 73 (k + 7))) = (fun j => if j < k + 1 then M 73 (j + 7) else M 73 j) from ?_]
      · rw [show k + 7 + 1 = k + 1 + 7 by omega]; exact ih
      · funext j
        simp only [upd, st, if_true]
        by_cases q : j = k
        · rw [if_pos q, q, if_neg (show ¬ k + 7 < k by omega), if_pos (show k < k + 1 by omega)]
        · rw [if_neg q]
          by_cases q2 : j < k
          · rw [if_pos q2, if_pos (by omega)]
          · rw [if_neg q2, if_neg (by omega)]
  · rw [if_neg h20, if_neg h20] at hQ
    have g0 : (nI u = 20) = False := eq_false (fun h => h20 ((nI_eq (by omega) (by decide)).mp (h.trans (show (20 : Int32) = nI 20 from rfl))))
    simp only [w_m_remember_0, w_m_remember_1, w_m_remember_4, w_m_remember_6, w_m_remember_9, w_m_remember_11, w_m_remember_13, w_m_remember_16, w_m_remember_19, w_m_remember_20, w_m_remember_23, w_m_remember_24, w_m_remember_26, w_m_remember_27, w_m_remember_28, w_m_remember_31, w_m_remember_32, w_m_remember_33, w_m_remember_34, w_m_remember_37, w_m_remember_40, w_m_remember_41, w_m_remember_42, w_m_remember_45, w_m_remember_46, w_m_remember_47, w_m_remember_51, w_m_remember_53, w_m_remember_55, w_m_remember_58, w_m_remember_59, w_m_remember_62, w_m_remember_64, w_m_remember_65, w_m_remember_68, w_m_remember_69, w_m_remember_70, w_m_remember_71, w_m_remember_72, w_m_remember_75, w_m_remember_76, w_m_remember_77, w_m_remember_78, w_m_remember_81, w_m_remember_84, w_m_remember_85, w_m_remember_86, w_m_remember_89, w_m_remember_90, w_m_remember_91, w_m_remember_94, xm_26, xm_27, al_73, xm_9, al_65, hM, g0, i10, Bool.false_eq_true, eq_self, true_or, or_true, if_true, if_false, gv_int, gv_ref, av_some, al_some, un_int, un_ref, un_mk, ok4_0, ok4_1, ok4_2, ok4_3, ok4_4, Kn_some, Kn_none, true_and, and_true]
    exact rem_tail (f := M 73) hM (by omega) hQ
