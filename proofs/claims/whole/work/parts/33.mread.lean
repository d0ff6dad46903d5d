/-! the reference: what it reads -/
theorem e_m_in {sh : List Sh} {M : Mm} {Q : Po} {a b c : Int64} : WP 143 0 [.long a, mk, .long b, mk, .long c, mk] [] sh (0, 0) M Q = if rng a b c then Q (some (.int 1)) sh M else Q (some (.int 0)) sh M := by
  simp only [w_m_in_0, w_m_in_1, w_m_in_2, w_m_in_3, w_m_in_6, w_m_in_7, w_m_in_9, w_m_in_10, w_m_in_13, w_m_in_14, w_m_in_17, w_m_in_18, cmp_lt, cmp_gt, i10, Bool.false_eq_true, eq_self, true_or, or_true, if_true, if_false, gv_int, gv_ref, av_some, al_some, un_int, un_ref, un_mk, ok4_0, ok4_1, ok4_2, ok4_3, ok4_4, Kn_some, Kn_none, true_and, and_true]
  unfold rng
  by_cases q1 : a < b
  · rw [if_pos q1, if_neg (by simp [q1])]
  · rw [if_neg q1]
    by_cases q2 : c < a
    · rw [if_pos q2, if_neg (by simp [q2])]
    · rw [if_neg q2, if_pos (by simp [q1, q2])]
theorem e_m_has {sh : List Sh} {M : Mm} {Q : Po} {s k : Int32} : WP 144 0 [.int s, .int k] [] sh (0, 0) M Q = if bt s k then Q (some (.int 1)) sh M else Q (some (.int 0)) sh M := by
  simp only [w_m_has_0, w_m_has_1, w_m_has_2, w_m_has_3, w_m_has_4, w_m_has_5, w_m_has_6, w_m_has_9, w_m_has_10, w_m_has_13, w_m_has_14, bt_iff, i10, Bool.false_eq_true, eq_self, true_or, or_true, if_true, if_false, gv_int, gv_ref, av_some, al_some, un_int, un_ref, un_mk, ok4_0, ok4_1, ok4_2, ok4_3, ok4_4, Kn_some, Kn_none, true_and, and_true]
theorem e_m_isKind {A B : Nat} {M : Mm} {Q : Po} {k : Int32} {K c n : Nat} (h : MD M K c n) : WP 145 0 [.ref 58, .int k] [] (shw A B) (0, 0) M Q = if inb k K then Q (some (.int 1)) (shw A B) M else Q (some (.int 0)) (shw A B) M := by
  obtain ⟨h1, h2, h3, h4, h5, h6, h7⟩ := h
  simp only [w_m_isKind_0, w_m_isKind_1, w_m_isKind_2, w_m_isKind_3, w_m_isKind_4, w_m_isKind_7, w_m_isKind_8, w_m_isKind_9, w_m_isKind_10, w_m_isKind_13, xm_0, e_m_in, h1, rng_n (show K < 100000 by omega), i10, Bool.false_eq_true, eq_self, true_or, or_true, if_true, if_false, gv_int, gv_ref, av_some, al_some, un_int, un_ref, un_mk, ok4_0, ok4_1, ok4_2, ok4_3, ok4_4, Kn_some, Kn_none, true_and, and_true]
theorem e_m_isChild {A B : Nat} {M : Mm} {Q : Po} {k : Int32} {K c n : Nat} (h : MD M K c n) : WP 146 0 [.ref 58, .int k] [] (shw A B) (0, 0) M Q = if inb k c then Q (some (.int 1)) (shw A B) M else Q (some (.int 0)) (shw A B) M := by
  obtain ⟨h1, h2, h3, h4, h5, h6, h7⟩ := h
  simp only [w_m_isChild_0, w_m_isChild_1, w_m_isChild_2, w_m_isChild_3, w_m_isChild_4, w_m_isChild_7, w_m_isChild_8, w_m_isChild_9, w_m_isChild_10, w_m_isChild_13, xm_3, e_m_in, h2, rng_n (show c < 100000 by omega), i10, Bool.false_eq_true, eq_self, true_or, or_true, if_true, if_false, gv_int, gv_ref, av_some, al_some, un_int, un_ref, un_mk, ok4_0, ok4_1, ok4_2, ok4_3, ok4_4, Kn_some, Kn_none, true_and, and_true]
theorem e_m_isThing {A B : Nat} {M : Mm} {Q : Po} {k : Int32} {K c n : Nat} (h : MD M K c n) : WP 147 0 [.ref 58, .int k] [] (shw A B) (0, 0) M Q = if inb k n then Q (some (.int 1)) (shw A B) M else Q (some (.int 0)) (shw A B) M := by
  obtain ⟨h1, h2, h3, h4, h5, h6, h7⟩ := h
  simp only [w_m_isThing_0, w_m_isThing_1, w_m_isThing_2, w_m_isThing_3, w_m_isThing_4, w_m_isThing_7, w_m_isThing_8, w_m_isThing_9, w_m_isThing_10, w_m_isThing_13, xm_7, e_m_in, h3, rng_n (show n < 100000 by omega), i10, Bool.false_eq_true, eq_self, true_or, or_true, if_true, if_false, gv_int, gv_ref, av_some, al_some, un_int, un_ref, un_mk, ok4_0, ok4_1, ok4_2, ok4_3, ok4_4, Kn_some, Kn_none, true_and, and_true]
theorem e_m_areTwo {A B : Nat} {M : Mm} {Q : Po} {k d : Int32} {K c n : Nat} (h : MD M K c n) : WP 148 0 [.ref 58, .int k, .int d] [] (shw A B) (0, 0) M Q = if inb k c = true ∧ inb d c = true ∧ ¬ k = d then Q (some (.int 1)) (shw A B) M else Q (some (.int 0)) (shw A B) M := by
  simp only [w_m_areTwo_0, w_m_areTwo_1, w_m_areTwo_2, w_m_areTwo_5, w_m_areTwo_8, w_m_areTwo_9, w_m_areTwo_10, w_m_areTwo_13, w_m_areTwo_16, w_m_areTwo_17, w_m_areTwo_18, w_m_areTwo_21, w_m_areTwo_22, w_m_areTwo_25, w_m_areTwo_26, cl_58, e_m_isChild h, i10, Bool.false_eq_true, eq_self, true_or, or_true, if_true, if_false, gv_int, gv_ref, av_some, al_some, un_int, un_ref, un_mk, ok4_0, ok4_1, ok4_2, ok4_3, ok4_4, Kn_some, Kn_none, true_and, and_true]
  cases g1 : inb k c <;> cases g2 : inb d c <;> by_cases g3 : k = d <;> simp only [g3, if_true, if_false, Bool.false_eq_true, i10, true_and, false_and, and_true, and_false, not_true_eq_false, not_false_eq_true, eq_self]
theorem e_m_bagOf {A B : Nat} {M : Mm} {Q : Po} {o : Int32} {K c n : Nat} (h : MD M K c n) : WP 162 0 [.ref 58, .int o, mk, mk] [] (shw A B) (0, 0) M Q = Q (some (.int (bagE (M 65) n o))) (shw A B) M := by
  refine WP.is (fun Q hQ => ?_)
  obtain ⟨h1, h2, h3, h4, h5, h6, h7⟩ := h
  simp only [w_m_bagOf_0, w_m_bagOf_1, w_m_bagOf_2, w_m_bagOf_3, w_m_bagOf_5, w_m_bagOf_6, w_m_bagOf_9, w_m_bagOf_12, w_m_bagOf_13, w_m_bagOf_14, w_m_bagOf_17, w_m_bagOf_18, w_m_bagOf_19, w_m_bagOf_20, w_m_bagOf_23, w_m_bagOf_24, w_m_bagOf_25, w_m_bagOf_26, w_m_bagOf_29, w_m_bagOf_30, w_m_bagOf_31, w_m_bagOf_32, w_m_bagOf_35, w_m_bagOf_38, w_m_bagOf_39, xm_7, xm_9, al_65, i10, Bool.false_eq_true, eq_self, true_or, or_true, if_true, if_false, gv_int, gv_ref, av_some, al_some, un_int, un_ref, un_mk, ok4_0, ok4_1, ok4_2, ok4_3, ok4_4, Kn_some, Kn_none, true_and, and_true]
  refine for_up (n := n) (P := fun k => WP 162 4 [.ref 58, .int o, .int (bagE (M 65) k o), .int (nI k)] [] (shw A B) (0, 0) M Q) ?_ ?_
  · rw [w_m_bagOf_4]
    simp only [w_m_bagOf_0, w_m_bagOf_1, w_m_bagOf_2, w_m_bagOf_3, w_m_bagOf_5, w_m_bagOf_6, w_m_bagOf_9, w_m_bagOf_12, w_m_bagOf_13, w_m_bagOf_14, w_m_bagOf_17, w_m_bagOf_18, w_m_bagOf_19, w_m_bagOf_20, w_m_bagOf_23, w_m_bagOf_24, w_m_bagOf_25, w_m_bagOf_26, w_m_bagOf_29, w_m_bagOf_30, w_m_bagOf_31, w_m_bagOf_32, w_m_bagOf_35, w_m_bagOf_38, w_m_bagOf_39, xm_7, xm_9, al_65, h3, lt_irr, i10, Bool.false_eq_true, eq_self, true_or, or_true, if_true, if_false, gv_int, gv_ref, av_some, al_some, un_int, un_ref, un_mk, ok4_0, ok4_1, ok4_2, ok4_3, ok4_4, Kn_some, Kn_none, true_and, and_true]
    exact hQ
  · intro k hk ih
    have g1 : nI k < nI n := nI_lt hk (by omega)
    have g2 : vp_in (nI k) 7 := vp_in_nI (by omega) (by decide)
    rw [w_m_bagOf_4]
    simp only [w_m_bagOf_0, w_m_bagOf_1, w_m_bagOf_2, w_m_bagOf_3, w_m_bagOf_5, w_m_bagOf_6, w_m_bagOf_9, w_m_bagOf_12, w_m_bagOf_13, w_m_bagOf_14, w_m_bagOf_17, w_m_bagOf_18, w_m_bagOf_19, w_m_bagOf_20, w_m_bagOf_23, w_m_bagOf_24, w_m_bagOf_25, w_m_bagOf_26, w_m_bagOf_29, w_m_bagOf_30, w_m_bagOf_31, w_m_bagOf_32, w_m_bagOf_35, w_m_bagOf_38, w_m_bagOf_39, xm_7, xm_9, al_65, h3, g1, g2, nI_clamp (show k < 2 ^ 31 by omega), nI_1, i10, Bool.false_eq_true, eq_self, true_or, or_true, if_true, if_false, gv_int, gv_ref, av_some, al_some, un_int, un_ref, un_mk, ok4_0, ok4_1, ok4_2, ok4_3, ok4_4, Kn_some, Kn_none, true_and, and_true]
    simp only [bagE, lp_s] at ih ⊢
    by_cases g3 : M 65 k = o
    · simp only [g3, if_true] at ih ⊢; exact ih
    · simp only [g3, if_false] at ih ⊢; exact ih
theorem e_m_worthOf {A B : Nat} {M : Mm} {Q : Po} {i j : Nat} (hi : i < 4) (hj : j < 5) : WP 163 0 [.ref 58, .int (nI i), .int (nI j)] [] (shw A B) (0, 0) M Q = Q (some (.int (wN M i j))) (shw A B) M := by
  have g1 : vp_in (nI i) 4 := vp_in_nI hi (by decide)
  have g2 : vp_in (nI (5 * i + j)) 20 := vp_in_nI (by omega) (by decide)
  have g3 : (5 : Int32) * nI i + nI j = nI (5 * i + j) := by rw [show (5 : Int32) = nI 5 from rfl, pk_mul, nI_add]
  simp only [w_m_worthOf_0, w_m_worthOf_1, w_m_worthOf_4, w_m_worthOf_5, w_m_worthOf_6, w_m_worthOf_7, w_m_worthOf_10, w_m_worthOf_13, w_m_worthOf_14, w_m_worthOf_17, w_m_worthOf_18, w_m_worthOf_21, w_m_worthOf_22, w_m_worthOf_23, w_m_worthOf_24, w_m_worthOf_25, w_m_worthOf_26, w_m_worthOf_27, xm_4, al_61, xm_5, al_62, e_m_has, g1, g2, g3, nI_clamp (show i < 2 ^ 31 by omega), nI_clamp (show 5 * i + j < 2 ^ 31 by omega), i10, Bool.false_eq_true, eq_self, true_or, or_true, if_true, if_false, gv_int, gv_ref, av_some, al_some, un_int, un_ref, un_mk, ok4_0, ok4_1, ok4_2, ok4_3, ok4_4, Kn_some, Kn_none, true_and, and_true]
  unfold wN
  cases g : bt (M 61 i) (nI j) <;> simp only [if_true, if_false, Bool.false_eq_true]
theorem e_m_worth {A B : Nat} {M : Mm} {Q : Po} {i : Nat} {o : Int32} {K c n : Nat} (h : MD M K c n) (hi : i < 4) : WP 164 0 [.ref 58, .int (nI i), .int o, mk, mk] [] (shw A B) (0, 0) M Q = Q (some (.int (wo (wT M) (M 65) n i o))) (shw A B) M := by
  refine WP.is (fun Q hQ => ?_)
  obtain ⟨h1, h2, h3, h4, h5, h6, h7⟩ := id h
  simp only [w_m_worth_0, w_m_worth_1, w_m_worth_2, w_m_worth_3, w_m_worth_7, w_m_worth_8, w_m_worth_11, w_m_worth_14, w_m_worth_15, w_m_worth_16, w_m_worth_19, w_m_worth_21, w_m_worth_22, w_m_worth_23, w_m_worth_26, w_m_worth_27, w_m_worth_28, w_m_worth_29, w_m_worth_32, w_m_worth_34, w_m_worth_35, w_m_worth_38, w_m_worth_41, w_m_worth_42, w_m_worth_43, w_m_worth_44, w_m_worth_47, w_m_worth_50, w_m_worth_51, xm_7, xm_9, al_65, xm_8, al_64, cl_58, i10, Bool.false_eq_true, eq_self, true_or, or_true, if_true, if_false, gv_int, gv_ref, av_some, al_some, un_int, un_ref, un_mk, ok4_0, ok4_1, ok4_2, ok4_3, ok4_4, Kn_some, Kn_none, true_and, and_true]
  refine for_up (n := n) (P := fun k => WP 164 5 [.ref 58, .int (nI i), .int o, .int (wo (wT M) (M 65) k i o), .int (nI k)] [] (shw A B) (0, 0) M Q) ?_ ?_
  · rw [w_m_worth_5]
    simp only [w_m_worth_0, w_m_worth_1, w_m_worth_2, w_m_worth_3, w_m_worth_7, w_m_worth_8, w_m_worth_11, w_m_worth_14, w_m_worth_15, w_m_worth_16, w_m_worth_19, w_m_worth_21, w_m_worth_22, w_m_worth_23, w_m_worth_26, w_m_worth_27, w_m_worth_28, w_m_worth_29, w_m_worth_32, w_m_worth_34, w_m_worth_35, w_m_worth_38, w_m_worth_41, w_m_worth_42, w_m_worth_43, w_m_worth_44, w_m_worth_47, w_m_worth_50, w_m_worth_51, xm_7, xm_9, al_65, xm_8, al_64, cl_58, h3, lt_irr, i10, Bool.false_eq_true, eq_self, true_or, or_true, if_true, if_false, gv_int, gv_ref, av_some, al_some, un_int, un_ref, un_mk, ok4_0, ok4_1, ok4_2, ok4_3, ok4_4, Kn_some, Kn_none, true_and, and_true]
    exact hQ
  · intro k hk ih
    have g1 : nI k < nI n := nI_lt hk (by omega)
    have g2 : vp_in (nI k) 7 := vp_in_nI (by omega) (by decide)
    have g4 := kN_ok h (show k < 7 by omega)
    rw [w_m_worth_5]
    simp only [w_m_worth_0, w_m_worth_1, w_m_worth_2, w_m_worth_3, w_m_worth_7, w_m_worth_8, w_m_worth_11, w_m_worth_14, w_m_worth_15, w_m_worth_16, w_m_worth_19, w_m_worth_21, w_m_worth_22, w_m_worth_23, w_m_worth_26, w_m_worth_27, w_m_worth_28, w_m_worth_29, w_m_worth_32, w_m_worth_34, w_m_worth_35, w_m_worth_38, w_m_worth_41, w_m_worth_42, w_m_worth_43, w_m_worth_44, w_m_worth_47, w_m_worth_50, w_m_worth_51, xm_7, xm_9, al_65, xm_8, al_64, cl_58, h3, g1, g2, nI_clamp (show k < 2 ^ 31 by omega), nI_1, g4.2, e_m_worthOf hi g4.1, cl_58, i10, Bool.false_eq_true, eq_self, true_or, or_true, if_true, if_false, gv_int, gv_ref, av_some, al_some, un_int, un_ref, un_mk, ok4_0, ok4_1, ok4_2, ok4_3, ok4_4, Kn_some, Kn_none, true_and, and_true]
    simp only [wo, lp_s] at ih ⊢
    by_cases g3 : M 65 k = o
    · simp only [g3, if_true] at ih ⊢; exact ih
    · simp only [g3, if_false] at ih ⊢; exact ih
theorem e_m_envyOf {A B : Nat} {M : Mm} {Q : Po} {i j : Nat} {K c n : Nat} (h : MD M K c n) (hi : i < 4) : WP 165 0 [.ref 58, .int (nI i), .int (nI j), mk] [] (shw A B) (0, 0) M Q = Q (some (.int (ev (wT M) (M 63) (M 65) n i j))) (shw A B) M := by
  have g1 : vp_in (nI i) 4 := vp_in_nI hi (by decide)
  simp only [w_m_envyOf_0, w_m_envyOf_1, w_m_envyOf_4, w_m_envyOf_5, w_m_envyOf_6, w_m_envyOf_7, w_m_envyOf_10, w_m_envyOf_13, w_m_envyOf_14, w_m_envyOf_15, w_m_envyOf_16, w_m_envyOf_17, w_m_envyOf_18, w_m_envyOf_21, w_m_envyOf_22, w_m_envyOf_23, w_m_envyOf_24, w_m_envyOf_27, w_m_envyOf_28, w_m_envyOf_29, w_m_envyOf_30, w_m_envyOf_33, w_m_envyOf_34, w_m_envyOf_37, w_m_envyOf_38, xm_6, al_63, cl_58, e_m_has, g1, nI_clamp (show i < 2 ^ 31 by omega), e_m_worth h hi, cl_58, i10, Bool.false_eq_true, eq_self, true_or, or_true, if_true, if_false, gv_int, gv_ref, av_some, al_some, un_int, un_ref, un_mk, ok4_0, ok4_1, ok4_2, ok4_3, ok4_4, Kn_some, Kn_none, true_and, and_true]
  unfold ev mx0
  cases g : bt (M 63 i) (nI j)
  · simp only [if_false, if_true, Bool.false_eq_true]
  · simp only [if_true, i10, if_false]
    by_cases g2 : 0 < wo (wT M) (M 65) n i (nI j) - wo (wT M) (M 65) n i (nI i)
    · simp only [g2, if_true]
    · simp only [g2, if_false]
