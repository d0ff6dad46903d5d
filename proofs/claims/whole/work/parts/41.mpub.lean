/-! the reference's public methods: draws, images, odds -/
theorem up_st_ne (M : Mm) {a b : Nat} (k : Nat) (f : Nat → Int32) (x : Int32) (h : ¬ b = a) : up (st M a f) b k x = st (up M b k x) a f := by
  funext y
  simp only [up, st]
  by_cases h1 : y = b
  · subst h1; simp [h]
  · by_cases h2 : y = a
    · simp [h1, h2]
      intro h3; exact absurd h3.symm h
    · simp [h1, h2]
theorem up_up (M : Mm) (o k : Nat) (x y : Int32) : up (up M o k x) o k y = up M o k y := by
  funext a; unfold up
  by_cases h : a = o
  · rw [if_pos h, if_pos h, if_pos rfl]
    funext j; unfold upd; split <;> rfl
  · rw [if_neg h, if_neg h, if_neg h]
/-- what k-th kind is best for w: least envy, none that is barred -/
def spV (W : Nat → Nat → Int32) (lk h : Nat → Int32) (n c : Nat) (w : Int32) (X : Nat → Nat → Int32) (ban : Nat → Bool) (k : Nat) : Int32 := if ban k then 100000000 else spE W lk h n c w (fun i => X i k)
def spB (V : Nat → Int32) (k : Nat) : Int32 × Int32 := lp (fun k s => if V k < s.2 then (nI k, V k) else s) k (-1, 100000000)
theorem spB_s (V : Nat → Int32) (k : Nat) : spB V (k + 1) = if V k < (spB V k).2 then (nI k, V k) else spB V k := rfl
theorem e_m_spare {A B : Nat} {M : Mm} {Q : Po} {K c n : Nat} {w : Int32} (h : MD M K c n) : WP 206 0 [.ref 58, .int w, mk, mk, mk, mk] [] (shw A B) (0, 0) M Q = if inb w c then Q (some (.int (spB (spV (wT M) (M 63) (M 65) n c w (wN M) (fun k => bt (M 61 w.toNatClampNeg) (nI k))) K).1)) (shw A B) M else Q (some (.int (-1000000001))) (shw A B) M := by
  cases hw : inb w c
  · simp only [w_m_spare_0, w_m_spare_1, w_m_spare_2, w_m_spare_5, w_m_spare_8, w_m_spare_10, w_m_spare_11, w_m_spare_12, w_m_spare_13, w_m_spare_16, w_m_spare_17, w_m_spare_18, w_m_spare_22, w_m_spare_23, w_m_spare_26, w_m_spare_29, w_m_spare_30, w_m_spare_33, w_m_spare_34, w_m_spare_35, w_m_spare_37, w_m_spare_40, w_m_spare_43, w_m_spare_46, w_m_spare_49, w_m_spare_50, w_m_spare_51, w_m_spare_53, w_m_spare_56, w_m_spare_58, w_m_spare_60, w_m_spare_61, w_m_spare_64, w_m_spare_66, w_m_spare_69, w_m_spare_70, w_m_spare_71, w_m_spare_73, w_m_spare_74, w_m_spare_77, w_m_spare_79, w_m_spare_82, w_m_spare_83, w_m_spare_84, w_m_spare_87, w_m_spare_90, w_m_spare_91, cl_58, xm_0, xm_4, al_61, e_m_isChild h, hw, cl_58, i10, Bool.false_eq_true, eq_self, true_or, or_true, if_true, if_false, gv_int, gv_ref, av_some, al_some, un_int, un_ref, un_mk, ok4_0, ok4_1, ok4_2, ok4_3, ok4_4, Kn_some, Kn_none, true_and, and_true]
  · refine WP.is (fun Q hQ => ?_)
    obtain ⟨h1, h2, h3, h4, h5, h6, h7⟩ := id h
    have g5 : vp_in w 4 := by
      obtain ⟨j, j1, rfl⟩ := inb_of hw (by omega)
      exact vp_in_nI (by omega) (by decide)
    simp only [w_m_spare_0, w_m_spare_1, w_m_spare_2, w_m_spare_5, w_m_spare_8, w_m_spare_10, w_m_spare_11, w_m_spare_12, w_m_spare_13, w_m_spare_16, w_m_spare_17, w_m_spare_18, w_m_spare_22, w_m_spare_23, w_m_spare_26, w_m_spare_29, w_m_spare_30, w_m_spare_33, w_m_spare_34, w_m_spare_35, w_m_spare_37, w_m_spare_40, w_m_spare_43, w_m_spare_46, w_m_spare_49, w_m_spare_50, w_m_spare_51, w_m_spare_53, w_m_spare_56, w_m_spare_58, w_m_spare_60, w_m_spare_61, w_m_spare_64, w_m_spare_66, w_m_spare_69, w_m_spare_70, w_m_spare_71, w_m_spare_73, w_m_spare_74, w_m_spare_77, w_m_spare_79, w_m_spare_82, w_m_spare_83, w_m_spare_84, w_m_spare_87, w_m_spare_90, w_m_spare_91, cl_58, xm_0, xm_4, al_61, e_m_isChild h, hw, cl_58, i10, Bool.false_eq_true, eq_self, true_or, or_true, if_true, if_false, gv_int, gv_ref, av_some, al_some, un_int, un_ref, un_mk, ok4_0, ok4_1, ok4_2, ok4_3, ok4_4, Kn_some, Kn_none, true_and, and_true]
    refine for_up (n := K) (P := fun k => ∀ j5, WP 206 20 [.ref 58, .int w, .int (spB (spV (wT M) (M 63) (M 65) n c w (wN M) (fun k => bt (M 61 w.toNatClampNeg) (nI k))) k).1, .int (spB (spV (wT M) (M 63) (M 65) n c w (wN M) (fun k => bt (M 61 w.toNatClampNeg) (nI k))) k).2, .int (nI k), j5] [] (shw A B) (0, 0) M Q) ?_ ?_ mk
    · intro j5
      rw [w_m_spare_20]
      simp only [w_m_spare_0, w_m_spare_1, w_m_spare_2, w_m_spare_5, w_m_spare_8, w_m_spare_10, w_m_spare_11, w_m_spare_12, w_m_spare_13, w_m_spare_16, w_m_spare_17, w_m_spare_18, w_m_spare_22, w_m_spare_23, w_m_spare_26, w_m_spare_29, w_m_spare_30, w_m_spare_33, w_m_spare_34, w_m_spare_35, w_m_spare_37, w_m_spare_40, w_m_spare_43, w_m_spare_46, w_m_spare_49, w_m_spare_50, w_m_spare_51, w_m_spare_53, w_m_spare_56, w_m_spare_58, w_m_spare_60, w_m_spare_61, w_m_spare_64, w_m_spare_66, w_m_spare_69, w_m_spare_70, w_m_spare_71, w_m_spare_73, w_m_spare_74, w_m_spare_77, w_m_spare_79, w_m_spare_82, w_m_spare_83, w_m_spare_84, w_m_spare_87, w_m_spare_90, w_m_spare_91, cl_58, xm_0, xm_4, al_61, h1, lt_irr, i10, Bool.false_eq_true, eq_self, true_or, or_true, if_true, if_false, gv_int, gv_ref, av_some, al_some, un_int, un_ref, un_mk, ok4_0, ok4_1, ok4_2, ok4_3, ok4_4, Kn_some, Kn_none, true_and, and_true]
      exact hQ
    · intro k hk ih j5
      have g1 : nI k < nI K := nI_lt hk (by omega)
      rw [w_m_spare_20]
      rw [spB_s] at ih
      generalize spB (spV (wT M) (M 63) (M 65) n c w (wN M) (fun k => bt (M 61 w.toNatClampNeg) (nI k))) k = s0 at ih ⊢
      have ev : spV (wT M) (M 63) (M 65) n c w (wN M) (fun k => bt (M 61 w.toNatClampNeg) (nI k)) k = if bt (M 61 w.toNatClampNeg) (nI k) then 100000000 else spE (wT M) (M 63) (M 65) n c w (fun i => wN M i k) := rfl
      rw [ev] at ih
      simp only [w_m_spare_0, w_m_spare_1, w_m_spare_2, w_m_spare_5, w_m_spare_8, w_m_spare_10, w_m_spare_11, w_m_spare_12, w_m_spare_13, w_m_spare_16, w_m_spare_17, w_m_spare_18, w_m_spare_22, w_m_spare_23, w_m_spare_26, w_m_spare_29, w_m_spare_30, w_m_spare_33, w_m_spare_34, w_m_spare_35, w_m_spare_37, w_m_spare_40, w_m_spare_43, w_m_spare_46, w_m_spare_49, w_m_spare_50, w_m_spare_51, w_m_spare_53, w_m_spare_56, w_m_spare_58, w_m_spare_60, w_m_spare_61, w_m_spare_64, w_m_spare_66, w_m_spare_69, w_m_spare_70, w_m_spare_71, w_m_spare_73, w_m_spare_74, w_m_spare_77, w_m_spare_79, w_m_spare_82, w_m_spare_83, w_m_spare_84, w_m_spare_87, w_m_spare_90, w_m_spare_91, cl_58, xm_0, xm_4, al_61, h1, g1, g5, nI_1, e_m_has, e_m_envyWith h (show k < 5 by omega), cl_58, i10, Bool.false_eq_true, eq_self, true_or, or_true, if_true, if_false, gv_int, gv_ref, av_some, al_some, un_int, un_ref, un_mk, ok4_0, ok4_1, ok4_2, ok4_3, ok4_4, Kn_some, Kn_none, true_and, and_true]
      cases q : bt (M 61 w.toNatClampNeg) (nI k)
      · simp only [q, Bool.false_eq_true, if_false, if_true] at ih ⊢
        by_cases q2 : spE (wT M) (M 63) (M 65) n c w (fun i => wN M i k) < s0.2
        · simp only [q2, if_true] at ih ⊢; exact ih _
        · simp only [q2, if_false] at ih ⊢; exact ih _
      · simp only [q, i10, if_false, if_true] at ih ⊢
        by_cases q2 : 100000000 < s0.2
        · simp only [q2, if_true] at ih ⊢; exact ih _
        · simp only [q2, if_false] at ih ⊢; exact ih _
def dryS (e : Int32) (o : Int64) : Int64 := if 0 < e then o * (if e < 100 then 100 - e else 0).toInt64 / 100 else o
def dryI (E : Nat → Int32) (c : Nat) (o : Int64) : Int64 := lp (fun j o => dryS (E j) o) c o
def dryE (E : Nat → Nat → Int32) (c : Nat) : Int64 := lp (fun i o => dryI (E i) c o) c 1000000000
theorem e_m_dry {A B : Nat} {M : Mm} {Q : Po} {K c n : Nat} (h : MD M K c n) : WP 207 0 [.ref 58, mk, mk, mk, mk, mk] [] (shw A B) (0, 0) M Q = Q (some (.int (dryE (ev (wT M) (M 63) (M 65) n) c).toInt32)) (shw A B) M := by
  refine WP.is (fun Q hQ => ?_)
  obtain ⟨h1, h2, h3, h4, h5, h6, h7⟩ := id h
  simp only [w_m_dry_0, w_m_dry_3, w_m_dry_4, w_m_dry_5, w_m_dry_7, w_m_dry_8, w_m_dry_11, w_m_dry_14, w_m_dry_15, w_m_dry_19, w_m_dry_20, w_m_dry_23, w_m_dry_26, w_m_dry_27, w_m_dry_28, w_m_dry_30, w_m_dry_33, w_m_dry_35, w_m_dry_37, w_m_dry_40, w_m_dry_41, w_m_dry_43, w_m_dry_45, w_m_dry_48, w_m_dry_50, w_m_dry_52, w_m_dry_53, w_m_dry_56, w_m_dry_57, w_m_dry_58, w_m_dry_59, w_m_dry_62, w_m_dry_63, w_m_dry_66, w_m_dry_67, w_m_dry_68, w_m_dry_71, w_m_dry_74, w_m_dry_77, w_m_dry_80, w_m_dry_81, w_m_dry_82, xm_3, cl_58, i10, Bool.false_eq_true, eq_self, true_or, or_true, if_true, if_false, gv_int, gv_ref, av_some, al_some, un_int, un_ref, un_mk, ok4_0, ok4_1, ok4_2, ok4_3, ok4_4, Kn_some, Kn_none, true_and, and_true]
  refine for_up (n := c) (P := fun i => ∀ j4 j5, WP 207 6 [.ref 58, .long (lp (fun i o => dryI (ev (wT M) (M 63) (M 65) n i) c o) i 1000000000), mk, .int (nI i), j4, j5] [] (shw A B) (0, 0) M Q) ?_ ?_ mk mk
  · intro j4 j5
    rw [w_m_dry_6]
    simp only [w_m_dry_0, w_m_dry_3, w_m_dry_4, w_m_dry_5, w_m_dry_7, w_m_dry_8, w_m_dry_11, w_m_dry_14, w_m_dry_15, w_m_dry_19, w_m_dry_20, w_m_dry_23, w_m_dry_26, w_m_dry_27, w_m_dry_28, w_m_dry_30, w_m_dry_33, w_m_dry_35, w_m_dry_37, w_m_dry_40, w_m_dry_41, w_m_dry_43, w_m_dry_45, w_m_dry_48, w_m_dry_50, w_m_dry_52, w_m_dry_53, w_m_dry_56, w_m_dry_57, w_m_dry_58, w_m_dry_59, w_m_dry_62, w_m_dry_63, w_m_dry_66, w_m_dry_67, w_m_dry_68, w_m_dry_71, w_m_dry_74, w_m_dry_77, w_m_dry_80, w_m_dry_81, w_m_dry_82, xm_3, cl_58, h2, lt_irr, i10, Bool.false_eq_true, eq_self, true_or, or_true, if_true, if_false, gv_int, gv_ref, av_some, al_some, un_int, un_ref, un_mk, ok4_0, ok4_1, ok4_2, ok4_3, ok4_4, Kn_some, Kn_none, true_and, and_true]
    exact hQ
  · intro i hi ih j4 j5
    have g1 : nI i < nI c := nI_lt hi (by omega)
    rw [w_m_dry_6]
    simp only [w_m_dry_0, w_m_dry_3, w_m_dry_4, w_m_dry_5, w_m_dry_7, w_m_dry_8, w_m_dry_11, w_m_dry_14, w_m_dry_15, w_m_dry_19, w_m_dry_20, w_m_dry_23, w_m_dry_26, w_m_dry_27, w_m_dry_28, w_m_dry_30, w_m_dry_33, w_m_dry_35, w_m_dry_37, w_m_dry_40, w_m_dry_41, w_m_dry_43, w_m_dry_45, w_m_dry_48, w_m_dry_50, w_m_dry_52, w_m_dry_53, w_m_dry_56, w_m_dry_57, w_m_dry_58, w_m_dry_59, w_m_dry_62, w_m_dry_63, w_m_dry_66, w_m_dry_67, w_m_dry_68, w_m_dry_71, w_m_dry_74, w_m_dry_77, w_m_dry_80, w_m_dry_81, w_m_dry_82, xm_3, cl_58, h2, g1, i10, Bool.false_eq_true, eq_self, true_or, or_true, if_true, if_false, gv_int, gv_ref, av_some, al_some, un_int, un_ref, un_mk, ok4_0, ok4_1, ok4_2, ok4_3, ok4_4, Kn_some, Kn_none, true_and, and_true]
    simp only [lp_s] at ih
    generalize lp (fun i o => dryI (ev (wT M) (M 63) (M 65) n i) c o) i 1000000000 = s0 at ih ⊢
    refine for_up (n := c) (P := fun j => ∀ j5, WP 207 17 [.ref 58, .long (dryI (ev (wT M) (M 63) (M 65) n i) j s0), mk, .int (nI i), .int (nI j), j5] [] (shw A B) (0, 0) M Q) ?_ ?_ _
    · intro j5
      rw [w_m_dry_17]
      simp only [w_m_dry_0, w_m_dry_3, w_m_dry_4, w_m_dry_5, w_m_dry_7, w_m_dry_8, w_m_dry_11, w_m_dry_14, w_m_dry_15, w_m_dry_19, w_m_dry_20, w_m_dry_23, w_m_dry_26, w_m_dry_27, w_m_dry_28, w_m_dry_30, w_m_dry_33, w_m_dry_35, w_m_dry_37, w_m_dry_40, w_m_dry_41, w_m_dry_43, w_m_dry_45, w_m_dry_48, w_m_dry_50, w_m_dry_52, w_m_dry_53, w_m_dry_56, w_m_dry_57, w_m_dry_58, w_m_dry_59, w_m_dry_62, w_m_dry_63, w_m_dry_66, w_m_dry_67, w_m_dry_68, w_m_dry_71, w_m_dry_74, w_m_dry_77, w_m_dry_80, w_m_dry_81, w_m_dry_82, xm_3, cl_58, h2, lt_irr, nI_1, i10, Bool.false_eq_true, eq_self, true_or, or_true, if_true, if_false, gv_int, gv_ref, av_some, al_some, un_int, un_ref, un_mk, ok4_0, ok4_1, ok4_2, ok4_3, ok4_4, Kn_some, Kn_none, true_and, and_true]
      exact ih _ _
    · intro j hj ih2 j5
      have g2 : nI j < nI c := nI_lt hj (by omega)
      have g3 : ¬ (100 : Int64) = 0 := by decide
      rw [w_m_dry_17]
      have e : dryI (ev (wT M) (M 63) (M 65) n i) (j + 1) s0 = dryS (ev (wT M) (M 63) (M 65) n i j) (dryI (ev (wT M) (M 63) (M 65) n i) j s0) := rfl
      rw [e] at ih2
      generalize dryI (ev (wT M) (M 63) (M 65) n i) j s0 = s1 at ih2 ⊢
      simp only [w_m_dry_0, w_m_dry_3, w_m_dry_4, w_m_dry_5, w_m_dry_7, w_m_dry_8, w_m_dry_11, w_m_dry_14, w_m_dry_15, w_m_dry_19, w_m_dry_20, w_m_dry_23, w_m_dry_26, w_m_dry_27, w_m_dry_28, w_m_dry_30, w_m_dry_33, w_m_dry_35, w_m_dry_37, w_m_dry_40, w_m_dry_41, w_m_dry_43, w_m_dry_45, w_m_dry_48, w_m_dry_50, w_m_dry_52, w_m_dry_53, w_m_dry_56, w_m_dry_57, w_m_dry_58, w_m_dry_59, w_m_dry_62, w_m_dry_63, w_m_dry_66, w_m_dry_67, w_m_dry_68, w_m_dry_71, w_m_dry_74, w_m_dry_77, w_m_dry_80, w_m_dry_81, w_m_dry_82, xm_3, cl_58, h2, g2, g3, not_false_eq_true, nI_1, e_m_envyOf h (show i < 4 by omega), cl_58, i10, Bool.false_eq_true, eq_self, true_or, or_true, if_true, if_false, gv_int, gv_ref, av_some, al_some, un_int, un_ref, un_mk, ok4_0, ok4_1, ok4_2, ok4_3, ok4_4, Kn_some, Kn_none, true_and, and_true]
      unfold dryS at ih2
      by_cases q : 0 < ev (wT M) (M 63) (M 65) n i j
      · simp only [q, if_true] at ih2 ⊢
        by_cases q2 : ev (wT M) (M 63) (M 65) n i j < 100
        · simp only [q2, if_true] at ih2 ⊢; exact ih2 _
        · simp only [q2, if_false] at ih2 ⊢; exact ih2 _
      · simp only [q, if_false] at ih2 ⊢; exact ih2 _
/-- the first entry that is otherwise -/
def jdE (h bo bw : Nat → Int32) : Nat → Nat → Int32
  | 0, _ => -1
  | f + 1, k => if h (bo k).toNatClampNeg = bw k then jdE h bo bw f (k + 1) else nI k
/-- the book -/
def BK (M : Mm) (b : Nat) : Prop := M 58 37 = nI b ∧ b ≤ 15 ∧ ∀ k, k < b → ∃ t, t < 7 ∧ M 81 k = nI t
theorem e_m_judge {A B : Nat} {M : Mm} {Q : Po} {b : Nat} (hb : BK M b) : WP 216 0 [.ref 58, mk] [] (shw A B) (0, 0) M Q = Q (some (.int (jdE (M 65) (M 81) (M 82) b 0))) (shw A B) M := by
  refine WP.is (fun Q hQ => ?_)
  obtain ⟨b1, b2, b3⟩ := hb
  simp only [w_m_judge_0, w_m_judge_1, w_m_judge_3, w_m_judge_4, w_m_judge_7, w_m_judge_10, w_m_judge_11, w_m_judge_14, w_m_judge_15, w_m_judge_18, w_m_judge_19, w_m_judge_20, w_m_judge_21, w_m_judge_22, w_m_judge_25, w_m_judge_26, w_m_judge_27, w_m_judge_30, w_m_judge_31, w_m_judge_32, w_m_judge_35, w_m_judge_38, w_m_judge_39, xm_37, xm_9, al_65, xm_38, al_81, xm_39, al_82, i10, Bool.false_eq_true, eq_self, true_or, or_true, if_true, if_false, gv_int, gv_ref, av_some, al_some, un_int, un_ref, un_mk, ok4_0, ok4_1, ok4_2, ok4_3, ok4_4, Kn_some, Kn_none, true_and, and_true]
  have key : ∀ f k, k + f = b → Q (some (.int (jdE (M 65) (M 81) (M 82) f k))) (shw A B) M → WP 216 2 [.ref 58, .int (nI k)] [] (shw A B) (0, 0) M Q := by
    intro f
    induction f with
    | zero =>
      intro k hk hq
      have hk : k = b := hk
      subst hk
      rw [w_m_judge_2]
      simp only [w_m_judge_0, w_m_judge_1, w_m_judge_3, w_m_judge_4, w_m_judge_7, w_m_judge_10, w_m_judge_11, w_m_judge_14, w_m_judge_15, w_m_judge_18, w_m_judge_19, w_m_judge_20, w_m_judge_21, w_m_judge_22, w_m_judge_25, w_m_judge_26, w_m_judge_27, w_m_judge_30, w_m_judge_31, w_m_judge_32, w_m_judge_35, w_m_judge_38, w_m_judge_39, xm_37, xm_9, al_65, xm_38, al_81, xm_39, al_82, b1, lt_irr, i10, Bool.false_eq_true, eq_self, true_or, or_true, if_true, if_false, gv_int, gv_ref, av_some, al_some, un_int, un_ref, un_mk, ok4_0, ok4_1, ok4_2, ok4_3, ok4_4, Kn_some, Kn_none, true_and, and_true]
      exact hq
    | succ f ih =>
      intro k hk hQ
      have g1 : nI k < nI b := nI_lt (by omega) (by omega)
      have g2 : vp_in (nI k) 15 := vp_in_nI (by omega) (by decide)
      obtain ⟨t, t1, t2⟩ := b3 k (by omega)
      have g3 : vp_in (nI t) 7 := vp_in_nI t1 (by decide)
      unfold jdE at hQ
      rw [t2, nI_clamp (show t < 2 ^ 31 by omega)] at hQ
      rw [w_m_judge_2]
      simp only [w_m_judge_0, w_m_judge_1, w_m_judge_3, w_m_judge_4, w_m_judge_7, w_m_judge_10, w_m_judge_11, w_m_judge_14, w_m_judge_15, w_m_judge_18, w_m_judge_19, w_m_judge_20, w_m_judge_21, w_m_judge_22, w_m_judge_25, w_m_judge_26, w_m_judge_27, w_m_judge_30, w_m_judge_31, w_m_judge_32, w_m_judge_35, w_m_judge_38, w_m_judge_39, xm_37, xm_9, al_65, xm_38, al_81, xm_39, al_82, b1, g1, g2, g3, t2, nI_clamp (show k < 2 ^ 31 by omega), nI_clamp (show t < 2 ^ 31 by omega), nI_1, i10, Bool.false_eq_true, eq_self, true_or, or_true, if_true, if_false, gv_int, gv_ref, av_some, al_some, un_int, un_ref, un_mk, ok4_0, ok4_1, ok4_2, ok4_3, ok4_4, Kn_some, Kn_none, true_and, and_true]
      by_cases q : M 65 t = M 82 k
      · rw [if_pos q] at hQ ⊢; exact ih (k + 1) (by omega) hQ
      · rw [if_neg q] at hQ ⊢; exact hQ
  exact key b 0 (Nat.zero_add b) hQ
/-- image i with what is so -/
def kpF (f h : Nat → Int32) (s : Int32) (i : Nat) : Nat → Int32 := fun j => if 8 * i ≤ j ∧ j < 8 * i + 7 then h (j - 8 * i) else if j = 8 * i + 7 then s else f j
theorem e_m_keep {A B : Nat} {M : Mm} {Q : Po} {w : Int32} : WP 218 0 [.ref 58, .int w, mk] [] (shw A B) (0, 0) M Q = if inb w 2 then Q (some (.int 1)) (shw A B) (up (up (st M 83 (kpF (M 83) (M 65) (M 58 10) w.toNatClampNeg)) 84 w.toNatClampNeg 1) 58 26 0) else Q (some (.int (-1000000001))) (shw A B) M := by
  cases hw : inb w 2
  · simp only [w_m_keep_0, w_m_keep_1, w_m_keep_2, w_m_keep_3, w_m_keep_4, w_m_keep_7, w_m_keep_10, w_m_keep_12, w_m_keep_13, w_m_keep_14, w_m_keep_16, w_m_keep_18, w_m_keep_21, w_m_keep_22, w_m_keep_25, w_m_keep_27, w_m_keep_28, w_m_keep_29, w_m_keep_30, w_m_keep_31, w_m_keep_32, w_m_keep_35, w_m_keep_36, w_m_keep_37, w_m_keep_38, w_m_keep_41, w_m_keep_44, w_m_keep_45, w_m_keep_48, w_m_keep_50, w_m_keep_51, w_m_keep_52, w_m_keep_54, w_m_keep_55, w_m_keep_56, w_m_keep_59, w_m_keep_60, w_m_keep_61, w_m_keep_64, w_m_keep_65, w_m_keep_66, w_m_keep_67, w_m_keep_68, w_m_keep_69, w_m_keep_72, w_m_keep_73, xm_40, al_83, xm_9, al_65, xm_10, xm_41, al_84, xm_26, e_m_in, rng_k 2 (show 2 < 100000 by decide) (show (nI 2 - 1).toInt64 = 1 by decide), hw, i10, Bool.false_eq_true, eq_self, true_or, or_true, if_true, if_false, gv_int, gv_ref, av_some, al_some, un_int, un_ref, un_mk, ok4_0, ok4_1, ok4_2, ok4_3, ok4_4, Kn_some, Kn_none, true_and, and_true]
  · refine WP.is (fun Q hQ => ?_)
    obtain ⟨i, i1, rfl⟩ := inb_of hw (by decide)
    rw [nI_clamp (show i < 2 ^ 31 by omega)] at hQ
    simp only [w_m_keep_0, w_m_keep_1, w_m_keep_2, w_m_keep_3, w_m_keep_4, w_m_keep_7, w_m_keep_10, w_m_keep_12, w_m_keep_13, w_m_keep_14, w_m_keep_16, w_m_keep_18, w_m_keep_21, w_m_keep_22, w_m_keep_25, w_m_keep_27, w_m_keep_28, w_m_keep_29, w_m_keep_30, w_m_keep_31, w_m_keep_32, w_m_keep_35, w_m_keep_36, w_m_keep_37, w_m_keep_38, w_m_keep_41, w_m_keep_44, w_m_keep_45, w_m_keep_48, w_m_keep_50, w_m_keep_51, w_m_keep_52, w_m_keep_54, w_m_keep_55, w_m_keep_56, w_m_keep_59, w_m_keep_60, w_m_keep_61, w_m_keep_64, w_m_keep_65, w_m_keep_66, w_m_keep_67, w_m_keep_68, w_m_keep_69, w_m_keep_72, w_m_keep_73, xm_40, al_83, xm_9, al_65, xm_10, xm_41, al_84, xm_26, e_m_in, rng_k 2 (show 2 < 100000 by decide) (show (nI 2 - 1).toInt64 = 1 by decide), hw, i10, Bool.false_eq_true, eq_self, true_or, or_true, if_true, if_false, gv_int, gv_ref, av_some, al_some, un_int, un_ref, un_mk, ok4_0, ok4_1, ok4_2, ok4_3, ok4_4, Kn_some, Kn_none, true_and, and_true]
    have := for_up (n := 7) (P := fun k => WP 218 15 [.ref 58, .int (nI i), .int (nI k)] [] (shw A B) (0, 0) (st M 83 (fun j => if 8 * i ≤ j ∧ j < 8 * i + k then M 65 (j - 8 * i) else M 83 j)) Q) ?_ ?_
    · rw [show (fun j => if 8 * i ≤ j ∧ j < 8 * i + 0 then M 65 (j - 8 * i) else M 83 j) = M 83 from by funext j; rw [if_neg (by omega)], st_self] at this
      exact this
    · have g3 : vp_in (nI (8 * i + 7)) 16 := vp_in_nI (by omega) (by decide)
      have g4 : (8 : Int32) * nI i + 7 = nI (8 * i + 7) := by rw [show (8 : Int32) = nI 8 from rfl, show (7 : Int32) = nI 7 from rfl, pk_mul, nI_add]
      have g5 : vp_in (nI i) 2 := vp_in_nI i1 (by decide)
      rw [w_m_keep_15]
      simp only [w_m_keep_0, w_m_keep_1, w_m_keep_2, w_m_keep_3, w_m_keep_4, w_m_keep_7, w_m_keep_10, w_m_keep_12, w_m_keep_13, w_m_keep_14, w_m_keep_16, w_m_keep_18, w_m_keep_21, w_m_keep_22, w_m_keep_25, w_m_keep_27, w_m_keep_28, w_m_keep_29, w_m_keep_30, w_m_keep_31, w_m_keep_32, w_m_keep_35, w_m_keep_36, w_m_keep_37, w_m_keep_38, w_m_keep_41, w_m_keep_44, w_m_keep_45, w_m_keep_48, w_m_keep_50, w_m_keep_51, w_m_keep_52, w_m_keep_54, w_m_keep_55, w_m_keep_56, w_m_keep_59, w_m_keep_60, w_m_keep_61, w_m_keep_64, w_m_keep_65, w_m_keep_66, w_m_keep_67, w_m_keep_68, w_m_keep_69, w_m_keep_72, w_m_keep_73, xm_40, al_83, xm_9, al_65, xm_10, xm_41, al_84, xm_26, (show (nI 7 < 7) = False by decide), g3, g4, g5, nI_clamp (show i < 2 ^ 31 by omega), nI_clamp (show 8 * i + 7 < 2 ^ 31 by omega), show ∀ f, st M 83 f 58 10 = M 58 10 from fun _ => rfl, i10, Bool.false_eq_true, eq_self, true_or, or_true, if_true, if_false, gv_int, gv_ref, av_some, al_some, un_int, un_ref, un_mk, ok4_0, ok4_1, ok4_2, ok4_3, ok4_4, Kn_some, Kn_none, true_and, and_true]
      rw [up_st, show upd (fun j => if 8 * i ≤ j ∧ j < 8 * i + 7 then M 65 (j - 8 * i) else M 83 j) (8 * i + 7) (M 58 10) = kpF (M 83) (M 65) (M 58 10) i from ?_]
      · exact hQ
      · funext j
        simp only [upd, kpF]
        by_cases q : j = 8 * i + 7
        · rw [if_pos q, if_neg (by omega), if_pos q]
        · rw [if_neg q, if_neg q]
    · intro k hk ih
      have g1 : (nI k < 7) = True := eq_true (nI_lt hk (by decide))
      have g2 : vp_in (nI k) 7 := vp_in_nI (by omega) (by decide)
      have g3 : vp_in (nI (8 * i + k)) 16 := vp_in_nI (by omega) (by decide)
      have g4 : (8 : Int32) * nI i + nI k = nI (8 * i + k) := by rw [show (8 : Int32) = nI 8 from rfl, pk_mul, nI_add]
      rw [w_m_keep_15]
      simp only [w_m_keep_0, w_m_keep_1, w_m_keep_2, w_m_keep_3, w_m_keep_4, w_m_keep_7, w_m_keep_10, w_m_keep_12, w_m_keep_13, w_m_keep_14, w_m_keep_16, w_m_keep_18, w_m_keep_21, w_m_keep_22, w_m_keep_25, w_m_keep_27, w_m_keep_28, w_m_keep_29, w_m_keep_30, w_m_keep_31, w_m_keep_32, w_m_keep_35, w_m_keep_36, w_m_keep_37, w_m_keep_38, w_m_keep_41, w_m_keep_44, w_m_keep_45, w_m_keep_48, w_m_keep_50, w_m_keep_51, w_m_keep_52, w_m_keep_54, w_m_keep_55, w_m_keep_56, w_m_keep_59, w_m_keep_60, w_m_keep_61, w_m_keep_64, w_m_keep_65, w_m_keep_66, w_m_keep_67, w_m_keep_68, w_m_keep_69, w_m_keep_72, w_m_keep_73, xm_40, al_83, xm_9, al_65, xm_10, xm_41, al_84, xm_26, g1, g2, g3, g4, nI_clamp (show k < 2 ^ 31 by omega), nI_clamp (show 8 * i + k < 2 ^ 31 by omega), nI_1, show ∀ f, st M 83 f 65 = M 65 from fun _ => rfl, i10, Bool.false_eq_true, eq_self, true_or, or_true, if_true, if_false, gv_int, gv_ref, av_some, al_some, un_int, un_ref, un_mk, ok4_0, ok4_1, ok4_2, ok4_3, ok4_4, Kn_some, Kn_none, true_and, and_true]
      rw [up_st, show (upd (fun j => if 8 * i ≤ j ∧ j < 8 * i + k then M 65 (j - 8 * i) else M 83 j) (8 * i + k) (M 65 k)) = (fun j => if 8 * i ≤ j ∧ j < 8 * i + (k + 1) then M 65 (j - 8 * i) else M 83 j) from ?_]
      · exact ih
      · funext j
        simp only [upd]
        by_cases q : j = 8 * i + k
        · rw [if_pos q, if_pos (by omega), q, show 8 * i + k - 8 * i = k by omega]
        · rw [if_neg q]
          by_cases q2 : 8 * i ≤ j ∧ j < 8 * i + k
          · rw [if_pos q2, if_pos (by omega)]
          · rw [if_neg q2, if_neg (by omega)]
theorem e_m_goBack {A B : Nat} {M : Mm} {Q : Po} {w : Int32} : WP 219 0 [.ref 58, .int w, mk] [] (shw A B) (0, 0) M Q = if inb w 2 then (if M 84 w.toNatClampNeg = 0 then Q (some (.int (-1000000003))) (shw A B) M else Q (some (.int 1)) (shw A B) (up (up (st M 65 (fun j => if j < 7 then M 83 (8 * w.toNatClampNeg + j) else M 65 j)) 58 10 (M 83 (8 * w.toNatClampNeg + 7))) 58 26 0)) else Q (some (.int (-1000000001))) (shw A B) M := by
  cases hw : inb w 2
  · simp only [w_m_goBack_0, w_m_goBack_1, w_m_goBack_2, w_m_goBack_3, w_m_goBack_4, w_m_goBack_7, w_m_goBack_10, w_m_goBack_12, w_m_goBack_13, w_m_goBack_14, w_m_goBack_17, w_m_goBack_18, w_m_goBack_19, w_m_goBack_22, w_m_goBack_24, w_m_goBack_25, w_m_goBack_26, w_m_goBack_28, w_m_goBack_30, w_m_goBack_33, w_m_goBack_34, w_m_goBack_37, w_m_goBack_38, w_m_goBack_39, w_m_goBack_42, w_m_goBack_44, w_m_goBack_45, w_m_goBack_46, w_m_goBack_47, w_m_goBack_48, w_m_goBack_49, w_m_goBack_50, w_m_goBack_53, w_m_goBack_56, w_m_goBack_57, w_m_goBack_58, w_m_goBack_61, w_m_goBack_63, w_m_goBack_64, w_m_goBack_65, w_m_goBack_67, w_m_goBack_68, w_m_goBack_69, w_m_goBack_72, w_m_goBack_73, w_m_goBack_74, w_m_goBack_77, w_m_goBack_78, xm_41, al_84, xm_9, al_65, xm_40, al_83, xm_10, xm_26, e_m_in, rng_k 2 (show 2 < 100000 by decide) (show (nI 2 - 1).toInt64 = 1 by decide), hw, i10, Bool.false_eq_true, eq_self, true_or, or_true, if_true, if_false, gv_int, gv_ref, av_some, al_some, un_int, un_ref, un_mk, ok4_0, ok4_1, ok4_2, ok4_3, ok4_4, Kn_some, Kn_none, true_and, and_true]
  · obtain ⟨i, i1, rfl⟩ := inb_of hw (by decide)
    rw [nI_clamp (show i < 2 ^ 31 by omega)]
    have g5 : vp_in (nI i) 2 := vp_in_nI i1 (by decide)
    by_cases q0 : M 84 i = 0
    · simp only [w_m_goBack_0, w_m_goBack_1, w_m_goBack_2, w_m_goBack_3, w_m_goBack_4, w_m_goBack_7, w_m_goBack_10, w_m_goBack_12, w_m_goBack_13, w_m_goBack_14, w_m_goBack_17, w_m_goBack_18, w_m_goBack_19, w_m_goBack_22, w_m_goBack_24, w_m_goBack_25, w_m_goBack_26, w_m_goBack_28, w_m_goBack_30, w_m_goBack_33, w_m_goBack_34, w_m_goBack_37, w_m_goBack_38, w_m_goBack_39, w_m_goBack_42, w_m_goBack_44, w_m_goBack_45, w_m_goBack_46, w_m_goBack_47, w_m_goBack_48, w_m_goBack_49, w_m_goBack_50, w_m_goBack_53, w_m_goBack_56, w_m_goBack_57, w_m_goBack_58, w_m_goBack_61, w_m_goBack_63, w_m_goBack_64, w_m_goBack_65, w_m_goBack_67, w_m_goBack_68, w_m_goBack_69, w_m_goBack_72, w_m_goBack_73, w_m_goBack_74, w_m_goBack_77, w_m_goBack_78, xm_41, al_84, xm_9, al_65, xm_40, al_83, xm_10, xm_26, e_m_in, rng_k 2 (show 2 < 100000 by decide) (show (nI 2 - 1).toInt64 = 1 by decide), hw, g5, nI_clamp (show i < 2 ^ 31 by omega), q0, i10, Bool.false_eq_true, eq_self, true_or, or_true, if_true, if_false, gv_int, gv_ref, av_some, al_some, un_int, un_ref, un_mk, ok4_0, ok4_1, ok4_2, ok4_3, ok4_4, Kn_some, Kn_none, true_and, and_true]
    · simp only [q0, if_true, if_false]
      refine WP.is (fun Q hQ => ?_)
      simp only [w_m_goBack_0, w_m_goBack_1, w_m_goBack_2, w_m_goBack_3, w_m_goBack_4, w_m_goBack_7, w_m_goBack_10, w_m_goBack_12, w_m_goBack_13, w_m_goBack_14, w_m_goBack_17, w_m_goBack_18, w_m_goBack_19, w_m_goBack_22, w_m_goBack_24, w_m_goBack_25, w_m_goBack_26, w_m_goBack_28, w_m_goBack_30, w_m_goBack_33, w_m_goBack_34, w_m_goBack_37, w_m_goBack_38, w_m_goBack_39, w_m_goBack_42, w_m_goBack_44, w_m_goBack_45, w_m_goBack_46, w_m_goBack_47, w_m_goBack_48, w_m_goBack_49, w_m_goBack_50, w_m_goBack_53, w_m_goBack_56, w_m_goBack_57, w_m_goBack_58, w_m_goBack_61, w_m_goBack_63, w_m_goBack_64, w_m_goBack_65, w_m_goBack_67, w_m_goBack_68, w_m_goBack_69, w_m_goBack_72, w_m_goBack_73, w_m_goBack_74, w_m_goBack_77, w_m_goBack_78, xm_41, al_84, xm_9, al_65, xm_40, al_83, xm_10, xm_26, e_m_in, rng_k 2 (show 2 < 100000 by decide) (show (nI 2 - 1).toInt64 = 1 by decide), hw, g5, nI_clamp (show i < 2 ^ 31 by omega), q0, i10, Bool.false_eq_true, eq_self, true_or, or_true, if_true, if_false, gv_int, gv_ref, av_some, al_some, un_int, un_ref, un_mk, ok4_0, ok4_1, ok4_2, ok4_3, ok4_4, Kn_some, Kn_none, true_and, and_true]
      have := for_up (n := 7) (P := fun k => WP 219 27 [.ref 58, .int (nI i), .int (nI k)] [] (shw A B) (0, 0) (st M 65 (ov (fun j => M 83 (8 * i + j)) (M 65) k)) Q) ?_ ?_
      · rw [ov_0, st_self] at this; exact this
      · have g3 : vp_in (nI (8 * i + 7)) 16 := vp_in_nI (by omega) (by decide)
        have g4 : (8 : Int32) * nI i + 7 = nI (8 * i + 7) := by rw [show (8 : Int32) = nI 8 from rfl, show (7 : Int32) = nI 7 from rfl, pk_mul, nI_add]
        rw [w_m_goBack_27]
        simp only [w_m_goBack_0, w_m_goBack_1, w_m_goBack_2, w_m_goBack_3, w_m_goBack_4, w_m_goBack_7, w_m_goBack_10, w_m_goBack_12, w_m_goBack_13, w_m_goBack_14, w_m_goBack_17, w_m_goBack_18, w_m_goBack_19, w_m_goBack_22, w_m_goBack_24, w_m_goBack_25, w_m_goBack_26, w_m_goBack_28, w_m_goBack_30, w_m_goBack_33, w_m_goBack_34, w_m_goBack_37, w_m_goBack_38, w_m_goBack_39, w_m_goBack_42, w_m_goBack_44, w_m_goBack_45, w_m_goBack_46, w_m_goBack_47, w_m_goBack_48, w_m_goBack_49, w_m_goBack_50, w_m_goBack_53, w_m_goBack_56, w_m_goBack_57, w_m_goBack_58, w_m_goBack_61, w_m_goBack_63, w_m_goBack_64, w_m_goBack_65, w_m_goBack_67, w_m_goBack_68, w_m_goBack_69, w_m_goBack_72, w_m_goBack_73, w_m_goBack_74, w_m_goBack_77, w_m_goBack_78, xm_41, al_84, xm_9, al_65, xm_40, al_83, xm_10, xm_26, (show (nI 7 < 7) = False by decide), g3, g4, nI_clamp (show 8 * i + 7 < 2 ^ 31 by omega), show ∀ f, st M 65 f 83 = M 83 from fun _ => rfl, i10, Bool.false_eq_true, eq_self, true_or, or_true, if_true, if_false, gv_int, gv_ref, av_some, al_some, un_int, un_ref, un_mk, ok4_0, ok4_1, ok4_2, ok4_3, ok4_4, Kn_some, Kn_none, true_and, and_true]
        exact hQ
      · intro k hk ih
        have g1 : (nI k < 7) = True := eq_true (nI_lt hk (by decide))
        have g2 : vp_in (nI k) 7 := vp_in_nI (by omega) (by decide)
        have g3 : vp_in (nI (8 * i + k)) 16 := vp_in_nI (by omega) (by decide)
        have g4 : (8 : Int32) * nI i + nI k = nI (8 * i + k) := by rw [show (8 : Int32) = nI 8 from rfl, pk_mul, nI_add]
        rw [w_m_goBack_27]
        simp only [w_m_goBack_0, w_m_goBack_1, w_m_goBack_2, w_m_goBack_3, w_m_goBack_4, w_m_goBack_7, w_m_goBack_10, w_m_goBack_12, w_m_goBack_13, w_m_goBack_14, w_m_goBack_17, w_m_goBack_18, w_m_goBack_19, w_m_goBack_22, w_m_goBack_24, w_m_goBack_25, w_m_goBack_26, w_m_goBack_28, w_m_goBack_30, w_m_goBack_33, w_m_goBack_34, w_m_goBack_37, w_m_goBack_38, w_m_goBack_39, w_m_goBack_42, w_m_goBack_44, w_m_goBack_45, w_m_goBack_46, w_m_goBack_47, w_m_goBack_48, w_m_goBack_49, w_m_goBack_50, w_m_goBack_53, w_m_goBack_56, w_m_goBack_57, w_m_goBack_58, w_m_goBack_61, w_m_goBack_63, w_m_goBack_64, w_m_goBack_65, w_m_goBack_67, w_m_goBack_68, w_m_goBack_69, w_m_goBack_72, w_m_goBack_73, w_m_goBack_74, w_m_goBack_77, w_m_goBack_78, xm_41, al_84, xm_9, al_65, xm_40, al_83, xm_10, xm_26, g1, g2, g3, g4, nI_clamp (show k < 2 ^ 31 by omega), nI_clamp (show 8 * i + k < 2 ^ 31 by omega), nI_1, show ∀ f, st M 65 f 83 = M 83 from fun _ => rfl, i10, Bool.false_eq_true, eq_self, true_or, or_true, if_true, if_false, gv_int, gv_ref, av_some, al_some, un_int, un_ref, un_mk, ok4_0, ok4_1, ok4_2, ok4_3, ok4_4, Kn_some, Kn_none, true_and, and_true]
        rw [up_st, show M 83 (8 * i + k) = (fun j => M 83 (8 * i + j)) k from rfl, ov_s]
        exact ih
