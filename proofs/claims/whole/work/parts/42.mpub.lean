/-! the reference: draws -/
theorem up_same (M : Mm) (o k : Nat) : up M o k (M o k) = M := by
  funext a; unfold up
  by_cases h : a = o
  · rw [if_pos h, h]
    funext j; unfold upd
    by_cases hj : j = k
    · rw [if_pos hj, hj]
    · rw [if_neg hj]
  · rw [if_neg h]
def nx (a : Nat) : Nat := (a * 1103515245 + 12345) % 2147483648
theorem nx_lt (a : Nat) : nx a < 2147483648 := Nat.mod_lt _ (by decide)
theorem seed_step {a : Nat} (h : a < 2147483648) : ((nI a).toInt64 * 1103515245 + 12345 - ((nI a).toInt64 * 1103515245 + 12345) / 2147483648 * 2147483648).toInt32 = nI (nx a) := by
  rw [nI_l (by omega), show (1103515245 : Int64) = lN 1103515245 from rfl, show (12345 : Int64) = lN 12345 from rfl, show (2147483648 : Int64) = lN 2147483648 from rfl, lN_mul, lN_add, pk_lRem (by omega) (by decide) (by decide), lN_i]
  rfl
theorem d65536 {k : Nat} (h : k < 2 ^ 31) : nI k / 65536 = nI (k / 65536) := pk_div h (by decide) (by decide)
theorem e_m_drawOf {A B : Nat} {M : Mm} {Q : Po} {a n : Nat} (hs : M 58 10 = nI a) (ha : a < 2147483648) (hn : 0 < n) (hn7 : n ≤ 7) : WP 185 0 [.ref 58, .int (nI n)] [] (shw A B) (0, 0) M Q = Q (some (.int (nI (nx a / 65536 % n)))) (shw A B) (up M 58 10 (nI (nx a))) := by
  have g1 : ¬ (2147483648 : Int64) = 0 := by decide
  have g2 : ¬ (65536 : Int32) = 0 := by decide
  have g3 : ¬ nI n = 0 := nI_ne0 hn (by omega)
  have hx := nx_lt a
  simp only [w_m_drawOf_0, w_m_drawOf_1, w_m_drawOf_2, w_m_drawOf_5, w_m_drawOf_6, w_m_drawOf_9, w_m_drawOf_10, w_m_drawOf_13, w_m_drawOf_14, w_m_drawOf_17, w_m_drawOf_18, w_m_drawOf_19, w_m_drawOf_22, w_m_drawOf_23, w_m_drawOf_26, w_m_drawOf_28, w_m_drawOf_29, w_m_drawOf_30, w_m_drawOf_31, xm_10, hs, g1, g2, g3, not_false_eq_true, seed_step ha, up_c, st_at, upd_at, Nat.reduceEqDiff, reduceIte, d65536 (show nx a < 2 ^ 31 by omega), pk_div (show nx a / 65536 < 2 ^ 31 by omega) hn (show n < 2 ^ 31 by omega), rem_nI, i10, Bool.false_eq_true, eq_self, true_or, or_true, if_true, if_false, gv_int, gv_ref, av_some, al_some, un_int, un_ref, un_mk, ok4_0, ok4_1, ok4_2, ok4_3, ok4_4, Kn_some, Kn_none, true_and, and_true]
def drS (n c : Nat) (s : Nat × (Nat → Int32)) : Nat × (Nat → Int32) := (nx (nx s.1), upd s.2 (nx s.1 / 65536 % n) (nI (nx (nx s.1) / 65536 % c)))
def drE (n c k : Nat) (s : Nat × (Nat → Int32)) : Nat × (Nat → Int32) := lp (fun _ s => drS n c s) k s
theorem drE_s (n c k : Nat) (s : Nat × (Nat → Int32)) : drE n c (k + 1) s = drS n c (drE n c k s) := rfl
theorem drE_lt (n c : Nat) (s : Nat × (Nat → Int32)) (h : s.1 < 2147483648) : ∀ k, (drE n c k s).1 < 2147483648
  | 0 => h
  | k + 1 => nx_lt _
/-- what d draws make of it -/
def drF (n c k : Nat) (s : Nat × (Nat → Int32)) : Nat × (Nat → Int32) := if 0 < c ∧ 0 < n then drE n c k s else s
def i60 (d : Int32) : Bool := decide (1 ≤ d.toInt ∧ d.toInt ≤ 60)
theorem rng_60 {d : Int32} : rng d.toInt64 1 60 = i60 d := by
  rw [rng_c (l := 1) (h := 60) (l' := 1) (h' := 60) (by decide) (by decide)]; rfl
theorem i60_of {d : Int32} (h : i60 d = true) : ∃ m, 1 ≤ m ∧ m ≤ 60 ∧ d = nI m := by
  have h := of_decide_eq_true h
  obtain ⟨j, j1, j2⟩ := inb_of (k := d) (c := 61) (by rw [inb_iff]; omega) (by decide)
  refine ⟨j, ?_, by omega, j2⟩
  rw [j2, nI_toInt (by omega)] at h
  omega
theorem e_m_drift {A B : Nat} {M : Mm} {Q : Po} {K c n u a : Nat} {d : Int32} (h : MD M K c n) (hu : M 58 26 = nI u) (h20 : u ≤ 20) (hs : M 58 10 = nI a) (ha : a < 2147483648) : WP 186 0 [.ref 58, .int d, mk, mk] [] (shw A B) (0, 0) M Q = if i60 d then (if K = 0 then Q (some (.int (-1000000003))) (shw A B) M else Q (some (.int (allE (wT M) (M 63) (drF n c d.toNatClampNeg (a, M 65)).2 n c))) (shw A B) (st (up (RM M u) 58 10 (nI (drF n c d.toNatClampNeg (a, M 65)).1)) 65 (drF n c d.toNatClampNeg (a, M 65)).2)) else Q (some (.int (-1000000002))) (shw A B) M := by
  obtain ⟨h1, h2, h3, h4, h5, h6, h7⟩ := id h
  cases hd : i60 d
  · simp only [w_m_drift_0, w_m_drift_1, w_m_drift_2, w_m_drift_3, w_m_drift_6, w_m_drift_9, w_m_drift_12, w_m_drift_14, w_m_drift_15, w_m_drift_16, w_m_drift_19, w_m_drift_22, w_m_drift_24, w_m_drift_25, w_m_drift_26, w_m_drift_29, w_m_drift_30, w_m_drift_32, w_m_drift_33, w_m_drift_36, w_m_drift_37, w_m_drift_40, w_m_drift_43, w_m_drift_44, w_m_drift_47, w_m_drift_50, w_m_drift_51, w_m_drift_52, w_m_drift_55, w_m_drift_58, w_m_drift_59, w_m_drift_60, w_m_drift_63, w_m_drift_64, w_m_drift_65, w_m_drift_66, w_m_drift_69, w_m_drift_72, w_m_drift_73, w_m_drift_76, w_m_drift_79, w_m_drift_80, w_m_drift_83, xm_0, cl_58, xm_3, xm_7, xm_9, al_65, e_m_in, rng_60, hd, i10, Bool.false_eq_true, eq_self, true_or, or_true, if_true, if_false, gv_int, gv_ref, av_some, al_some, un_int, un_ref, un_mk, ok4_0, ok4_1, ok4_2, ok4_3, ok4_4, Kn_some, Kn_none, true_and, and_true]
  · by_cases q : K = 0
    · subst q
      simp only [w_m_drift_0, w_m_drift_1, w_m_drift_2, w_m_drift_3, w_m_drift_6, w_m_drift_9, w_m_drift_12, w_m_drift_14, w_m_drift_15, w_m_drift_16, w_m_drift_19, w_m_drift_22, w_m_drift_24, w_m_drift_25, w_m_drift_26, w_m_drift_29, w_m_drift_30, w_m_drift_32, w_m_drift_33, w_m_drift_36, w_m_drift_37, w_m_drift_40, w_m_drift_43, w_m_drift_44, w_m_drift_47, w_m_drift_50, w_m_drift_51, w_m_drift_52, w_m_drift_55, w_m_drift_58, w_m_drift_59, w_m_drift_60, w_m_drift_63, w_m_drift_64, w_m_drift_65, w_m_drift_66, w_m_drift_69, w_m_drift_72, w_m_drift_73, w_m_drift_76, w_m_drift_79, w_m_drift_80, w_m_drift_83, xm_0, cl_58, xm_3, xm_7, xm_9, al_65, e_m_in, rng_60, hd, h1, (show (nI 0 = 0) = True by decide), i10, Bool.false_eq_true, eq_self, true_or, or_true, if_true, if_false, gv_int, gv_ref, av_some, al_some, un_int, un_ref, un_mk, ok4_0, ok4_1, ok4_2, ok4_3, ok4_4, Kn_some, Kn_none, true_and, and_true]
    · simp only [q, if_true, if_false]
      refine WP.is (fun Q hQ => ?_)
      obtain ⟨m, m1, m2, rfl⟩ := i60_of hd
      rw [nI_clamp (show m < 2 ^ 31 by omega)] at hQ
      have g0 : (nI K = 0) = False := eq_false (nI_ne0 (by omega) (by omega))
      simp only [w_m_drift_0, w_m_drift_1, w_m_drift_2, w_m_drift_3, w_m_drift_6, w_m_drift_9, w_m_drift_12, w_m_drift_14, w_m_drift_15, w_m_drift_16, w_m_drift_19, w_m_drift_22, w_m_drift_24, w_m_drift_25, w_m_drift_26, w_m_drift_29, w_m_drift_30, w_m_drift_32, w_m_drift_33, w_m_drift_36, w_m_drift_37, w_m_drift_40, w_m_drift_43, w_m_drift_44, w_m_drift_47, w_m_drift_50, w_m_drift_51, w_m_drift_52, w_m_drift_55, w_m_drift_58, w_m_drift_59, w_m_drift_60, w_m_drift_63, w_m_drift_64, w_m_drift_65, w_m_drift_66, w_m_drift_69, w_m_drift_72, w_m_drift_73, w_m_drift_76, w_m_drift_79, w_m_drift_80, w_m_drift_83, xm_0, cl_58, xm_3, xm_7, xm_9, al_65, e_m_in, rng_60, hd, h1, g0, e_m_remember hu h20, cl_58, i10, Bool.false_eq_true, eq_self, true_or, or_true, if_true, if_false, gv_int, gv_ref, av_some, al_some, un_int, un_ref, un_mk, ok4_0, ok4_1, ok4_2, ok4_3, ok4_4, Kn_some, Kn_none, true_and, and_true]
      by_cases q2 : 0 < c ∧ 0 < n
      · unfold drF at hQ
        rw [if_pos q2] at hQ
        have := for_up (n := m) (P := fun k => ∀ j3, WP 186 31 [.ref 58, .int (nI m), .int (nI k), j3] [] (shw A B) (0, 0) (st (up (RM M u) 58 10 (nI (drE n c k (a, M 65)).1)) 65 (drE n c k (a, M 65)).2) Q) ?_ ?_ mk
        · rw [show (drE n c 0 (a, M 65)).1 = a from rfl, show (drE n c 0 (a, M 65)).2 = M 65 from rfl, ← hs, show st (up (RM M u) 58 10 (M 58 10)) 65 (M 65) = RM M u from ?_] at this
          · exact this
          · rw [show up (RM M u) 58 10 (M 58 10) = RM M u from up_same (RM M u) 58 10]; exact st_self (RM M u) 65
        · intro j3
          rw [w_m_drift_31]
          simp only [w_m_drift_0, w_m_drift_1, w_m_drift_2, w_m_drift_3, w_m_drift_6, w_m_drift_9, w_m_drift_12, w_m_drift_14, w_m_drift_15, w_m_drift_16, w_m_drift_19, w_m_drift_22, w_m_drift_24, w_m_drift_25, w_m_drift_26, w_m_drift_29, w_m_drift_30, w_m_drift_32, w_m_drift_33, w_m_drift_36, w_m_drift_37, w_m_drift_40, w_m_drift_43, w_m_drift_44, w_m_drift_47, w_m_drift_50, w_m_drift_51, w_m_drift_52, w_m_drift_55, w_m_drift_58, w_m_drift_59, w_m_drift_60, w_m_drift_63, w_m_drift_64, w_m_drift_65, w_m_drift_66, w_m_drift_69, w_m_drift_72, w_m_drift_73, w_m_drift_76, w_m_drift_79, w_m_drift_80, w_m_drift_83, xm_0, cl_58, xm_3, xm_7, xm_9, al_65, lt_irr, e_m_allEnvy (show MD (st (up (RM M u) 58 10 (nI (drE n c m (a, M 65)).1)) 65 (drE n c m (a, M 65)).2) K c n from h), cl_58, i10, Bool.false_eq_true, eq_self, true_or, or_true, if_true, if_false, gv_int, gv_ref, av_some, al_some, un_int, un_ref, un_mk, ok4_0, ok4_1, ok4_2, ok4_3, ok4_4, Kn_some, Kn_none, true_and, and_true]
          exact hQ
        · intro k hk ih j3
          have g1 : nI k < nI m := nI_lt hk (by omega)
          have g2 : (0 < nI c) = True := eq_true (nI_lt (a := 0) q2.1 (by omega))
          have g3 : (0 < nI n) = True := eq_true (nI_lt (a := 0) q2.2 (by omega))
          have hl := drE_lt n c (a, M 65) ha k
          have hx := nx_lt (drE n c k (a, M 65)).1
          rw [drE_s] at ih
          unfold drS at ih
          rw [w_m_drift_31]
          generalize drE n c k (a, M 65) = s0 at ih hl hx ⊢
          have t7 : nx s0.1 / 65536 % n < 7 := Nat.lt_of_lt_of_le (Nat.mod_lt _ q2.2) h6
          have g5 : vp_in (nI (nx s0.1 / 65536 % n)) 7 := vp_in_nI t7 (by decide)
          have em : up (up (up (st (up (RM M u) 58 10 (nI s0.1)) 65 s0.2) 58 10 (nI (nx s0.1))) 58 10 (nI (nx (nx s0.1)))) 65 (nx s0.1 / 65536 % n) (nI (nx (nx s0.1) / 65536 % c)) = st (up (RM M u) 58 10 (nI (nx (nx s0.1)))) 65 (upd s0.2 (nx s0.1 / 65536 % n) (nI (nx (nx s0.1) / 65536 % c))) := by
            rw [up_up, up_st_ne _ _ _ _ (by decide), up_up, up_st]
          simp only [w_m_drift_0, w_m_drift_1, w_m_drift_2, w_m_drift_3, w_m_drift_6, w_m_drift_9, w_m_drift_12, w_m_drift_14, w_m_drift_15, w_m_drift_16, w_m_drift_19, w_m_drift_22, w_m_drift_24, w_m_drift_25, w_m_drift_26, w_m_drift_29, w_m_drift_30, w_m_drift_32, w_m_drift_33, w_m_drift_36, w_m_drift_37, w_m_drift_40, w_m_drift_43, w_m_drift_44, w_m_drift_47, w_m_drift_50, w_m_drift_51, w_m_drift_52, w_m_drift_55, w_m_drift_58, w_m_drift_59, w_m_drift_60, w_m_drift_63, w_m_drift_64, w_m_drift_65, w_m_drift_66, w_m_drift_69, w_m_drift_72, w_m_drift_73, w_m_drift_76, w_m_drift_79, w_m_drift_80, w_m_drift_83, xm_0, cl_58, xm_3, xm_7, xm_9, al_65, g1, g2, g3, show ∀ x f, st (up (RM M u) 58 10 x) 65 f 58 3 = nI c from fun _ _ => h2, show ∀ x f, st (up (RM M u) 58 10 x) 65 f 58 7 = nI n from fun _ _ => h3, e_m_drawOf (M := st (up (RM M u) 58 10 (nI s0.1)) 65 s0.2) rfl hl q2.2 h6, show up (st (up (RM M u) 58 10 (nI s0.1)) 65 s0.2) 58 10 (nI (nx s0.1)) 58 3 = nI c from h2, e_m_drawOf (M := up (st (up (RM M u) 58 10 (nI s0.1)) 65 s0.2) 58 10 (nI (nx s0.1))) rfl hx q2.1 (show c ≤ 7 by omega), cl_58, g5, nI_clamp (show nx s0.1 / 65536 % n < 2 ^ 31 by omega), nI_1, em, i10, Bool.false_eq_true, eq_self, true_or, or_true, if_true, if_false, gv_int, gv_ref, av_some, al_some, un_int, un_ref, un_mk, ok4_0, ok4_1, ok4_2, ok4_3, ok4_4, Kn_some, Kn_none, true_and, and_true]
          exact ih _
      · unfold drF at hQ
        rw [if_neg q2] at hQ
        rw [← hs, show st (up (RM M u) 58 10 (M 58 10)) 65 (M 65) = RM M u from by rw [show up (RM M u) 58 10 (M 58 10) = RM M u from up_same (RM M u) 58 10]; exact st_self (RM M u) 65] at hQ
        have g1 : (0 : Int32) < nI m := nI_lt (a := 0) (by omega) (by omega)
        rw [w_m_drift_31]
        by_cases q3 : 0 < c
        · have n0 : n = 0 := by omega
          subst n0
          have g2 : (0 < nI c) = True := eq_true (nI_lt (a := 0) q3 (by omega))
          simp only [w_m_drift_0, w_m_drift_1, w_m_drift_2, w_m_drift_3, w_m_drift_6, w_m_drift_9, w_m_drift_12, w_m_drift_14, w_m_drift_15, w_m_drift_16, w_m_drift_19, w_m_drift_22, w_m_drift_24, w_m_drift_25, w_m_drift_26, w_m_drift_29, w_m_drift_30, w_m_drift_32, w_m_drift_33, w_m_drift_36, w_m_drift_37, w_m_drift_40, w_m_drift_43, w_m_drift_44, w_m_drift_47, w_m_drift_50, w_m_drift_51, w_m_drift_52, w_m_drift_55, w_m_drift_58, w_m_drift_59, w_m_drift_60, w_m_drift_63, w_m_drift_64, w_m_drift_65, w_m_drift_66, w_m_drift_69, w_m_drift_72, w_m_drift_73, w_m_drift_76, w_m_drift_79, w_m_drift_80, w_m_drift_83, xm_0, cl_58, xm_3, xm_7, xm_9, al_65, g1, show up (st M 73 (rmF (M 73) (M 65) u)) 58 26 (nI (rmU u)) 58 3 = nI c from h2, g2, show up (st M 73 (rmF (M 73) (M 65) u)) 58 26 (nI (rmU u)) 58 7 = nI 0 from h3, (show ((0 : Int32) < nI 0) = False by decide), e_m_allEnvy (show MD (up (st M 73 (rmF (M 73) (M 65) u)) 58 26 (nI (rmU u))) K c 0 from h), cl_58, i10, Bool.false_eq_true, eq_self, true_or, or_true, if_true, if_false, gv_int, gv_ref, av_some, al_some, un_int, un_ref, un_mk, ok4_0, ok4_1, ok4_2, ok4_3, ok4_4, Kn_some, Kn_none, true_and, and_true]
          exact hQ
        · have c0 : c = 0 := by omega
          subst c0
          simp only [w_m_drift_0, w_m_drift_1, w_m_drift_2, w_m_drift_3, w_m_drift_6, w_m_drift_9, w_m_drift_12, w_m_drift_14, w_m_drift_15, w_m_drift_16, w_m_drift_19, w_m_drift_22, w_m_drift_24, w_m_drift_25, w_m_drift_26, w_m_drift_29, w_m_drift_30, w_m_drift_32, w_m_drift_33, w_m_drift_36, w_m_drift_37, w_m_drift_40, w_m_drift_43, w_m_drift_44, w_m_drift_47, w_m_drift_50, w_m_drift_51, w_m_drift_52, w_m_drift_55, w_m_drift_58, w_m_drift_59, w_m_drift_60, w_m_drift_63, w_m_drift_64, w_m_drift_65, w_m_drift_66, w_m_drift_69, w_m_drift_72, w_m_drift_73, w_m_drift_76, w_m_drift_79, w_m_drift_80, w_m_drift_83, xm_0, cl_58, xm_3, xm_7, xm_9, al_65, g1, show up (st M 73 (rmF (M 73) (M 65) u)) 58 26 (nI (rmU u)) 58 3 = nI 0 from h2, (show ((0 : Int32) < nI 0) = False by decide), e_m_allEnvy (show MD (up (st M 73 (rmF (M 73) (M 65) u)) 58 26 (nI (rmU u))) K 0 n from h), cl_58, i10, Bool.false_eq_true, eq_self, true_or, or_true, if_true, if_false, gv_int, gv_ref, av_some, al_some, un_int, un_ref, un_mk, ok4_0, ok4_1, ok4_2, ok4_3, ok4_4, Kn_some, Kn_none, true_and, and_true]
          exact hQ
/-- all that lies on the table is given, from child i on -/
def dwS (i c : Nat) (t : Nat) (s : Nat × (Nat → Int32)) : Nat × (Nat → Int32) := if s.2 t < 0 then (s.1 + 1, upd s.2 t (nI ((i + s.1) % c))) else s
def dwE (i c n : Nat) (h : Nat → Int32) : Nat × (Nat → Int32) := lp (fun t s => dwS i c t s) n (0, h)
theorem dwE_s (i c n : Nat) (h : Nat → Int32) : dwE i c (n + 1) h = dwS i c n (dwE i c n h) := rfl
theorem dwE_le (i c : Nat) (h : Nat → Int32) : ∀ n, (dwE i c n h).1 ≤ n
  | 0 => Nat.le_refl _
  | n + 1 => by
    have := dwE_le i c h n
    rw [dwE_s]; unfold dwS
    split
    · exact Nat.succ_le_succ this
    · omega
theorem e_m_draw {A B : Nat} {M : Mm} {Q : Po} {K c n u : Nat} {k : Int32} (h : MD M K c n) (hu : M 58 26 = nI u) (h20 : u ≤ 20) : WP 184 0 [.ref 58, .int k, mk, mk] [] (shw A B) (0, 0) M Q = if inb k c then (if bagE (M 65) n (-1) = 0 then Q (some (.int (-1000000003))) (shw A B) M else Q (some (.int (nI (dwE k.toNatClampNeg c n (M 65)).1))) (shw A B) (st (RM M u) 65 (dwE k.toNatClampNeg c n (M 65)).2)) else Q (some (.int (-1000000001))) (shw A B) M := by
  cases hk : inb k c
  · simp only [w_m_draw_0, w_m_draw_1, w_m_draw_2, w_m_draw_5, w_m_draw_8, w_m_draw_10, w_m_draw_11, w_m_draw_12, w_m_draw_13, w_m_draw_16, w_m_draw_19, w_m_draw_21, w_m_draw_22, w_m_draw_23, w_m_draw_26, w_m_draw_27, w_m_draw_28, w_m_draw_29, w_m_draw_31, w_m_draw_32, w_m_draw_35, w_m_draw_38, w_m_draw_39, w_m_draw_42, w_m_draw_43, w_m_draw_44, w_m_draw_47, w_m_draw_48, w_m_draw_51, w_m_draw_52, w_m_draw_53, w_m_draw_54, w_m_draw_55, w_m_draw_56, w_m_draw_59, w_m_draw_60, w_m_draw_61, w_m_draw_64, w_m_draw_67, w_m_draw_70, w_m_draw_71, cl_58, xm_7, xm_9, al_65, xm_3, e_m_isChild h, hk, cl_58, i10, Bool.false_eq_true, eq_self, true_or, or_true, if_true, if_false, gv_int, gv_ref, av_some, al_some, un_int, un_ref, un_mk, ok4_0, ok4_1, ok4_2, ok4_3, ok4_4, Kn_some, Kn_none, true_and, and_true]
  · by_cases q : bagE (M 65) n (-1) = 0
    · simp only [w_m_draw_0, w_m_draw_1, w_m_draw_2, w_m_draw_5, w_m_draw_8, w_m_draw_10, w_m_draw_11, w_m_draw_12, w_m_draw_13, w_m_draw_16, w_m_draw_19, w_m_draw_21, w_m_draw_22, w_m_draw_23, w_m_draw_26, w_m_draw_27, w_m_draw_28, w_m_draw_29, w_m_draw_31, w_m_draw_32, w_m_draw_35, w_m_draw_38, w_m_draw_39, w_m_draw_42, w_m_draw_43, w_m_draw_44, w_m_draw_47, w_m_draw_48, w_m_draw_51, w_m_draw_52, w_m_draw_53, w_m_draw_54, w_m_draw_55, w_m_draw_56, w_m_draw_59, w_m_draw_60, w_m_draw_61, w_m_draw_64, w_m_draw_67, w_m_draw_70, w_m_draw_71, cl_58, xm_7, xm_9, al_65, xm_3, e_m_isChild h, hk, cl_58, e_m_bagOf h, q, i10, Bool.false_eq_true, eq_self, true_or, or_true, if_true, if_false, gv_int, gv_ref, av_some, al_some, un_int, un_ref, un_mk, ok4_0, ok4_1, ok4_2, ok4_3, ok4_4, Kn_some, Kn_none, true_and, and_true]
    · simp only [q, if_true, if_false]
      refine WP.is (fun Q hQ => ?_)
      obtain ⟨h1, h2, h3, h4, h5, h6, h7⟩ := id h
      obtain ⟨i, i1, rfl⟩ := inb_of hk (by omega)
      rw [nI_clamp (show i < 2 ^ 31 by omega)] at hQ
      simp only [w_m_draw_0, w_m_draw_1, w_m_draw_2, w_m_draw_5, w_m_draw_8, w_m_draw_10, w_m_draw_11, w_m_draw_12, w_m_draw_13, w_m_draw_16, w_m_draw_19, w_m_draw_21, w_m_draw_22, w_m_draw_23, w_m_draw_26, w_m_draw_27, w_m_draw_28, w_m_draw_29, w_m_draw_31, w_m_draw_32, w_m_draw_35, w_m_draw_38, w_m_draw_39, w_m_draw_42, w_m_draw_43, w_m_draw_44, w_m_draw_47, w_m_draw_48, w_m_draw_51, w_m_draw_52, w_m_draw_53, w_m_draw_54, w_m_draw_55, w_m_draw_56, w_m_draw_59, w_m_draw_60, w_m_draw_61, w_m_draw_64, w_m_draw_67, w_m_draw_70, w_m_draw_71, cl_58, xm_7, xm_9, al_65, xm_3, e_m_isChild h, hk, cl_58, e_m_bagOf h, q, e_m_remember hu h20, i10, Bool.false_eq_true, eq_self, true_or, or_true, if_true, if_false, gv_int, gv_ref, av_some, al_some, un_int, un_ref, un_mk, ok4_0, ok4_1, ok4_2, ok4_3, ok4_4, Kn_some, Kn_none, true_and, and_true]
      have := for_up (n := n) (P := fun t => WP 184 30 [.ref 58, .int (nI i), .int (nI (dwE i c t (M 65)).1), .int (nI t)] [] (shw A B) (0, 0) (st (RM M u) 65 (dwE i c t (M 65)).2) Q) ?_ ?_
      · rw [show (dwE i c 0 (M 65)).2 = M 65 from rfl, show st (RM M u) 65 (M 65) = RM M u from st_self (RM M u) 65] at this
        exact this
      · rw [w_m_draw_30]
        simp only [w_m_draw_0, w_m_draw_1, w_m_draw_2, w_m_draw_5, w_m_draw_8, w_m_draw_10, w_m_draw_11, w_m_draw_12, w_m_draw_13, w_m_draw_16, w_m_draw_19, w_m_draw_21, w_m_draw_22, w_m_draw_23, w_m_draw_26, w_m_draw_27, w_m_draw_28, w_m_draw_29, w_m_draw_31, w_m_draw_32, w_m_draw_35, w_m_draw_38, w_m_draw_39, w_m_draw_42, w_m_draw_43, w_m_draw_44, w_m_draw_47, w_m_draw_48, w_m_draw_51, w_m_draw_52, w_m_draw_53, w_m_draw_54, w_m_draw_55, w_m_draw_56, w_m_draw_59, w_m_draw_60, w_m_draw_61, w_m_draw_64, w_m_draw_67, w_m_draw_70, w_m_draw_71, cl_58, xm_7, xm_9, al_65, xm_3, show ∀ f, st (RM M u) 65 f 58 7 = nI n from fun _ => h3, lt_irr, i10, Bool.false_eq_true, eq_self, true_or, or_true, if_true, if_false, gv_int, gv_ref, av_some, al_some, un_int, un_ref, un_mk, ok4_0, ok4_1, ok4_2, ok4_3, ok4_4, Kn_some, Kn_none, true_and, and_true]
        exact hQ
      · intro t ht ih
        have g1 : nI t < nI n := nI_lt ht (by omega)
        have g2 : vp_in (nI t) 7 := vp_in_nI (by omega) (by decide)
        have g3 : ¬ nI c = 0 := nI_ne0 (by omega) (by omega)
        have hle := dwE_le i c (M 65) t
        rw [dwE_s] at ih
        unfold dwS at ih
        rw [w_m_draw_30]
        generalize dwE i c t (M 65) = s0 at ih hle ⊢
        simp only [w_m_draw_0, w_m_draw_1, w_m_draw_2, w_m_draw_5, w_m_draw_8, w_m_draw_10, w_m_draw_11, w_m_draw_12, w_m_draw_13, w_m_draw_16, w_m_draw_19, w_m_draw_21, w_m_draw_22, w_m_draw_23, w_m_draw_26, w_m_draw_27, w_m_draw_28, w_m_draw_29, w_m_draw_31, w_m_draw_32, w_m_draw_35, w_m_draw_38, w_m_draw_39, w_m_draw_42, w_m_draw_43, w_m_draw_44, w_m_draw_47, w_m_draw_48, w_m_draw_51, w_m_draw_52, w_m_draw_53, w_m_draw_54, w_m_draw_55, w_m_draw_56, w_m_draw_59, w_m_draw_60, w_m_draw_61, w_m_draw_64, w_m_draw_67, w_m_draw_70, w_m_draw_71, cl_58, xm_7, xm_9, al_65, xm_3, show ∀ f, st (RM M u) 65 f 58 7 = nI n from fun _ => h3, show ∀ f, st (RM M u) 65 f 58 3 = nI c from fun _ => h2, show ∀ f, st (RM M u) 65 f 65 = f from fun _ => rfl, g1, g2, g3, not_false_eq_true, nI_clamp (show t < 2 ^ 31 by omega), nI_add, pk_div (show i + s0.1 < 2 ^ 31 by omega) (show 0 < c by omega) (show c < 2 ^ 31 by omega), rem_nI, nI_1, up_st, i10, Bool.false_eq_true, eq_self, true_or, or_true, if_true, if_false, gv_int, gv_ref, av_some, al_some, un_int, un_ref, un_mk, ok4_0, ok4_1, ok4_2, ok4_3, ok4_4, Kn_some, Kn_none, true_and, and_true]
        by_cases q2 : s0.2 t < 0
        · simp only [q2, if_true] at ih ⊢; exact ih
        · simp only [q2, if_false] at ih ⊢; exact ih
