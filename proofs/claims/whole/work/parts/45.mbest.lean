/-! the reference: best order, sweets -/
/-- best so far among good ones -/
def bsB (ok : Nat → Bool) (V : Nat → Int32) (k : Nat) : Int32 × Int32 := lp (fun k s => if ok k then (if V k < s.2 then (nI k, V k) else s) else s) k (-1, 100000000)
theorem bsB_s (ok : Nat → Bool) (V : Nat → Int32) (k : Nat) : bsB ok V (k + 1) = if ok k then (if V k < (bsB ok V k).2 then (nI k, V k) else bsB ok V k) else bsB ok V k := rfl
def bsV (W : Nat → Nat → Int32) (lk h : Nat → Int32) (n c k : Nat) : Int32 := allE W lk (chE W n c (rwN c (nI k)) 8 0 h) n c
def boE (W : Nat → Nat → Int32) (lk h : Nat → Int32) (n c : Nat) : Int32 × Int32 := bsB (fun k => tOK c (nI k)) (bsV W lk h n c) 4322
def boA (s : Int32 × Int32) (what : Int32) : Int32 := if s.1 < 0 then s.1 else if what = 0 then s.1 else s.2
theorem tOK_0 (c : Nat) : tOK c (nI 0) = false := by
  cases e : tOK c (nI 0) with
  | false => rfl
  | true =>
    exfalso
    unfold tOK at e
    simp only [Bool.and_eq_true] at e
    have : ∀ k, (tG c (nI 0) k).1 = false := by
      intro k
      induction k with
      | zero => show (decide (0 < c) && decide ((0 : Int32) < nI 0)) = false; rw [show decide ((0 : Int32) < nI 0) = false from by decide, Bool.and_false]
      | succ k ih => show ((tG c (nI 0) k).1 && _) = false; rw [ih, Bool.false_and]
    rw [this c] at e
    cases e.1
theorem e_m_bestOrder {A B : Nat} {M : Mm} {Q : Po} {K c n : Nat} {what : Int32} (h : MD M K c n) (hQ0 : ∀ f : Nat → Int32, inb what 2 = true → Q (some (.int (boA (boE (wT M) (M 63) (M 65) n c) what))) (shw A B) (st (SV M) 75 f)) (hQ1 : inb what 2 = false → Q (some (.int (-1000000002))) (shw A B) M) : WP 201 0 [.ref 58, .int what, mk, mk, mk, mk] [] (shw A B) (0, 0) M Q := by
  obtain ⟨h1, h2, h3, h4, h5, h6, h7⟩ := id h
  cases hw : inb what 2
  · simp only [w_m_bestOrder_0, w_m_bestOrder_1, w_m_bestOrder_2, w_m_bestOrder_3, w_m_bestOrder_4, w_m_bestOrder_7, w_m_bestOrder_10, w_m_bestOrder_12, w_m_bestOrder_13, w_m_bestOrder_14, w_m_bestOrder_17, w_m_bestOrder_18, w_m_bestOrder_19, w_m_bestOrder_22, w_m_bestOrder_23, w_m_bestOrder_24, w_m_bestOrder_28, w_m_bestOrder_31, w_m_bestOrder_34, w_m_bestOrder_35, w_m_bestOrder_37, w_m_bestOrder_40, w_m_bestOrder_43, w_m_bestOrder_44, w_m_bestOrder_47, w_m_bestOrder_48, w_m_bestOrder_51, w_m_bestOrder_53, w_m_bestOrder_55, w_m_bestOrder_56, w_m_bestOrder_59, w_m_bestOrder_61, w_m_bestOrder_64, w_m_bestOrder_65, w_m_bestOrder_66, w_m_bestOrder_68, w_m_bestOrder_69, w_m_bestOrder_72, w_m_bestOrder_74, w_m_bestOrder_77, w_m_bestOrder_78, w_m_bestOrder_79, w_m_bestOrder_80, w_m_bestOrder_83, w_m_bestOrder_86, w_m_bestOrder_89, w_m_bestOrder_90, w_m_bestOrder_93, w_m_bestOrder_94, w_m_bestOrder_97, w_m_bestOrder_98, w_m_bestOrder_101, w_m_bestOrder_102, cl_58, e_m_in, rng_k 2 (show 2 < 100000 by decide) (show (nI 2 - 1).toInt64 = 1 by decide), hw, i10, Bool.false_eq_true, eq_self, true_or, or_true, if_true, if_false, gv_int, gv_ref, av_some, al_some, un_int, un_ref, un_mk, ok4_0, ok4_1, ok4_2, ok4_3, ok4_4, Kn_some, Kn_none, true_and, and_true]
    exact hQ1 hw
  · simp only [w_m_bestOrder_0, w_m_bestOrder_1, w_m_bestOrder_2, w_m_bestOrder_3, w_m_bestOrder_4, w_m_bestOrder_7, w_m_bestOrder_10, w_m_bestOrder_12, w_m_bestOrder_13, w_m_bestOrder_14, w_m_bestOrder_17, w_m_bestOrder_18, w_m_bestOrder_19, w_m_bestOrder_22, w_m_bestOrder_23, w_m_bestOrder_24, w_m_bestOrder_28, w_m_bestOrder_31, w_m_bestOrder_34, w_m_bestOrder_35, w_m_bestOrder_37, w_m_bestOrder_40, w_m_bestOrder_43, w_m_bestOrder_44, w_m_bestOrder_47, w_m_bestOrder_48, w_m_bestOrder_51, w_m_bestOrder_53, w_m_bestOrder_55, w_m_bestOrder_56, w_m_bestOrder_59, w_m_bestOrder_61, w_m_bestOrder_64, w_m_bestOrder_65, w_m_bestOrder_66, w_m_bestOrder_68, w_m_bestOrder_69, w_m_bestOrder_72, w_m_bestOrder_74, w_m_bestOrder_77, w_m_bestOrder_78, w_m_bestOrder_79, w_m_bestOrder_80, w_m_bestOrder_83, w_m_bestOrder_86, w_m_bestOrder_89, w_m_bestOrder_90, w_m_bestOrder_93, w_m_bestOrder_94, w_m_bestOrder_97, w_m_bestOrder_98, w_m_bestOrder_101, w_m_bestOrder_102, cl_58, e_m_in, rng_k 2 (show 2 < 100000 by decide) (show (nI 2 - 1).toInt64 = 1 by decide), hw, e_m_save, cl_58, i10, Bool.false_eq_true, eq_self, true_or, or_true, if_true, if_false, gv_int, gv_ref, av_some, al_some, un_int, un_ref, un_mk, ok4_0, ok4_1, ok4_2, ok4_3, ok4_4, Kn_some, Kn_none, true_and, and_true]
    have key := for_up (n := 4321) (P := fun k => ∀ (f : Nat → Int32) j5, WP 201 26 [.ref 58, .int what, .int (bsB (fun k => tOK c (nI k)) (bsV (wT M) (M 63) (M 65) n c) (k + 1)).1, .int (bsB (fun k => tOK c (nI k)) (bsV (wT M) (M 63) (M 65) n c) (k + 1)).2, .int (nI (k + 1)), j5] [] (shw A B) (0, 0) (st (SV M) 75 f) Q) ?_ ?_ (M 75) mk
    · rw [show bsB (fun k => tOK c (nI k)) (bsV (wT M) (M 63) (M 65) n c) (0 + 1) = (-1, 100000000) from by rw [Nat.zero_add, show (1 : Nat) = 0 + 1 from rfl, bsB_s, if_neg (by rw [tOK_0]; decide)]; rfl, show st (SV M) 75 (M 75) = SV M from st_self (SV M) 75] at key
      exact key
    · intro f j5
      have e := hQ0 f hw
      unfold boE at e
      rw [w_m_bestOrder_26]
      generalize bsB (fun k => tOK c (nI k)) (bsV (wT M) (M 63) (M 65) n c) 4322 = s0 at e ⊢
      unfold boA at e
      simp only [w_m_bestOrder_0, w_m_bestOrder_1, w_m_bestOrder_2, w_m_bestOrder_3, w_m_bestOrder_4, w_m_bestOrder_7, w_m_bestOrder_10, w_m_bestOrder_12, w_m_bestOrder_13, w_m_bestOrder_14, w_m_bestOrder_17, w_m_bestOrder_18, w_m_bestOrder_19, w_m_bestOrder_22, w_m_bestOrder_23, w_m_bestOrder_24, w_m_bestOrder_28, w_m_bestOrder_31, w_m_bestOrder_34, w_m_bestOrder_35, w_m_bestOrder_37, w_m_bestOrder_40, w_m_bestOrder_43, w_m_bestOrder_44, w_m_bestOrder_47, w_m_bestOrder_48, w_m_bestOrder_51, w_m_bestOrder_53, w_m_bestOrder_55, w_m_bestOrder_56, w_m_bestOrder_59, w_m_bestOrder_61, w_m_bestOrder_64, w_m_bestOrder_65, w_m_bestOrder_66, w_m_bestOrder_68, w_m_bestOrder_69, w_m_bestOrder_72, w_m_bestOrder_74, w_m_bestOrder_77, w_m_bestOrder_78, w_m_bestOrder_79, w_m_bestOrder_80, w_m_bestOrder_83, w_m_bestOrder_86, w_m_bestOrder_89, w_m_bestOrder_90, w_m_bestOrder_93, w_m_bestOrder_94, w_m_bestOrder_97, w_m_bestOrder_98, w_m_bestOrder_101, w_m_bestOrder_102, cl_58, (show (nI (4321 + 1) < 4322) = False by decide), i10, Bool.false_eq_true, eq_self, true_or, or_true, if_true, if_false, gv_int, gv_ref, av_some, al_some, un_int, un_ref, un_mk, ok4_0, ok4_1, ok4_2, ok4_3, ok4_4, Kn_some, Kn_none, true_and, and_true]
      by_cases q : s0.1 < 0
      · simp only [q, if_true] at e ⊢; exact e
      · by_cases q2 : what = 0
        · simp only [q, q2, if_true, if_false] at e ⊢; exact e
        · simp only [q, q2, if_false] at e ⊢; exact e
    · intro k hk ih f j5
      have g1 : (nI (k + 1) < 4322) = True := eq_true (nI_lt (show k + 1 < 4322 by omega) (by decide))
      rw [w_m_bestOrder_26]
      rw [bsB_s] at ih
      generalize bsB (fun k => tOK c (nI k)) (bsV (wT M) (M 63) (M 65) n c) (k + 1) = s0 at ih ⊢
      have er : rowF c (nI (k + 1)) (st (SV M) 75 f 75) c = rowF c (nI (k + 1)) f c := rfl
      cases ho : tOK c (nI (k + 1))
      · rw [ho] at ih
        simp only [Bool.false_eq_true, if_false] at ih
        simp only [w_m_bestOrder_0, w_m_bestOrder_1, w_m_bestOrder_2, w_m_bestOrder_3, w_m_bestOrder_4, w_m_bestOrder_7, w_m_bestOrder_10, w_m_bestOrder_12, w_m_bestOrder_13, w_m_bestOrder_14, w_m_bestOrder_17, w_m_bestOrder_18, w_m_bestOrder_19, w_m_bestOrder_22, w_m_bestOrder_23, w_m_bestOrder_24, w_m_bestOrder_28, w_m_bestOrder_31, w_m_bestOrder_34, w_m_bestOrder_35, w_m_bestOrder_37, w_m_bestOrder_40, w_m_bestOrder_43, w_m_bestOrder_44, w_m_bestOrder_47, w_m_bestOrder_48, w_m_bestOrder_51, w_m_bestOrder_53, w_m_bestOrder_55, w_m_bestOrder_56, w_m_bestOrder_59, w_m_bestOrder_61, w_m_bestOrder_64, w_m_bestOrder_65, w_m_bestOrder_66, w_m_bestOrder_68, w_m_bestOrder_69, w_m_bestOrder_72, w_m_bestOrder_74, w_m_bestOrder_77, w_m_bestOrder_78, w_m_bestOrder_79, w_m_bestOrder_80, w_m_bestOrder_83, w_m_bestOrder_86, w_m_bestOrder_89, w_m_bestOrder_90, w_m_bestOrder_93, w_m_bestOrder_94, w_m_bestOrder_97, w_m_bestOrder_98, w_m_bestOrder_101, w_m_bestOrder_102, cl_58, g1, e_m_takeOrder (show MD (st (SV M) 75 f) K c n from h), ho, cl_58, nI_1, st_st, i10, Bool.false_eq_true, eq_self, true_or, or_true, if_true, if_false, gv_int, gv_ref, av_some, al_some, un_int, un_ref, un_mk, ok4_0, ok4_1, ok4_2, ok4_3, ok4_4, Kn_some, Kn_none, true_and, and_true]
        exact ih _ _
      · rw [ho] at ih
        simp only [if_true] at ih
        have hc := tOK_pos ho
        have hr := row_ok (f := f) ho h5
        have hm : MD (st (SV M) 75 (rowF c (nI (k + 1)) f c)) K c n := h
        have hb : st (st (st (SV M) 75 (rowF c (nI (k + 1)) f c)) 65 (chE (wT M) n c (rwN c (nI (k + 1))) 8 0 (M 65))) 65 (ov (st (st (SV M) 75 (rowF c (nI (k + 1)) f c)) 65 (chE (wT M) n c (rwN c (nI (k + 1))) 8 0 (M 65)) 74) (st (st (SV M) 75 (rowF c (nI (k + 1)) f c)) 65 (chE (wT M) n c (rwN c (nI (k + 1))) 8 0 (M 65)) 65) 7) = st (SV M) 75 (rowF c (nI (k + 1)) f c) :=
          SV_back2 M (st (SV M) 75 (rowF c (nI (k + 1)) f c)) _ rfl rfl (fun j hj => chE_far 8 0 _ j (by omega))
        have ih := ih (rowF c (nI (k + 1)) f c)
        unfold bsV at ih
        simp only [w_m_bestOrder_0, w_m_bestOrder_1, w_m_bestOrder_2, w_m_bestOrder_3, w_m_bestOrder_4, w_m_bestOrder_7, w_m_bestOrder_10, w_m_bestOrder_12, w_m_bestOrder_13, w_m_bestOrder_14, w_m_bestOrder_17, w_m_bestOrder_18, w_m_bestOrder_19, w_m_bestOrder_22, w_m_bestOrder_23, w_m_bestOrder_24, w_m_bestOrder_28, w_m_bestOrder_31, w_m_bestOrder_34, w_m_bestOrder_35, w_m_bestOrder_37, w_m_bestOrder_40, w_m_bestOrder_43, w_m_bestOrder_44, w_m_bestOrder_47, w_m_bestOrder_48, w_m_bestOrder_51, w_m_bestOrder_53, w_m_bestOrder_55, w_m_bestOrder_56, w_m_bestOrder_59, w_m_bestOrder_61, w_m_bestOrder_64, w_m_bestOrder_65, w_m_bestOrder_66, w_m_bestOrder_68, w_m_bestOrder_69, w_m_bestOrder_72, w_m_bestOrder_74, w_m_bestOrder_77, w_m_bestOrder_78, w_m_bestOrder_79, w_m_bestOrder_80, w_m_bestOrder_83, w_m_bestOrder_86, w_m_bestOrder_89, w_m_bestOrder_90, w_m_bestOrder_93, w_m_bestOrder_94, w_m_bestOrder_97, w_m_bestOrder_98, w_m_bestOrder_101, w_m_bestOrder_102, cl_58, g1, e_m_takeOrder (show MD (st (SV M) 75 f) K c n from h), ho, er, cl_58, nI_1, st_st, e_m_chooseAll hm hc hr, show wT (st (SV M) 75 (rowF c (nI (k + 1)) f c)) = wT M from rfl, show st (SV M) 75 (rowF c (nI (k + 1)) f c) 65 = M 65 from rfl, e_m_allEnvy (show MD (st (st (SV M) 75 (rowF c (nI (k + 1)) f c)) 65 (chE (wT M) n c (rwN c (nI (k + 1))) 8 0 (M 65))) K c n from h), show wT (st (st (SV M) 75 (rowF c (nI (k + 1)) f c)) 65 (chE (wT M) n c (rwN c (nI (k + 1))) 8 0 (M 65))) = wT M from rfl, show st (st (SV M) 75 (rowF c (nI (k + 1)) f c)) 65 (chE (wT M) n c (rwN c (nI (k + 1))) 8 0 (M 65)) 63 = M 63 from rfl, show st (st (SV M) 75 (rowF c (nI (k + 1)) f c)) 65 (chE (wT M) n c (rwN c (nI (k + 1))) 8 0 (M 65)) 65 = chE (wT M) n c (rwN c (nI (k + 1))) 8 0 (M 65) from rfl, e_m_putBack, i10, Bool.false_eq_true, eq_self, true_or, or_true, if_true, if_false, gv_int, gv_ref, av_some, al_some, un_int, un_ref, un_mk, ok4_0, ok4_1, ok4_2, ok4_3, ok4_4, Kn_some, Kn_none, true_and, and_true]
        generalize chE (wT M) n c (rwN c (nI (k + 1))) 8 0 (M 65) = hh at ih hb ⊢
        have hb2 : st (st (SV M) 75 (rowF c (nI (k + 1)) f c)) 65 (ov (st (st (SV M) 75 (rowF c (nI (k + 1)) f c)) 65 hh 74) hh 7) = st (SV M) 75 (rowF c (nI (k + 1)) f c) := by
          have e := hb
          rw [st_st] at e
          exact e
        by_cases q : allE (wT M) (M 63) hh n c < s0.2
        · simp only [q, if_true, hb2] at ih ⊢; exact ih _
        · simp only [q, if_false, hb2] at ih ⊢; exact ih _
/-- whether x each can be had -/
def fe (c n m x : Nat) : Bool := decide (x * c ≤ n - m + 2 * (if x / 2 * c < m then x / 2 * c else m))
def swX (c n m k : Nat) : Nat := lp (fun x b => if fe c n m x then x else b) k 0
theorem swX_s (c n m k : Nat) : swX c n m (k + 1) = if fe c n m k then k else swX c n m k := rfl
theorem d2 {k : Nat} (h : k < 2 ^ 31) : nI k / 2 = nI (k / 2) := pk_div h (by decide) (by decide)
theorem e_m_sweets {A B : Nat} {M : Mm} {Q : Po} {K c n' : Nat} {n m : Int32} (h : MD M K c n') : WP 202 0 [.ref 58, .int n, .int m, mk, mk, mk, mk] [] (shw A B) (0, 0) M Q = if inb n 1000 = true ∧ (0 ≤ m.toInt ∧ m.toInt ≤ n.toInt) then (if c = 0 then Q (some (.int (-1))) (shw A B) M else Q (some (.int (nI (n.toNatClampNeg + m.toNatClampNeg) - nI (swX c n.toNatClampNeg m.toNatClampNeg ((n.toNatClampNeg + m.toNatClampNeg) / c + 1)) * nI c))) (shw A B) M) else Q (some (.int (-1000000002))) (shw A B) M := by
  obtain ⟨h1, h2, h3, h4, h5, h6, h7⟩ := id h
  have r1 : rng n.toInt64 0 999 = inb n 1000 := rng_k 1000 (by decide) (by decide)
  have r2 : rng m.toInt64 0 n.toInt64 = decide (0 ≤ m.toInt ∧ m.toInt ≤ n.toInt) := by
    rw [rng_c (l := 0) (h := n) (l' := 0) (show (0 : Int32).toInt64 = 0 by decide) rfl]; rfl
  cases hn : inb n 1000
  · simp only [w_m_sweets_0, w_m_sweets_1, w_m_sweets_2, w_m_sweets_3, w_m_sweets_6, w_m_sweets_9, w_m_sweets_12, w_m_sweets_13, w_m_sweets_14, w_m_sweets_15, w_m_sweets_16, w_m_sweets_17, w_m_sweets_20, w_m_sweets_23, w_m_sweets_25, w_m_sweets_26, w_m_sweets_27, w_m_sweets_30, w_m_sweets_33, w_m_sweets_34, w_m_sweets_35, w_m_sweets_36, w_m_sweets_37, w_m_sweets_38, w_m_sweets_39, w_m_sweets_40, w_m_sweets_42, w_m_sweets_43, w_m_sweets_47, w_m_sweets_48, w_m_sweets_51, w_m_sweets_52, w_m_sweets_53, w_m_sweets_56, w_m_sweets_58, w_m_sweets_59, w_m_sweets_60, w_m_sweets_61, w_m_sweets_64, w_m_sweets_65, w_m_sweets_66, w_m_sweets_69, w_m_sweets_71, w_m_sweets_72, w_m_sweets_73, w_m_sweets_74, w_m_sweets_77, w_m_sweets_78, w_m_sweets_81, w_m_sweets_82, w_m_sweets_84, w_m_sweets_86, w_m_sweets_87, w_m_sweets_90, w_m_sweets_91, w_m_sweets_92, w_m_sweets_94, w_m_sweets_95, w_m_sweets_96, w_m_sweets_97, w_m_sweets_98, w_m_sweets_99, w_m_sweets_102, w_m_sweets_104, w_m_sweets_107, w_m_sweets_109, w_m_sweets_111, w_m_sweets_114, w_m_sweets_117, w_m_sweets_118, w_m_sweets_120, w_m_sweets_121, w_m_sweets_124, w_m_sweets_125, w_m_sweets_126, xm_3, e_m_in, r1, hn, false_and, i10, Bool.false_eq_true, eq_self, true_or, or_true, if_true, if_false, gv_int, gv_ref, av_some, al_some, un_int, un_ref, un_mk, ok4_0, ok4_1, ok4_2, ok4_3, ok4_4, Kn_some, Kn_none, true_and, and_true]
  · by_cases hm : 0 ≤ m.toInt ∧ m.toInt ≤ n.toInt
    · rw [if_pos ⟨rfl, hm⟩]
      by_cases c0 : c = 0
      · subst c0
        simp only [w_m_sweets_0, w_m_sweets_1, w_m_sweets_2, w_m_sweets_3, w_m_sweets_6, w_m_sweets_9, w_m_sweets_12, w_m_sweets_13, w_m_sweets_14, w_m_sweets_15, w_m_sweets_16, w_m_sweets_17, w_m_sweets_20, w_m_sweets_23, w_m_sweets_25, w_m_sweets_26, w_m_sweets_27, w_m_sweets_30, w_m_sweets_33, w_m_sweets_34, w_m_sweets_35, w_m_sweets_36, w_m_sweets_37, w_m_sweets_38, w_m_sweets_39, w_m_sweets_40, w_m_sweets_42, w_m_sweets_43, w_m_sweets_47, w_m_sweets_48, w_m_sweets_51, w_m_sweets_52, w_m_sweets_53, w_m_sweets_56, w_m_sweets_58, w_m_sweets_59, w_m_sweets_60, w_m_sweets_61, w_m_sweets_64, w_m_sweets_65, w_m_sweets_66, w_m_sweets_69, w_m_sweets_71, w_m_sweets_72, w_m_sweets_73, w_m_sweets_74, w_m_sweets_77, w_m_sweets_78, w_m_sweets_81, w_m_sweets_82, w_m_sweets_84, w_m_sweets_86, w_m_sweets_87, w_m_sweets_90, w_m_sweets_91, w_m_sweets_92, w_m_sweets_94, w_m_sweets_95, w_m_sweets_96, w_m_sweets_97, w_m_sweets_98, w_m_sweets_99, w_m_sweets_102, w_m_sweets_104, w_m_sweets_107, w_m_sweets_109, w_m_sweets_111, w_m_sweets_114, w_m_sweets_117, w_m_sweets_118, w_m_sweets_120, w_m_sweets_121, w_m_sweets_124, w_m_sweets_125, w_m_sweets_126, xm_3, e_m_in, r1, hn, r2, decide_eq_true hm, h2, (show (nI 0 = 0) = True by decide), i10, Bool.false_eq_true, eq_self, true_or, or_true, if_true, if_false, gv_int, gv_ref, av_some, al_some, un_int, un_ref, un_mk, ok4_0, ok4_1, ok4_2, ok4_3, ok4_4, Kn_some, Kn_none, true_and, and_true]
      · rw [if_neg c0]
        refine WP.is (fun Q hQ => ?_)
        have g0 : (nI c = 0) = False := eq_false (nI_ne0 (by omega) (by omega))
        obtain ⟨a, a1, rfl⟩ := inb_of hn (by decide)
        rw [nI_toInt (by omega)] at hm
        obtain ⟨b, b1, rfl⟩ := inb_of (k := m) (c := 1000) (by rw [inb_iff]; omega) (by decide)
        rw [nI_toInt (show b < 2 ^ 31 by omega)] at hm
        have hba : b ≤ a := by omega
        rw [nI_clamp (show a < 2 ^ 31 by omega), nI_clamp (show b < 2 ^ 31 by omega)] at hQ
        have hdec : decide (0 ≤ (nI b).toInt ∧ (nI b).toInt ≤ (nI a).toInt) = true := by
          rw [nI_toInt (show b < 2 ^ 31 by omega), nI_toInt (show a < 2 ^ 31 by omega)]; exact decide_eq_true hm
        simp only [w_m_sweets_0, w_m_sweets_1, w_m_sweets_2, w_m_sweets_3, w_m_sweets_6, w_m_sweets_9, w_m_sweets_12, w_m_sweets_13, w_m_sweets_14, w_m_sweets_15, w_m_sweets_16, w_m_sweets_17, w_m_sweets_20, w_m_sweets_23, w_m_sweets_25, w_m_sweets_26, w_m_sweets_27, w_m_sweets_30, w_m_sweets_33, w_m_sweets_34, w_m_sweets_35, w_m_sweets_36, w_m_sweets_37, w_m_sweets_38, w_m_sweets_39, w_m_sweets_40, w_m_sweets_42, w_m_sweets_43, w_m_sweets_47, w_m_sweets_48, w_m_sweets_51, w_m_sweets_52, w_m_sweets_53, w_m_sweets_56, w_m_sweets_58, w_m_sweets_59, w_m_sweets_60, w_m_sweets_61, w_m_sweets_64, w_m_sweets_65, w_m_sweets_66, w_m_sweets_69, w_m_sweets_71, w_m_sweets_72, w_m_sweets_73, w_m_sweets_74, w_m_sweets_77, w_m_sweets_78, w_m_sweets_81, w_m_sweets_82, w_m_sweets_84, w_m_sweets_86, w_m_sweets_87, w_m_sweets_90, w_m_sweets_91, w_m_sweets_92, w_m_sweets_94, w_m_sweets_95, w_m_sweets_96, w_m_sweets_97, w_m_sweets_98, w_m_sweets_99, w_m_sweets_102, w_m_sweets_104, w_m_sweets_107, w_m_sweets_109, w_m_sweets_111, w_m_sweets_114, w_m_sweets_117, w_m_sweets_118, w_m_sweets_120, w_m_sweets_121, w_m_sweets_124, w_m_sweets_125, w_m_sweets_126, xm_3, e_m_in, r1, hn, r2, hdec, h2, g0, nI_add, i10, Bool.false_eq_true, eq_self, true_or, or_true, if_true, if_false, gv_int, gv_ref, av_some, al_some, un_int, un_ref, un_mk, ok4_0, ok4_1, ok4_2, ok4_3, ok4_4, Kn_some, Kn_none, true_and, and_true]
        have hdc : (a + b) / c * c ≤ a + b := Nat.div_mul_le_self _ _
        have hlt : a + b < ((a + b) / c + 1) * c := by
          have := Nat.div_add_mod (a + b) c
          have h9 := Nat.mod_lt (a + b) (show 0 < c by omega)
          rw [Nat.add_mul, Nat.one_mul, Nat.mul_comm]; omega
        have hle2 : (a + b) / c ≤ a + b := Nat.div_le_self _ _
        have hx5 : ((a + b) / c + 1) * c ≤ 100000 := by
          have : ((a + b) / c + 1) * c = (a + b) / c * c + c := by rw [Nat.add_mul, Nat.one_mul]
          omega
        refine for_up (n := (a + b) / c + 1) (P := fun x => ∀ j6, WP 202 45 [.ref 58, .int (nI a), .int (nI b), .int (nI (a + b)), .int (nI (swX c a b x)), .int (nI x), j6] [] (shw A B) (0, 0) M Q) ?_ ?_ mk
        · intro j6
          have g1 : (nI (a + b) < nI (((a + b) / c + 1) * c)) = True := eq_true (nI_lt hlt (by omega))
          rw [w_m_sweets_45]
          simp only [w_m_sweets_0, w_m_sweets_1, w_m_sweets_2, w_m_sweets_3, w_m_sweets_6, w_m_sweets_9, w_m_sweets_12, w_m_sweets_13, w_m_sweets_14, w_m_sweets_15, w_m_sweets_16, w_m_sweets_17, w_m_sweets_20, w_m_sweets_23, w_m_sweets_25, w_m_sweets_26, w_m_sweets_27, w_m_sweets_30, w_m_sweets_33, w_m_sweets_34, w_m_sweets_35, w_m_sweets_36, w_m_sweets_37, w_m_sweets_38, w_m_sweets_39, w_m_sweets_40, w_m_sweets_42, w_m_sweets_43, w_m_sweets_47, w_m_sweets_48, w_m_sweets_51, w_m_sweets_52, w_m_sweets_53, w_m_sweets_56, w_m_sweets_58, w_m_sweets_59, w_m_sweets_60, w_m_sweets_61, w_m_sweets_64, w_m_sweets_65, w_m_sweets_66, w_m_sweets_69, w_m_sweets_71, w_m_sweets_72, w_m_sweets_73, w_m_sweets_74, w_m_sweets_77, w_m_sweets_78, w_m_sweets_81, w_m_sweets_82, w_m_sweets_84, w_m_sweets_86, w_m_sweets_87, w_m_sweets_90, w_m_sweets_91, w_m_sweets_92, w_m_sweets_94, w_m_sweets_95, w_m_sweets_96, w_m_sweets_97, w_m_sweets_98, w_m_sweets_99, w_m_sweets_102, w_m_sweets_104, w_m_sweets_107, w_m_sweets_109, w_m_sweets_111, w_m_sweets_114, w_m_sweets_117, w_m_sweets_118, w_m_sweets_120, w_m_sweets_121, w_m_sweets_124, w_m_sweets_125, w_m_sweets_126, xm_3, h2, pk_mul, g1, i10, Bool.false_eq_true, eq_self, true_or, or_true, if_true, if_false, gv_int, gv_ref, av_some, al_some, un_int, un_ref, un_mk, ok4_0, ok4_1, ok4_2, ok4_3, ok4_4, Kn_some, Kn_none, true_and, and_true]
          rw [← pk_mul]
          exact hQ
        · intro x hx ih j6
          have hxc : x * c ≤ (a + b) / c * c := Nat.mul_le_mul_right c (by omega)
          have hx2 : x / 2 * c ≤ x * c := Nat.mul_le_mul_right c (Nat.div_le_self x 2)
          have g1 : (nI (a + b) < nI (x * c)) = False := eq_false (nI_nlt (by omega) (by omega))
          have g2 : ¬ (2 : Int32) = 0 := by decide
          rw [swX_s] at ih
          rw [w_m_sweets_45]
          by_cases q : x / 2 * c < b
          · have p : (nI (x / 2 * c) < nI b) = True := eq_true (nI_lt q (by omega))
            have e2 : (2 : Int32) * nI (x / 2 * c) = nI (2 * (x / 2 * c)) := pk_mul 2 _
            have e3 : (nI a - nI b < nI (x * c) - nI (2 * (x / 2 * c))) ↔ ¬ fe c a b x = true := by
              unfold fe
              rw [Int32.lt_iff_toInt_lt, pk_sub_toInt (by omega) (by omega), pk_sub_toInt (by omega) (by omega), if_pos q, decide_eq_true_eq]
              omega
            cases q3 : fe c a b x
            · have p3 : (nI a - nI b < nI (x * c) - nI (2 * (x / 2 * c))) = True := eq_true (e3.mpr (by rw [q3]; decide))
              rw [q3] at ih
              simp only [Bool.false_eq_true, if_false] at ih
              simp only [w_m_sweets_0, w_m_sweets_1, w_m_sweets_2, w_m_sweets_3, w_m_sweets_6, w_m_sweets_9, w_m_sweets_12, w_m_sweets_13, w_m_sweets_14, w_m_sweets_15, w_m_sweets_16, w_m_sweets_17, w_m_sweets_20, w_m_sweets_23, w_m_sweets_25, w_m_sweets_26, w_m_sweets_27, w_m_sweets_30, w_m_sweets_33, w_m_sweets_34, w_m_sweets_35, w_m_sweets_36, w_m_sweets_37, w_m_sweets_38, w_m_sweets_39, w_m_sweets_40, w_m_sweets_42, w_m_sweets_43, w_m_sweets_47, w_m_sweets_48, w_m_sweets_51, w_m_sweets_52, w_m_sweets_53, w_m_sweets_56, w_m_sweets_58, w_m_sweets_59, w_m_sweets_60, w_m_sweets_61, w_m_sweets_64, w_m_sweets_65, w_m_sweets_66, w_m_sweets_69, w_m_sweets_71, w_m_sweets_72, w_m_sweets_73, w_m_sweets_74, w_m_sweets_77, w_m_sweets_78, w_m_sweets_81, w_m_sweets_82, w_m_sweets_84, w_m_sweets_86, w_m_sweets_87, w_m_sweets_90, w_m_sweets_91, w_m_sweets_92, w_m_sweets_94, w_m_sweets_95, w_m_sweets_96, w_m_sweets_97, w_m_sweets_98, w_m_sweets_99, w_m_sweets_102, w_m_sweets_104, w_m_sweets_107, w_m_sweets_109, w_m_sweets_111, w_m_sweets_114, w_m_sweets_117, w_m_sweets_118, w_m_sweets_120, w_m_sweets_121, w_m_sweets_124, w_m_sweets_125, w_m_sweets_126, xm_3, h2, pk_mul, g1, g2, not_false_eq_true, d2 (show x < 2 ^ 31 by omega), p, e2, p3, nI_1, i10, Bool.false_eq_true, eq_self, true_or, or_true, if_true, if_false, gv_int, gv_ref, av_some, al_some, un_int, un_ref, un_mk, ok4_0, ok4_1, ok4_2, ok4_3, ok4_4, Kn_some, Kn_none, true_and, and_true]
              exact ih _
            · have p3 : (nI a - nI b < nI (x * c) - nI (2 * (x / 2 * c))) = False := eq_false (fun e => e3.mp e q3)
              rw [q3] at ih
              simp only [if_true] at ih
              simp only [w_m_sweets_0, w_m_sweets_1, w_m_sweets_2, w_m_sweets_3, w_m_sweets_6, w_m_sweets_9, w_m_sweets_12, w_m_sweets_13, w_m_sweets_14, w_m_sweets_15, w_m_sweets_16, w_m_sweets_17, w_m_sweets_20, w_m_sweets_23, w_m_sweets_25, w_m_sweets_26, w_m_sweets_27, w_m_sweets_30, w_m_sweets_33, w_m_sweets_34, w_m_sweets_35, w_m_sweets_36, w_m_sweets_37, w_m_sweets_38, w_m_sweets_39, w_m_sweets_40, w_m_sweets_42, w_m_sweets_43, w_m_sweets_47, w_m_sweets_48, w_m_sweets_51, w_m_sweets_52, w_m_sweets_53, w_m_sweets_56, w_m_sweets_58, w_m_sweets_59, w_m_sweets_60, w_m_sweets_61, w_m_sweets_64, w_m_sweets_65, w_m_sweets_66, w_m_sweets_69, w_m_sweets_71, w_m_sweets_72, w_m_sweets_73, w_m_sweets_74, w_m_sweets_77, w_m_sweets_78, w_m_sweets_81, w_m_sweets_82, w_m_sweets_84, w_m_sweets_86, w_m_sweets_87, w_m_sweets_90, w_m_sweets_91, w_m_sweets_92, w_m_sweets_94, w_m_sweets_95, w_m_sweets_96, w_m_sweets_97, w_m_sweets_98, w_m_sweets_99, w_m_sweets_102, w_m_sweets_104, w_m_sweets_107, w_m_sweets_109, w_m_sweets_111, w_m_sweets_114, w_m_sweets_117, w_m_sweets_118, w_m_sweets_120, w_m_sweets_121, w_m_sweets_124, w_m_sweets_125, w_m_sweets_126, xm_3, h2, pk_mul, g1, g2, not_false_eq_true, d2 (show x < 2 ^ 31 by omega), p, e2, p3, nI_1, i10, Bool.false_eq_true, eq_self, true_or, or_true, if_true, if_false, gv_int, gv_ref, av_some, al_some, un_int, un_ref, un_mk, ok4_0, ok4_1, ok4_2, ok4_3, ok4_4, Kn_some, Kn_none, true_and, and_true]
              exact ih _
          · have p : (nI (x / 2 * c) < nI b) = False := eq_false (nI_nlt (by omega) (by omega))
            have e2 : (2 : Int32) * nI b = nI (2 * b) := pk_mul 2 _
            have e3 : (nI a - nI b < nI (x * c) - nI (2 * b)) ↔ ¬ fe c a b x = true := by
              unfold fe
              rw [Int32.lt_iff_toInt_lt, pk_sub_toInt (by omega) (by omega), pk_sub_toInt (by omega) (by omega), if_neg q, decide_eq_true_eq]
              omega
            cases q3 : fe c a b x
            · have p3 : (nI a - nI b < nI (x * c) - nI (2 * b)) = True := eq_true (e3.mpr (by rw [q3]; decide))
              rw [q3] at ih
              simp only [Bool.false_eq_true, if_false] at ih
              simp only [w_m_sweets_0, w_m_sweets_1, w_m_sweets_2, w_m_sweets_3, w_m_sweets_6, w_m_sweets_9, w_m_sweets_12, w_m_sweets_13, w_m_sweets_14, w_m_sweets_15, w_m_sweets_16, w_m_sweets_17, w_m_sweets_20, w_m_sweets_23, w_m_sweets_25, w_m_sweets_26, w_m_sweets_27, w_m_sweets_30, w_m_sweets_33, w_m_sweets_34, w_m_sweets_35, w_m_sweets_36, w_m_sweets_37, w_m_sweets_38, w_m_sweets_39, w_m_sweets_40, w_m_sweets_42, w_m_sweets_43, w_m_sweets_47, w_m_sweets_48, w_m_sweets_51, w_m_sweets_52, w_m_sweets_53, w_m_sweets_56, w_m_sweets_58, w_m_sweets_59, w_m_sweets_60, w_m_sweets_61, w_m_sweets_64, w_m_sweets_65, w_m_sweets_66, w_m_sweets_69, w_m_sweets_71, w_m_sweets_72, w_m_sweets_73, w_m_sweets_74, w_m_sweets_77, w_m_sweets_78, w_m_sweets_81, w_m_sweets_82, w_m_sweets_84, w_m_sweets_86, w_m_sweets_87, w_m_sweets_90, w_m_sweets_91, w_m_sweets_92, w_m_sweets_94, w_m_sweets_95, w_m_sweets_96, w_m_sweets_97, w_m_sweets_98, w_m_sweets_99, w_m_sweets_102, w_m_sweets_104, w_m_sweets_107, w_m_sweets_109, w_m_sweets_111, w_m_sweets_114, w_m_sweets_117, w_m_sweets_118, w_m_sweets_120, w_m_sweets_121, w_m_sweets_124, w_m_sweets_125, w_m_sweets_126, xm_3, h2, pk_mul, g1, g2, not_false_eq_true, d2 (show x < 2 ^ 31 by omega), p, e2, p3, nI_1, i10, Bool.false_eq_true, eq_self, true_or, or_true, if_true, if_false, gv_int, gv_ref, av_some, al_some, un_int, un_ref, un_mk, ok4_0, ok4_1, ok4_2, ok4_3, ok4_4, Kn_some, Kn_none, true_and, and_true]
              exact ih _
            · have p3 : (nI a - nI b < nI (x * c) - nI (2 * b)) = False := eq_false (fun e => e3.mp e q3)
              rw [q3] at ih
              simp only [if_true] at ih
              simp only [w_m_sweets_0, w_m_sweets_1, w_m_sweets_2, w_m_sweets_3, w_m_sweets_6, w_m_sweets_9, w_m_sweets_12, w_m_sweets_13, w_m_sweets_14, w_m_sweets_15, w_m_sweets_16, w_m_sweets_17, w_m_sweets_20, w_m_sweets_23, w_m_sweets_25, w_m_sweets_26, w_m_sweets_27, w_m_sweets_30, w_m_sweets_33, w_m_sweets_34, w_m_sweets_35, w_m_sweets_36, w_m_sweets_37, w_m_sweets_38, w_m_sweets_39, w_m_sweets_40, w_m_sweets_42, w_m_sweets_43, w_m_sweets_47, w_m_sweets_48, w_m_sweets_51, w_m_sweets_52, w_m_sweets_53, w_m_sweets_56, w_m_sweets_58, w_m_sweets_59, w_m_sweets_60, w_m_sweets_61, w_m_sweets_64, w_m_sweets_65, w_m_sweets_66, w_m_sweets_69, w_m_sweets_71, w_m_sweets_72, w_m_sweets_73, w_m_sweets_74, w_m_sweets_77, w_m_sweets_78, w_m_sweets_81, w_m_sweets_82, w_m_sweets_84, w_m_sweets_86, w_m_sweets_87, w_m_sweets_90, w_m_sweets_91, w_m_sweets_92, w_m_sweets_94, w_m_sweets_95, w_m_sweets_96, w_m_sweets_97, w_m_sweets_98, w_m_sweets_99, w_m_sweets_102, w_m_sweets_104, w_m_sweets_107, w_m_sweets_109, w_m_sweets_111, w_m_sweets_114, w_m_sweets_117, w_m_sweets_118, w_m_sweets_120, w_m_sweets_121, w_m_sweets_124, w_m_sweets_125, w_m_sweets_126, xm_3, h2, pk_mul, g1, g2, not_false_eq_true, d2 (show x < 2 ^ 31 by omega), p, e2, p3, nI_1, i10, Bool.false_eq_true, eq_self, true_or, or_true, if_true, if_false, gv_int, gv_ref, av_some, al_some, un_int, un_ref, un_mk, ok4_0, ok4_1, ok4_2, ok4_3, ok4_4, Kn_some, Kn_none, true_and, and_true]
              exact ih _
    · rw [if_neg (fun e => hm e.2)]
      simp only [w_m_sweets_0, w_m_sweets_1, w_m_sweets_2, w_m_sweets_3, w_m_sweets_6, w_m_sweets_9, w_m_sweets_12, w_m_sweets_13, w_m_sweets_14, w_m_sweets_15, w_m_sweets_16, w_m_sweets_17, w_m_sweets_20, w_m_sweets_23, w_m_sweets_25, w_m_sweets_26, w_m_sweets_27, w_m_sweets_30, w_m_sweets_33, w_m_sweets_34, w_m_sweets_35, w_m_sweets_36, w_m_sweets_37, w_m_sweets_38, w_m_sweets_39, w_m_sweets_40, w_m_sweets_42, w_m_sweets_43, w_m_sweets_47, w_m_sweets_48, w_m_sweets_51, w_m_sweets_52, w_m_sweets_53, w_m_sweets_56, w_m_sweets_58, w_m_sweets_59, w_m_sweets_60, w_m_sweets_61, w_m_sweets_64, w_m_sweets_65, w_m_sweets_66, w_m_sweets_69, w_m_sweets_71, w_m_sweets_72, w_m_sweets_73, w_m_sweets_74, w_m_sweets_77, w_m_sweets_78, w_m_sweets_81, w_m_sweets_82, w_m_sweets_84, w_m_sweets_86, w_m_sweets_87, w_m_sweets_90, w_m_sweets_91, w_m_sweets_92, w_m_sweets_94, w_m_sweets_95, w_m_sweets_96, w_m_sweets_97, w_m_sweets_98, w_m_sweets_99, w_m_sweets_102, w_m_sweets_104, w_m_sweets_107, w_m_sweets_109, w_m_sweets_111, w_m_sweets_114, w_m_sweets_117, w_m_sweets_118, w_m_sweets_120, w_m_sweets_121, w_m_sweets_124, w_m_sweets_125, w_m_sweets_126, xm_3, e_m_in, r1, hn, r2, decide_eq_false hm, i10, Bool.false_eq_true, eq_self, true_or, or_true, if_true, if_false, gv_int, gv_ref, av_some, al_some, un_int, un_ref, un_mk, ok4_0, ok4_1, ok4_2, ok4_3, ok4_4, Kn_some, Kn_none, true_and, and_true]
