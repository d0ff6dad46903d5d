/-! the reference: sharing, orders, choosing -/
def gvF (h : Nat → Int32) (c n m : Nat) : Nat → Int32 := fun j => if j < n then nI (dg c n m j) else h j
def shV (W : Nat → Nat → Int32) (lk h : Nat → Int32) (n c m : Nat) : Int32 := if evenE (gvF h c n m) n c then allE W lk (gvF h c n m) n c else 100000000
theorem gvF_far {h g : Nat → Int32} {c n m : Nat} (hg : ∀ j, ¬ j < n → g j = h j) : (fun j => if j < n then nI (dg c n m j) else g j) = gvF h c n m := by
  funext j; unfold gvF
  by_cases q : j < n
  · rw [if_pos q, if_pos q]
  · rw [if_neg q, if_neg q, hg j q]
theorem pow_le {c n : Nat} (hc : c ≤ 4) (hn : n ≤ 7) : c ^ n ≤ 16384 := by
  calc c ^ n ≤ 4 ^ n := Nat.pow_le_pow_left hc n
    _ ≤ 4 ^ 7 := Nat.pow_le_pow_right (by decide) hn
    _ = 16384 := by decide
theorem e_m_share {A B : Nat} {M : Mm} {Q : Po} {K c n : Nat} {t : Int32} (h : MD M K c n) (hb : 0 < c → ∃ b, b < c ^ n ∧ (spB (shV (wT M) (M 63) (M 65) n c) (c ^ n)).1 = nI b) : WP 196 0 [.ref 58, .int t, mk, mk, mk, mk] [] (shw A B) (0, 0) M Q = if t = -1 ∨ inb t n = true then (if c = 0 then Q (some (.int (-1))) (shw A B) M else if t = -1 then Q (some (.int (spB (shV (wT M) (M 63) (M 65) n c) (c ^ n)).2)) (shw A B) (SV M) else Q (some (.int (nI (dg c n (spB (shV (wT M) (M 63) (M 65) n c) (c ^ n)).1.toNatClampNeg t.toNatClampNeg)))) (shw A B) (SV M)) else Q (some (.int (-1000000001))) (shw A B) M := by
  obtain ⟨h1, h2, h3, h4, h5, h6, h7⟩ := id h
  have hp := pow_le h5 h6
  by_cases q : t = -1 ∨ inb t n = true
  · have e16 : WP 196 0 [.ref 58, .int t, mk, mk, mk, mk] [] (shw A B) (0, 0) M Q = WP 196 16 [.ref 58, .int t, mk, mk, mk, mk] [] (shw A B) (0, 0) M Q := by
      by_cases q2 : t = -1
      · simp only [w_m_share_0, w_m_share_1, w_m_share_2, w_m_share_5, w_m_share_6, w_m_share_7, w_m_share_10, w_m_share_13, w_m_share_15, w_m_share_17, w_m_share_20, w_m_share_23, w_m_share_24, w_m_share_25, w_m_share_26, w_m_share_29, w_m_share_30, w_m_share_31, w_m_share_34, w_m_share_35, w_m_share_36, w_m_share_40, w_m_share_41, w_m_share_44, w_m_share_47, w_m_share_48, w_m_share_50, w_m_share_53, w_m_share_54, w_m_share_57, w_m_share_60, w_m_share_61, w_m_share_64, w_m_share_67, w_m_share_70, w_m_share_72, w_m_share_74, w_m_share_75, w_m_share_78, w_m_share_80, w_m_share_83, w_m_share_84, w_m_share_85, w_m_share_87, w_m_share_88, w_m_share_91, w_m_share_93, w_m_share_96, w_m_share_97, w_m_share_98, w_m_share_101, w_m_share_104, w_m_share_105, w_m_share_106, w_m_share_109, w_m_share_110, w_m_share_111, w_m_share_114, w_m_share_115, w_m_share_118, w_m_share_119, w_m_share_122, w_m_share_123, w_m_share_124, w_m_share_126, w_m_share_127, w_m_share_130, w_m_share_131, w_m_share_132, w_m_share_135, w_m_share_136, w_m_share_139, w_m_share_141, cl_58, xm_3, xm_9, al_65, eq_true q2, i10, Bool.false_eq_true, eq_self, true_or, or_true, if_true, if_false, gv_int, gv_ref, av_some, al_some, un_int, un_ref, un_mk, ok4_0, ok4_1, ok4_2, ok4_3, ok4_4, Kn_some, Kn_none, true_and, and_true]
      · have q3 : inb t n = true := q.resolve_left q2
        simp only [w_m_share_0, w_m_share_1, w_m_share_2, w_m_share_5, w_m_share_6, w_m_share_7, w_m_share_10, w_m_share_13, w_m_share_15, w_m_share_17, w_m_share_20, w_m_share_23, w_m_share_24, w_m_share_25, w_m_share_26, w_m_share_29, w_m_share_30, w_m_share_31, w_m_share_34, w_m_share_35, w_m_share_36, w_m_share_40, w_m_share_41, w_m_share_44, w_m_share_47, w_m_share_48, w_m_share_50, w_m_share_53, w_m_share_54, w_m_share_57, w_m_share_60, w_m_share_61, w_m_share_64, w_m_share_67, w_m_share_70, w_m_share_72, w_m_share_74, w_m_share_75, w_m_share_78, w_m_share_80, w_m_share_83, w_m_share_84, w_m_share_85, w_m_share_87, w_m_share_88, w_m_share_91, w_m_share_93, w_m_share_96, w_m_share_97, w_m_share_98, w_m_share_101, w_m_share_104, w_m_share_105, w_m_share_106, w_m_share_109, w_m_share_110, w_m_share_111, w_m_share_114, w_m_share_115, w_m_share_118, w_m_share_119, w_m_share_122, w_m_share_123, w_m_share_124, w_m_share_126, w_m_share_127, w_m_share_130, w_m_share_131, w_m_share_132, w_m_share_135, w_m_share_136, w_m_share_139, w_m_share_141, cl_58, xm_3, xm_9, al_65, eq_false q2, e_m_isThing h, q3, cl_58, i10, Bool.false_eq_true, eq_self, true_or, or_true, if_true, if_false, gv_int, gv_ref, av_some, al_some, un_int, un_ref, un_mk, ok4_0, ok4_1, ok4_2, ok4_3, ok4_4, Kn_some, Kn_none, true_and, and_true]
    rw [if_pos q, e16]
    by_cases c0 : c = 0
    · subst c0
      simp only [w_m_share_0, w_m_share_1, w_m_share_2, w_m_share_5, w_m_share_6, w_m_share_7, w_m_share_10, w_m_share_13, w_m_share_15, w_m_share_16, w_m_share_17, w_m_share_20, w_m_share_23, w_m_share_24, w_m_share_25, w_m_share_26, w_m_share_29, w_m_share_30, w_m_share_31, w_m_share_34, w_m_share_35, w_m_share_36, w_m_share_40, w_m_share_41, w_m_share_44, w_m_share_47, w_m_share_48, w_m_share_50, w_m_share_53, w_m_share_54, w_m_share_57, w_m_share_60, w_m_share_61, w_m_share_64, w_m_share_67, w_m_share_70, w_m_share_72, w_m_share_74, w_m_share_75, w_m_share_78, w_m_share_80, w_m_share_83, w_m_share_84, w_m_share_85, w_m_share_87, w_m_share_88, w_m_share_91, w_m_share_93, w_m_share_96, w_m_share_97, w_m_share_98, w_m_share_101, w_m_share_104, w_m_share_105, w_m_share_106, w_m_share_109, w_m_share_110, w_m_share_111, w_m_share_114, w_m_share_115, w_m_share_118, w_m_share_119, w_m_share_122, w_m_share_123, w_m_share_124, w_m_share_126, w_m_share_127, w_m_share_130, w_m_share_131, w_m_share_132, w_m_share_135, w_m_share_136, w_m_share_139, w_m_share_141, cl_58, xm_3, xm_9, al_65, h2, (show (nI 0 = 0) = True by decide), i10, Bool.false_eq_true, eq_self, true_or, or_true, if_true, if_false, gv_int, gv_ref, av_some, al_some, un_int, un_ref, un_mk, ok4_0, ok4_1, ok4_2, ok4_3, ok4_4, Kn_some, Kn_none, true_and, and_true]
    · rw [if_neg c0]
      have g0 : (nI c = 0) = False := eq_false (nI_ne0 (by omega) (by omega))
      have hd : ∀ Q : Po, (if t = -1 then Q (some (.int (spB (shV (wT M) (M 63) (M 65) n c) (c ^ n)).2)) (shw A B) (SV M) else Q (some (.int (nI (dg c n (spB (shV (wT M) (M 63) (M 65) n c) (c ^ n)).1.toNatClampNeg t.toNatClampNeg)))) (shw A B) (SV M)) = Q (some (.int (if t = -1 then (spB (shV (wT M) (M 63) (M 65) n c) (c ^ n)).2 else nI (dg c n (spB (shV (wT M) (M 63) (M 65) n c) (c ^ n)).1.toNatClampNeg t.toNatClampNeg)))) (shw A B) (SV M) := by
        intro Q; split <;> rfl
      rw [hd Q]
      refine WP.is (fun Q hQ => ?_)
      rw [← hd Q] at hQ
      simp only [w_m_share_0, w_m_share_1, w_m_share_2, w_m_share_5, w_m_share_6, w_m_share_7, w_m_share_10, w_m_share_13, w_m_share_15, w_m_share_16, w_m_share_17, w_m_share_20, w_m_share_23, w_m_share_24, w_m_share_25, w_m_share_26, w_m_share_29, w_m_share_30, w_m_share_31, w_m_share_34, w_m_share_35, w_m_share_36, w_m_share_40, w_m_share_41, w_m_share_44, w_m_share_47, w_m_share_48, w_m_share_50, w_m_share_53, w_m_share_54, w_m_share_57, w_m_share_60, w_m_share_61, w_m_share_64, w_m_share_67, w_m_share_70, w_m_share_72, w_m_share_74, w_m_share_75, w_m_share_78, w_m_share_80, w_m_share_83, w_m_share_84, w_m_share_85, w_m_share_87, w_m_share_88, w_m_share_91, w_m_share_93, w_m_share_96, w_m_share_97, w_m_share_98, w_m_share_101, w_m_share_104, w_m_share_105, w_m_share_106, w_m_share_109, w_m_share_110, w_m_share_111, w_m_share_114, w_m_share_115, w_m_share_118, w_m_share_119, w_m_share_122, w_m_share_123, w_m_share_124, w_m_share_126, w_m_share_127, w_m_share_130, w_m_share_131, w_m_share_132, w_m_share_135, w_m_share_136, w_m_share_139, w_m_share_141, cl_58, xm_3, xm_9, al_65, h2, g0, e_m_save, cl_58, i10, Bool.false_eq_true, eq_self, true_or, or_true, if_true, if_false, gv_int, gv_ref, av_some, al_some, un_int, un_ref, un_mk, ok4_0, ok4_1, ok4_2, ok4_3, ok4_4, Kn_some, Kn_none, true_and, and_true]
      have := for_up (n := c ^ n) (P := fun m => ∀ g : Nat → Int32, (∀ j, ¬ j < n → g j = M 65 j) → ∀ j5, WP 196 38 [.ref 58, .int t, .int (spB (shV (wT M) (M 63) (M 65) n c) m).1, .int (spB (shV (wT M) (M 63) (M 65) n c) m).2, .int (nI m), j5] [] (shw A B) (0, 0) (st (SV M) 65 g) Q) ?_ ?_ (M 65) (fun _ _ => rfl) mk
      · rw [show st (SV M) 65 (M 65) = SV M from st_self (SV M) 65] at this
        exact this
      · intro g hg j5
        obtain ⟨b, b1, b2⟩ := hb (by omega)
        rw [b2, nI_clamp (show b < 2 ^ 31 by omega)] at hQ
        rw [w_m_share_38, b2]
        have em : st (st (SV M) 65 g) 65 (fun j => if j < n then nI (dg c n b j) else st (SV M) 65 g 65 j) = st (SV M) 65 (gvF (M 65) c n b) := by
          rw [st_st, show st (SV M) 65 g 65 = g from rfl, gvF_far hg]
        by_cases q2 : t = -1
        · rw [if_pos q2] at hQ
          simp only [w_m_share_0, w_m_share_1, w_m_share_2, w_m_share_5, w_m_share_6, w_m_share_7, w_m_share_10, w_m_share_13, w_m_share_15, w_m_share_16, w_m_share_17, w_m_share_20, w_m_share_23, w_m_share_24, w_m_share_25, w_m_share_26, w_m_share_29, w_m_share_30, w_m_share_31, w_m_share_34, w_m_share_35, w_m_share_36, w_m_share_40, w_m_share_41, w_m_share_44, w_m_share_47, w_m_share_48, w_m_share_50, w_m_share_53, w_m_share_54, w_m_share_57, w_m_share_60, w_m_share_61, w_m_share_64, w_m_share_67, w_m_share_70, w_m_share_72, w_m_share_74, w_m_share_75, w_m_share_78, w_m_share_80, w_m_share_83, w_m_share_84, w_m_share_85, w_m_share_87, w_m_share_88, w_m_share_91, w_m_share_93, w_m_share_96, w_m_share_97, w_m_share_98, w_m_share_101, w_m_share_104, w_m_share_105, w_m_share_106, w_m_share_109, w_m_share_110, w_m_share_111, w_m_share_114, w_m_share_115, w_m_share_118, w_m_share_119, w_m_share_122, w_m_share_123, w_m_share_124, w_m_share_126, w_m_share_127, w_m_share_130, w_m_share_131, w_m_share_132, w_m_share_135, w_m_share_136, w_m_share_139, w_m_share_141, cl_58, xm_3, xm_9, al_65, e_m_waysToGive (show MD (st (SV M) 65 g) K c n from h), lt_irr, e_m_giveBy (m := b) (show MD (st (SV M) 65 g) K c n from h) (show 0 < c by omega) (show b < 2 ^ 31 by omega), em, eq_true q2, e_m_putBack, cl_58, i10, Bool.false_eq_true, eq_self, true_or, or_true, if_true, if_false, gv_int, gv_ref, av_some, al_some, un_int, un_ref, un_mk, ok4_0, ok4_1, ok4_2, ok4_3, ok4_4, Kn_some, Kn_none, true_and, and_true]
          rw [SV_back M (gvF (M 65) c n b) (fun j hj => by unfold gvF; rw [if_neg (by omega)])]
          exact hQ
        · rw [if_neg q2] at hQ
          obtain ⟨x, x1, rfl⟩ := inb_of (q.resolve_left q2) (by omega)
          have g5 : vp_in (nI x) 7 := vp_in_nI (by omega) (by decide)
          rw [nI_clamp (show x < 2 ^ 31 by omega)] at hQ
          simp only [w_m_share_0, w_m_share_1, w_m_share_2, w_m_share_5, w_m_share_6, w_m_share_7, w_m_share_10, w_m_share_13, w_m_share_15, w_m_share_16, w_m_share_17, w_m_share_20, w_m_share_23, w_m_share_24, w_m_share_25, w_m_share_26, w_m_share_29, w_m_share_30, w_m_share_31, w_m_share_34, w_m_share_35, w_m_share_36, w_m_share_40, w_m_share_41, w_m_share_44, w_m_share_47, w_m_share_48, w_m_share_50, w_m_share_53, w_m_share_54, w_m_share_57, w_m_share_60, w_m_share_61, w_m_share_64, w_m_share_67, w_m_share_70, w_m_share_72, w_m_share_74, w_m_share_75, w_m_share_78, w_m_share_80, w_m_share_83, w_m_share_84, w_m_share_85, w_m_share_87, w_m_share_88, w_m_share_91, w_m_share_93, w_m_share_96, w_m_share_97, w_m_share_98, w_m_share_101, w_m_share_104, w_m_share_105, w_m_share_106, w_m_share_109, w_m_share_110, w_m_share_111, w_m_share_114, w_m_share_115, w_m_share_118, w_m_share_119, w_m_share_122, w_m_share_123, w_m_share_124, w_m_share_126, w_m_share_127, w_m_share_130, w_m_share_131, w_m_share_132, w_m_share_135, w_m_share_136, w_m_share_139, w_m_share_141, cl_58, xm_3, xm_9, al_65, e_m_waysToGive (show MD (st (SV M) 65 g) K c n from h), lt_irr, e_m_giveBy (m := b) (show MD (st (SV M) 65 g) K c n from h) (show 0 < c by omega) (show b < 2 ^ 31 by omega), em, eq_false q2, e_m_putBack, cl_58, g5, nI_clamp (show x < 2 ^ 31 by omega), i10, Bool.false_eq_true, eq_self, true_or, or_true, if_true, if_false, gv_int, gv_ref, av_some, al_some, un_int, un_ref, un_mk, ok4_0, ok4_1, ok4_2, ok4_3, ok4_4, Kn_some, Kn_none, true_and, and_true]
          rw [SV_back M (gvF (M 65) c n b) (fun j hj => by unfold gvF; rw [if_neg (by omega)])]
          rw [show st (SV M) 65 (gvF (M 65) c n b) 65 x = nI (dg c n b x) from by show gvF (M 65) c n b x = _; unfold gvF; rw [if_pos x1]]
          exact hQ
      · intro m hm ih g hg j5
        have g1 : nI m < nI (c ^ n) := nI_lt hm (by omega)
        have em : st (st (SV M) 65 g) 65 (fun j => if j < n then nI (dg c n m j) else st (SV M) 65 g 65 j) = st (SV M) 65 (gvF (M 65) c n m) := by
          rw [st_st, show st (SV M) 65 g 65 = g from rfl, gvF_far hg]
        rw [w_m_share_38]
        rw [spB_s] at ih
        generalize spB (shV (wT M) (M 63) (M 65) n c) m = s0 at ih ⊢
        have ih := ih (gvF (M 65) c n m) (fun j hj => by unfold gvF; rw [if_neg hj])
        simp only [w_m_share_0, w_m_share_1, w_m_share_2, w_m_share_5, w_m_share_6, w_m_share_7, w_m_share_10, w_m_share_13, w_m_share_15, w_m_share_16, w_m_share_17, w_m_share_20, w_m_share_23, w_m_share_24, w_m_share_25, w_m_share_26, w_m_share_29, w_m_share_30, w_m_share_31, w_m_share_34, w_m_share_35, w_m_share_36, w_m_share_40, w_m_share_41, w_m_share_44, w_m_share_47, w_m_share_48, w_m_share_50, w_m_share_53, w_m_share_54, w_m_share_57, w_m_share_60, w_m_share_61, w_m_share_64, w_m_share_67, w_m_share_70, w_m_share_72, w_m_share_74, w_m_share_75, w_m_share_78, w_m_share_80, w_m_share_83, w_m_share_84, w_m_share_85, w_m_share_87, w_m_share_88, w_m_share_91, w_m_share_93, w_m_share_96, w_m_share_97, w_m_share_98, w_m_share_101, w_m_share_104, w_m_share_105, w_m_share_106, w_m_share_109, w_m_share_110, w_m_share_111, w_m_share_114, w_m_share_115, w_m_share_118, w_m_share_119, w_m_share_122, w_m_share_123, w_m_share_124, w_m_share_126, w_m_share_127, w_m_share_130, w_m_share_131, w_m_share_132, w_m_share_135, w_m_share_136, w_m_share_139, w_m_share_141, cl_58, xm_3, xm_9, al_65, e_m_waysToGive (show MD (st (SV M) 65 g) K c n from h), g1, e_m_giveBy (m := m) (show MD (st (SV M) 65 g) K c n from h) (show 0 < c by omega) (show m < 2 ^ 31 by omega), em, e_m_isEven (show MD (st (SV M) 65 (gvF (M 65) c n m)) K c n from h), e_m_allEnvy (show MD (st (SV M) 65 (gvF (M 65) c n m)) K c n from h), cl_58, nI_1, show st (SV M) 65 (gvF (M 65) c n m) 65 = gvF (M 65) c n m from rfl, show wT (st (SV M) 65 (gvF (M 65) c n m)) = wT M from rfl, show st (SV M) 65 (gvF (M 65) c n m) 63 = M 63 from rfl, i10, Bool.false_eq_true, eq_self, true_or, or_true, if_true, if_false, gv_int, gv_ref, av_some, al_some, un_int, un_ref, un_mk, ok4_0, ok4_1, ok4_2, ok4_3, ok4_4, Kn_some, Kn_none, true_and, and_true]
        unfold shV at ih
        cases q2 : evenE (gvF (M 65) c n m) n c
        · simp only [q2, Bool.false_eq_true, if_false, if_true] at ih ⊢
          by_cases q3 : 100000000 < s0.2
          · simp only [q3, if_true] at ih ⊢; exact ih _
          · simp only [q3, if_false] at ih ⊢; exact ih _
        · simp only [q2, i10, if_false, if_true] at ih ⊢
          by_cases q3 : allE (wT M) (M 63) (gvF (M 65) c n m) n c < s0.2
          · simp only [q3, if_true] at ih ⊢; exact ih _
          · simp only [q3, if_false] at ih ⊢; exact ih _
  · rw [if_neg q]
    have q2 : (t = -1) = False := eq_false (fun e => q (Or.inl e))
    have q3 : inb t n = false := by cases e : inb t n with | false => rfl | true => exact absurd (Or.inr e) q
    simp only [w_m_share_0, w_m_share_1, w_m_share_2, w_m_share_5, w_m_share_6, w_m_share_7, w_m_share_10, w_m_share_13, w_m_share_15, w_m_share_16, w_m_share_17, w_m_share_20, w_m_share_23, w_m_share_24, w_m_share_25, w_m_share_26, w_m_share_29, w_m_share_30, w_m_share_31, w_m_share_34, w_m_share_35, w_m_share_36, w_m_share_40, w_m_share_41, w_m_share_44, w_m_share_47, w_m_share_48, w_m_share_50, w_m_share_53, w_m_share_54, w_m_share_57, w_m_share_60, w_m_share_61, w_m_share_64, w_m_share_67, w_m_share_70, w_m_share_72, w_m_share_74, w_m_share_75, w_m_share_78, w_m_share_80, w_m_share_83, w_m_share_84, w_m_share_85, w_m_share_87, w_m_share_88, w_m_share_91, w_m_share_93, w_m_share_96, w_m_share_97, w_m_share_98, w_m_share_101, w_m_share_104, w_m_share_105, w_m_share_106, w_m_share_109, w_m_share_110, w_m_share_111, w_m_share_114, w_m_share_115, w_m_share_118, w_m_share_119, w_m_share_122, w_m_share_123, w_m_share_124, w_m_share_126, w_m_share_127, w_m_share_130, w_m_share_131, w_m_share_132, w_m_share_135, w_m_share_136, w_m_share_139, w_m_share_141, cl_58, xm_3, xm_9, al_65, q2, e_m_isThing h, q3, cl_58, i10, Bool.false_eq_true, eq_self, true_or, or_true, if_true, if_false, gv_int, gv_ref, av_some, al_some, un_int, un_ref, un_mk, ok4_0, ok4_1, ok4_2, ok4_3, ok4_4, Kn_some, Kn_none, true_and, and_true]
/-- the figures of an order, from the last on -/
def lf (o : Int32) : Nat → Int32
  | 0 => o
  | k + 1 => lf o k / 10
def fg (o : Int32) (k : Nat) : Int32 := lf o k - lf o k / 10 * 10 - 1
def tG (c : Nat) (o : Int32) : Nat → Bool × Int32
  | 0 => (decide (0 < c) && decide (0 < o), 0)
  | k + 1 => ((tG c o k).1 && (inb (fg o k) c && !bt (tG c o k).2 (fg o k)), if (tG c o k).1 && (inb (fg o k) c && !bt (tG c o k).2 (fg o k)) then (tG c o k).2 ||| (1 <<< (fg o k &&& 31)) else (tG c o k).2 ||| 0)
def tOK (c : Nat) (o : Int32) : Bool := (tG c o c).1 && decide (lf o c = 0)
def rowF (c : Nat) (o : Int32) (f : Nat → Int32) (s : Nat) : Nat → Int32 := fun j => if c - s ≤ j ∧ j < c then fg o (c - 1 - j) else f j
theorem rowF_s {c s : Nat} {o : Int32} {f : Nat → Int32} (hs : s < c) : upd (rowF c o f s) (c - 1 - s) (fg o s) = rowF c o f (s + 1) := by
  funext j
  simp only [upd, rowF]
  by_cases q : j = c - 1 - s
  · rw [if_pos q, if_pos (by omega), q, show c - 1 - (c - 1 - s) = s by omega]
  · rw [if_neg q]
    by_cases q2 : c - s ≤ j ∧ j < c
    · rw [if_pos q2, if_pos (by omega)]
    · rw [if_neg q2, if_neg (by omega)]
theorem nI_dec {k : Nat} : nI k + (-1) = if k = 0 then -1 else nI (k - 1) := by
  cases k with
  | zero => exact nI_neg1
  | succ k => rw [if_neg (by omega), Nat.add_sub_cancel]; exact nI_m1 k
theorem e_m_takeOrder {A B : Nat} {M : Mm} {Q : Po} {K c n : Nat} {o : Int32} (h : MD M K c n) : WP 197 0 [.ref 58, .int o, mk, mk, mk, mk] [] (shw A B) (0, 0) M Q = if tOK c o then Q (some (.int 1)) (shw A B) (st M 75 (rowF c o (M 75) c)) else Q (some (.int 0)) (shw A B) (st M 75 (rowF c o (M 75) c)) := by
  refine WP.isb (fun Q hQ => ?_)
  obtain ⟨h1, h2, h3, h4, h5, h6, h7⟩ := id h
  have key : ∀ f s, s + f = c → ∀ x : Int32, (f = 0 → x = -1) → (∀ f', f = f' + 1 → x = nI f') → WP 197 30 [.ref 58, .int o, .int (lf o s), .int (tG c o s).2, .int (if (tG c o s).1 then 1 else 0), .int x] [] (shw A B) (0, 0) (st M 75 (rowF c o (M 75) s)) Q := by
    intro f
    induction f with
    | zero =>
      intro s hs x x0 _
      have hs : s = c := hs
      subst hs
      rw [x0 rfl, w_m_takeOrder_30]
      unfold tOK at hQ
      cases q1 : (tG s o s).1
      · simp only [w_m_takeOrder_0, w_m_takeOrder_1, w_m_takeOrder_2, w_m_takeOrder_3, w_m_takeOrder_4, w_m_takeOrder_5, w_m_takeOrder_8, w_m_takeOrder_11, w_m_takeOrder_12, w_m_takeOrder_15, w_m_takeOrder_16, w_m_takeOrder_19, w_m_takeOrder_20, w_m_takeOrder_22, w_m_takeOrder_23, w_m_takeOrder_26, w_m_takeOrder_27, w_m_takeOrder_28, w_m_takeOrder_32, w_m_takeOrder_35, w_m_takeOrder_36, w_m_takeOrder_39, w_m_takeOrder_41, w_m_takeOrder_42, w_m_takeOrder_44, w_m_takeOrder_45, w_m_takeOrder_46, w_m_takeOrder_47, w_m_takeOrder_48, w_m_takeOrder_50, w_m_takeOrder_53, w_m_takeOrder_54, w_m_takeOrder_55, w_m_takeOrder_58, w_m_takeOrder_60, w_m_takeOrder_61, w_m_takeOrder_64, w_m_takeOrder_67, w_m_takeOrder_68, w_m_takeOrder_69, w_m_takeOrder_72, w_m_takeOrder_74, w_m_takeOrder_75, w_m_takeOrder_78, w_m_takeOrder_81, w_m_takeOrder_82, w_m_takeOrder_85, w_m_takeOrder_86, w_m_takeOrder_88, w_m_takeOrder_89, w_m_takeOrder_91, w_m_takeOrder_94, w_m_takeOrder_95, w_m_takeOrder_96, w_m_takeOrder_99, w_m_takeOrder_101, w_m_takeOrder_102, w_m_takeOrder_103, w_m_takeOrder_106, w_m_takeOrder_107, w_m_takeOrder_108, w_m_takeOrder_109, w_m_takeOrder_110, w_m_takeOrder_112, w_m_takeOrder_113, w_m_takeOrder_114, w_m_takeOrder_117, w_m_takeOrder_120, w_m_takeOrder_122, w_m_takeOrder_125, w_m_takeOrder_126, w_m_takeOrder_129, w_m_takeOrder_130, w_m_takeOrder_133, w_m_takeOrder_134, xm_3, xm_29, al_75, cl_58, (show ((-1 : Int32) < 0) = True by decide), i10, Bool.false_eq_true, eq_self, true_or, or_true, if_true, if_false, gv_int, gv_ref, av_some, al_some, un_int, un_ref, un_mk, ok4_0, ok4_1, ok4_2, ok4_3, ok4_4, Kn_some, Kn_none, true_and, and_true]
        rw [q1, Bool.false_and] at hQ
        simp only [Bool.false_eq_true, if_false] at hQ
        exact hQ
      · simp only [w_m_takeOrder_0, w_m_takeOrder_1, w_m_takeOrder_2, w_m_takeOrder_3, w_m_takeOrder_4, w_m_takeOrder_5, w_m_takeOrder_8, w_m_takeOrder_11, w_m_takeOrder_12, w_m_takeOrder_15, w_m_takeOrder_16, w_m_takeOrder_19, w_m_takeOrder_20, w_m_takeOrder_22, w_m_takeOrder_23, w_m_takeOrder_26, w_m_takeOrder_27, w_m_takeOrder_28, w_m_takeOrder_32, w_m_takeOrder_35, w_m_takeOrder_36, w_m_takeOrder_39, w_m_takeOrder_41, w_m_takeOrder_42, w_m_takeOrder_44, w_m_takeOrder_45, w_m_takeOrder_46, w_m_takeOrder_47, w_m_takeOrder_48, w_m_takeOrder_50, w_m_takeOrder_53, w_m_takeOrder_54, w_m_takeOrder_55, w_m_takeOrder_58, w_m_takeOrder_60, w_m_takeOrder_61, w_m_takeOrder_64, w_m_takeOrder_67, w_m_takeOrder_68, w_m_takeOrder_69, w_m_takeOrder_72, w_m_takeOrder_74, w_m_takeOrder_75, w_m_takeOrder_78, w_m_takeOrder_81, w_m_takeOrder_82, w_m_takeOrder_85, w_m_takeOrder_86, w_m_takeOrder_88, w_m_takeOrder_89, w_m_takeOrder_91, w_m_takeOrder_94, w_m_takeOrder_95, w_m_takeOrder_96, w_m_takeOrder_99, w_m_takeOrder_101, w_m_takeOrder_102, w_m_takeOrder_103, w_m_takeOrder_106, w_m_takeOrder_107, w_m_takeOrder_108, w_m_takeOrder_109, w_m_takeOrder_110, w_m_takeOrder_112, w_m_takeOrder_113, w_m_takeOrder_114, w_m_takeOrder_117, w_m_takeOrder_120, w_m_takeOrder_122, w_m_takeOrder_125, w_m_takeOrder_126, w_m_takeOrder_129, w_m_takeOrder_130, w_m_takeOrder_133, w_m_takeOrder_134, xm_3, xm_29, al_75, cl_58, (show ((-1 : Int32) < 0) = True by decide), i10, Bool.false_eq_true, eq_self, true_or, or_true, if_true, if_false, gv_int, gv_ref, av_some, al_some, un_int, un_ref, un_mk, ok4_0, ok4_1, ok4_2, ok4_3, ok4_4, Kn_some, Kn_none, true_and, and_true]
        rw [q1, Bool.true_and] at hQ
        by_cases q2 : lf o s = 0
        · simp only [q2, if_true, decide_true] at hQ ⊢; exact hQ
        · simp only [q2, if_false, decide_false, Bool.false_eq_true] at hQ ⊢; exact hQ
    | succ f ih =>
      intro s hs x _ x1
      have g1 : (nI f < 0) = False := eq_false (nI_pos (by omega))
      have g2 : vp_in (nI f) 4 := vp_in_nI (by omega) (by decide)
      have g3 : ¬ (10 : Int32) = 0 := by decide
      have hf : f = c - 1 - s := by omega
      have er : up (st M 75 (rowF c o (M 75) s)) 75 f (fg o s) = st M 75 (rowF c o (M 75) (s + 1)) := by
        rw [up_st, hf, rowF_s (by omega)]
      have ev : rowF c o (M 75) (s + 1) f = fg o s := by
        unfold rowF; rw [if_pos (by omega), show c - 1 - f = s by omega]
      have ih := ih (s + 1) (by omega) (nI f + (-1)) (fun e => by rw [e]; exact nI_neg1) (fun f' e => by rw [e]; exact nI_m1 f')
      have e1 : (tG c o (s + 1)).1 = ((tG c o s).1 && (inb (fg o s) c && !bt (tG c o s).2 (fg o s))) := rfl
      have e2 : (tG c o (s + 1)).2 = if (tG c o s).1 && (inb (fg o s) c && !bt (tG c o s).2 (fg o s)) then (tG c o s).2 ||| (1 <<< (fg o s &&& 31)) else (tG c o s).2 ||| 0 := rfl
      rw [e1, e2] at ih
      rw [x1 f rfl, w_m_takeOrder_30]
      generalize tG c o s = G at ih ⊢
      obtain ⟨gg, gt⟩ := G
      dsimp only at ih ⊢
      have lfs : lf o (s + 1) = lf o s / 10 := rfl
      rw [lfs] at ih
      simp only [w_m_takeOrder_0, w_m_takeOrder_1, w_m_takeOrder_2, w_m_takeOrder_3, w_m_takeOrder_4, w_m_takeOrder_5, w_m_takeOrder_8, w_m_takeOrder_11, w_m_takeOrder_12, w_m_takeOrder_15, w_m_takeOrder_16, w_m_takeOrder_19, w_m_takeOrder_20, w_m_takeOrder_22, w_m_takeOrder_23, w_m_takeOrder_26, w_m_takeOrder_27, w_m_takeOrder_28, w_m_takeOrder_32, w_m_takeOrder_35, w_m_takeOrder_36, w_m_takeOrder_39, w_m_takeOrder_41, w_m_takeOrder_42, w_m_takeOrder_44, w_m_takeOrder_45, w_m_takeOrder_46, w_m_takeOrder_47, w_m_takeOrder_48, w_m_takeOrder_50, w_m_takeOrder_53, w_m_takeOrder_54, w_m_takeOrder_55, w_m_takeOrder_58, w_m_takeOrder_60, w_m_takeOrder_61, w_m_takeOrder_64, w_m_takeOrder_67, w_m_takeOrder_68, w_m_takeOrder_69, w_m_takeOrder_72, w_m_takeOrder_74, w_m_takeOrder_75, w_m_takeOrder_78, w_m_takeOrder_81, w_m_takeOrder_82, w_m_takeOrder_85, w_m_takeOrder_86, w_m_takeOrder_88, w_m_takeOrder_89, w_m_takeOrder_91, w_m_takeOrder_94, w_m_takeOrder_95, w_m_takeOrder_96, w_m_takeOrder_99, w_m_takeOrder_101, w_m_takeOrder_102, w_m_takeOrder_103, w_m_takeOrder_106, w_m_takeOrder_107, w_m_takeOrder_108, w_m_takeOrder_109, w_m_takeOrder_110, w_m_takeOrder_112, w_m_takeOrder_113, w_m_takeOrder_114, w_m_takeOrder_117, w_m_takeOrder_120, w_m_takeOrder_122, w_m_takeOrder_125, w_m_takeOrder_126, w_m_takeOrder_129, w_m_takeOrder_130, w_m_takeOrder_133, w_m_takeOrder_134, xm_3, xm_29, al_75, cl_58, g1, g2, g3, not_false_eq_true, nI_clamp (show f < 2 ^ 31 by omega), show lf o s - lf o s / 10 * 10 - 1 = fg o s from rfl, er, show ∀ f, st M 75 f 75 = f from fun _ => rfl, ev, e_m_isChild (show MD (st M 75 (rowF c o (M 75) (s + 1))) K c n from h), e_m_has, cl_58, i10, Bool.false_eq_true, eq_self, true_or, or_true, if_true, if_false, gv_int, gv_ref, av_some, al_some, un_int, un_ref, un_mk, ok4_0, ok4_1, ok4_2, ok4_3, ok4_4, Kn_some, Kn_none, true_and, and_true]
      cases gg <;> cases q1 : inb (fg o s) c <;> cases q2 : bt gt (fg o s) <;> simp only [q1, q2, i10, Bool.false_and, Bool.true_and, Bool.and_true, Bool.and_false, Bool.not_true, Bool.not_false, Bool.false_eq_true, if_true, if_false] at ih ⊢ <;> exact ih
  have start := key c 0 (Nat.zero_add c) (nI c - 1) (fun e => by rw [e]; decide) (fun f' e => by rw [e]; exact nI_pred f')
  rw [show rowF c o (M 75) 0 = M 75 from by funext j; unfold rowF; rw [if_neg (by omega)], st_self] at start
  rw [show (tG c o 0).2 = 0 from rfl, show (tG c o 0).1 = (decide (0 < c) && decide (0 < o)) from rfl, show lf o 0 = o from rfl] at start
  by_cases q1 : 0 < c
  · have p1 : (0 < nI c) = True := eq_true (nI_lt (a := 0) q1 (by omega))
    by_cases q2 : 0 < o
    · simp only [q1, q2, decide_true, Bool.and_self, if_true] at start
      simp only [w_m_takeOrder_0, w_m_takeOrder_1, w_m_takeOrder_2, w_m_takeOrder_3, w_m_takeOrder_4, w_m_takeOrder_5, w_m_takeOrder_8, w_m_takeOrder_11, w_m_takeOrder_12, w_m_takeOrder_15, w_m_takeOrder_16, w_m_takeOrder_19, w_m_takeOrder_20, w_m_takeOrder_22, w_m_takeOrder_23, w_m_takeOrder_26, w_m_takeOrder_27, w_m_takeOrder_28, w_m_takeOrder_32, w_m_takeOrder_35, w_m_takeOrder_36, w_m_takeOrder_39, w_m_takeOrder_41, w_m_takeOrder_42, w_m_takeOrder_44, w_m_takeOrder_45, w_m_takeOrder_46, w_m_takeOrder_47, w_m_takeOrder_48, w_m_takeOrder_50, w_m_takeOrder_53, w_m_takeOrder_54, w_m_takeOrder_55, w_m_takeOrder_58, w_m_takeOrder_60, w_m_takeOrder_61, w_m_takeOrder_64, w_m_takeOrder_67, w_m_takeOrder_68, w_m_takeOrder_69, w_m_takeOrder_72, w_m_takeOrder_74, w_m_takeOrder_75, w_m_takeOrder_78, w_m_takeOrder_81, w_m_takeOrder_82, w_m_takeOrder_85, w_m_takeOrder_86, w_m_takeOrder_88, w_m_takeOrder_89, w_m_takeOrder_91, w_m_takeOrder_94, w_m_takeOrder_95, w_m_takeOrder_96, w_m_takeOrder_99, w_m_takeOrder_101, w_m_takeOrder_102, w_m_takeOrder_103, w_m_takeOrder_106, w_m_takeOrder_107, w_m_takeOrder_108, w_m_takeOrder_109, w_m_takeOrder_110, w_m_takeOrder_112, w_m_takeOrder_113, w_m_takeOrder_114, w_m_takeOrder_117, w_m_takeOrder_120, w_m_takeOrder_122, w_m_takeOrder_125, w_m_takeOrder_126, w_m_takeOrder_129, w_m_takeOrder_130, w_m_takeOrder_133, w_m_takeOrder_134, xm_3, xm_29, al_75, cl_58, h2, p1, q2, i10, Bool.false_eq_true, eq_self, true_or, or_true, if_true, if_false, gv_int, gv_ref, av_some, al_some, un_int, un_ref, un_mk, ok4_0, ok4_1, ok4_2, ok4_3, ok4_4, Kn_some, Kn_none, true_and, and_true]
      exact start
    · simp only [q1, q2, decide_true, decide_false, Bool.and_false, Bool.false_eq_true, if_false] at start
      simp only [w_m_takeOrder_0, w_m_takeOrder_1, w_m_takeOrder_2, w_m_takeOrder_3, w_m_takeOrder_4, w_m_takeOrder_5, w_m_takeOrder_8, w_m_takeOrder_11, w_m_takeOrder_12, w_m_takeOrder_15, w_m_takeOrder_16, w_m_takeOrder_19, w_m_takeOrder_20, w_m_takeOrder_22, w_m_takeOrder_23, w_m_takeOrder_26, w_m_takeOrder_27, w_m_takeOrder_28, w_m_takeOrder_32, w_m_takeOrder_35, w_m_takeOrder_36, w_m_takeOrder_39, w_m_takeOrder_41, w_m_takeOrder_42, w_m_takeOrder_44, w_m_takeOrder_45, w_m_takeOrder_46, w_m_takeOrder_47, w_m_takeOrder_48, w_m_takeOrder_50, w_m_takeOrder_53, w_m_takeOrder_54, w_m_takeOrder_55, w_m_takeOrder_58, w_m_takeOrder_60, w_m_takeOrder_61, w_m_takeOrder_64, w_m_takeOrder_67, w_m_takeOrder_68, w_m_takeOrder_69, w_m_takeOrder_72, w_m_takeOrder_74, w_m_takeOrder_75, w_m_takeOrder_78, w_m_takeOrder_81, w_m_takeOrder_82, w_m_takeOrder_85, w_m_takeOrder_86, w_m_takeOrder_88, w_m_takeOrder_89, w_m_takeOrder_91, w_m_takeOrder_94, w_m_takeOrder_95, w_m_takeOrder_96, w_m_takeOrder_99, w_m_takeOrder_101, w_m_takeOrder_102, w_m_takeOrder_103, w_m_takeOrder_106, w_m_takeOrder_107, w_m_takeOrder_108, w_m_takeOrder_109, w_m_takeOrder_110, w_m_takeOrder_112, w_m_takeOrder_113, w_m_takeOrder_114, w_m_takeOrder_117, w_m_takeOrder_120, w_m_takeOrder_122, w_m_takeOrder_125, w_m_takeOrder_126, w_m_takeOrder_129, w_m_takeOrder_130, w_m_takeOrder_133, w_m_takeOrder_134, xm_3, xm_29, al_75, cl_58, h2, p1, q2, i10, Bool.false_eq_true, eq_self, true_or, or_true, if_true, if_false, gv_int, gv_ref, av_some, al_some, un_int, un_ref, un_mk, ok4_0, ok4_1, ok4_2, ok4_3, ok4_4, Kn_some, Kn_none, true_and, and_true]
      exact start
  · have c0 : c = 0 := by omega
    subst c0
    simp only [show ¬ 0 < 0 by decide, decide_false, Bool.false_and, Bool.false_eq_true, if_false] at start
    simp only [w_m_takeOrder_0, w_m_takeOrder_1, w_m_takeOrder_2, w_m_takeOrder_3, w_m_takeOrder_4, w_m_takeOrder_5, w_m_takeOrder_8, w_m_takeOrder_11, w_m_takeOrder_12, w_m_takeOrder_15, w_m_takeOrder_16, w_m_takeOrder_19, w_m_takeOrder_20, w_m_takeOrder_22, w_m_takeOrder_23, w_m_takeOrder_26, w_m_takeOrder_27, w_m_takeOrder_28, w_m_takeOrder_32, w_m_takeOrder_35, w_m_takeOrder_36, w_m_takeOrder_39, w_m_takeOrder_41, w_m_takeOrder_42, w_m_takeOrder_44, w_m_takeOrder_45, w_m_takeOrder_46, w_m_takeOrder_47, w_m_takeOrder_48, w_m_takeOrder_50, w_m_takeOrder_53, w_m_takeOrder_54, w_m_takeOrder_55, w_m_takeOrder_58, w_m_takeOrder_60, w_m_takeOrder_61, w_m_takeOrder_64, w_m_takeOrder_67, w_m_takeOrder_68, w_m_takeOrder_69, w_m_takeOrder_72, w_m_takeOrder_74, w_m_takeOrder_75, w_m_takeOrder_78, w_m_takeOrder_81, w_m_takeOrder_82, w_m_takeOrder_85, w_m_takeOrder_86, w_m_takeOrder_88, w_m_takeOrder_89, w_m_takeOrder_91, w_m_takeOrder_94, w_m_takeOrder_95, w_m_takeOrder_96, w_m_takeOrder_99, w_m_takeOrder_101, w_m_takeOrder_102, w_m_takeOrder_103, w_m_takeOrder_106, w_m_takeOrder_107, w_m_takeOrder_108, w_m_takeOrder_109, w_m_takeOrder_110, w_m_takeOrder_112, w_m_takeOrder_113, w_m_takeOrder_114, w_m_takeOrder_117, w_m_takeOrder_120, w_m_takeOrder_122, w_m_takeOrder_125, w_m_takeOrder_126, w_m_takeOrder_129, w_m_takeOrder_130, w_m_takeOrder_133, w_m_takeOrder_134, xm_3, xm_29, al_75, cl_58, h2, (show ((0 : Int32) < nI 0) = False by decide), i10, Bool.false_eq_true, eq_self, true_or, or_true, if_true, if_false, gv_int, gv_ref, av_some, al_some, un_int, un_ref, un_mk, ok4_0, ok4_1, ok4_2, ok4_3, ok4_4, Kn_some, Kn_none, true_and, and_true]
    exact start
