/-! the reference: had, watch -/
def FWn (M : Mm) (sn n c : Nat) : Mm := FWm (SV M) (nI (fwM M sn n c).1) (fwM M sn n c).2.1 (fwM M sn n c).2.2 (M 65)
theorem fwM_le (M : Mm) (sn n c : Nat) (hc : c ≤ 4) (hn : n ≤ 7) : (fwM M sn n c).1 ≤ 16384 := by
  unfold fwM
  refine Nat.le_trans (fwE_le _ _ _ _ _ _ _ _ _ _ _ _) ?_
  split
  · exact Nat.zero_le _
  · exact pow_le hc hn
def hadA (s : Nat × (Nat → Int32) × (Nat → Int32)) (t : Int32) : Int32 := if t = -1 then nI s.1 else if s.1 = 0 then -1 else if s.2.2 t.toNatClampNeg = 4 then -1 else s.2.2 t.toNatClampNeg
theorem e_m_had {A B : Nat} {M : Mm} {Q : Po} {K c n sn : Nat} {t : Int32} (h : MD M K c n) (hs : SN M sn) : WP 212 0 [.ref 58, .int t] [] (shw A B) (0, 0) M Q = if t = -1 ∨ inb t n = true then Q (some (.int (hadA (fwM M sn n c) t))) (shw A B) (FWn M sn n c) else Q (some (.int (-1000000001))) (shw A B) M := by
  obtain ⟨h1, h2, h3, h4, h5, h6, h7⟩ := id h
  have hle := fwM_le M sn n c h5 h6
  by_cases q : t = -1 ∨ inb t n = true
  · rw [if_pos q]
    unfold hadA FWn
    by_cases q2 : t = -1
    · rw [if_pos q2]
      simp only [w_m_had_0, w_m_had_1, w_m_had_2, w_m_had_5, w_m_had_6, w_m_had_7, w_m_had_10, w_m_had_13, w_m_had_15, w_m_had_16, w_m_had_17, w_m_had_20, w_m_had_21, w_m_had_22, w_m_had_25, w_m_had_26, w_m_had_29, w_m_had_30, w_m_had_31, w_m_had_34, w_m_had_37, w_m_had_38, w_m_had_41, w_m_had_42, w_m_had_43, w_m_had_44, w_m_had_47, w_m_had_48, w_m_had_51, w_m_had_52, w_m_had_55, w_m_had_56, w_m_had_57, cl_58, xm_34, xm_35, al_79, eq_true q2, e_m_findWays h hs, cl_58, show ∀ a b c d e, FWm a b c d e 58 34 = b from fun _ _ _ _ _ => rfl, i10, Bool.false_eq_true, eq_self, true_or, or_true, if_true, if_false, gv_int, gv_ref, av_some, al_some, un_int, un_ref, un_mk, ok4_0, ok4_1, ok4_2, ok4_3, ok4_4, Kn_some, Kn_none, true_and, and_true]
    · have q3 : inb t n = true := q.resolve_left q2
      obtain ⟨x, x1, rfl⟩ := inb_of q3 (by omega)
      have g2 : vp_in (nI x) 7 := vp_in_nI (by omega) (by decide)
      rw [if_neg q2, nI_clamp (show x < 2 ^ 31 by omega)]
      simp only [w_m_had_0, w_m_had_1, w_m_had_2, w_m_had_5, w_m_had_6, w_m_had_7, w_m_had_10, w_m_had_13, w_m_had_15, w_m_had_16, w_m_had_17, w_m_had_20, w_m_had_21, w_m_had_22, w_m_had_25, w_m_had_26, w_m_had_29, w_m_had_30, w_m_had_31, w_m_had_34, w_m_had_37, w_m_had_38, w_m_had_41, w_m_had_42, w_m_had_43, w_m_had_44, w_m_had_47, w_m_had_48, w_m_had_51, w_m_had_52, w_m_had_55, w_m_had_56, w_m_had_57, cl_58, xm_34, xm_35, al_79, eq_false q2, e_m_isThing h, q3, e_m_findWays h hs, cl_58, show ∀ a b c d e, FWm a b c d e 58 34 = b from fun _ _ _ _ _ => rfl, show ∀ a b c d e, FWm a b c d e 79 = d from fun _ _ _ _ _ => rfl, g2, nI_clamp (show x < 2 ^ 31 by omega), i10, Bool.false_eq_true, eq_self, true_or, or_true, if_true, if_false, gv_int, gv_ref, av_some, al_some, un_int, un_ref, un_mk, ok4_0, ok4_1, ok4_2, ok4_3, ok4_4, Kn_some, Kn_none, true_and, and_true]
      generalize fwM M sn n c = s0 at hle ⊢
      by_cases q4 : s0.1 = 0
      · simp only [q4, (show (nI 0 = 0) = True by decide), if_true]
      · have p : (nI s0.1 = 0) = False := eq_false (nI_ne0 (by omega) (by omega))
        simp only [q4, p, if_false]
        by_cases q5 : s0.2.2 x = 4
        · simp only [q5, if_true]
        · simp only [q5, if_false]
  · rw [if_neg q]
    have q2 : (t = -1) = False := eq_false (fun e => q (Or.inl e))
    have q3 : inb t n = false := by cases e : inb t n with | false => rfl | true => exact absurd (Or.inr e) q
    simp only [w_m_had_0, w_m_had_1, w_m_had_2, w_m_had_5, w_m_had_6, w_m_had_7, w_m_had_10, w_m_had_13, w_m_had_15, w_m_had_16, w_m_had_17, w_m_had_20, w_m_had_21, w_m_had_22, w_m_had_25, w_m_had_26, w_m_had_29, w_m_had_30, w_m_had_31, w_m_had_34, w_m_had_37, w_m_had_38, w_m_had_41, w_m_had_42, w_m_had_43, w_m_had_44, w_m_had_47, w_m_had_48, w_m_had_51, w_m_had_52, w_m_had_55, w_m_had_56, w_m_had_57, cl_58, xm_34, xm_35, al_79, q2, e_m_isThing h, q3, cl_58, i10, Bool.false_eq_true, eq_self, true_or, or_true, if_true, if_false, gv_int, gv_ref, av_some, al_some, un_int, un_ref, un_mk, ok4_0, ok4_1, ok4_2, ok4_3, ok4_4, Kn_some, Kn_none, true_and, and_true]
def wtP (f : Int32) (e : Int32) : Int32 := if f - e < e then e else f - e
def wtS (lk : Nat → Int32) (env : Nat → Int32) (f : Int32) (c : Nat) (k : Nat) (s : Int32 × Int32) : Int32 × Int32 := if k / 4 < c then (if bt (lk (k / 4)) (nI (k % 4)) then (if wtP f (env k) < s.2 then (nI (10 * (k / 4) + k % 4), wtP f (env k)) else s) else s) else s
def wtE (lk : Nat → Int32) (env : Nat → Int32) (f : Int32) (c k : Nat) : Int32 × Int32 := lp (fun k s => wtS lk env f c k s) k (-1, f)
theorem wtE_s (lk : Nat → Int32) (env : Nat → Int32) (f : Int32) (c k : Nat) : wtE lk env f c (k + 1) = wtS lk env f c k (wtE lk env f c k) := rfl
theorem e_m_watch {A B : Nat} {M : Mm} {Q : Po} {K c n sn : Nat} (h : MD M K c n) (hs : SN M sn) : WP 213 0 [.ref 58, mk, mk, mk, mk, mk] [] (shw A B) (0, 0) M Q = Q (some (.int (wtE (M 63) (fwM M sn n c).2.1 (nI (fwM M sn n c).1) c 16).1)) (shw A B) (FWn M sn n c) := by
  refine WP.is (fun Q hQ => ?_)
  obtain ⟨h1, h2, h3, h4, h5, h6, h7⟩ := id h
  simp only [w_m_watch_0, w_m_watch_1, w_m_watch_4, w_m_watch_5, w_m_watch_6, w_m_watch_7, w_m_watch_10, w_m_watch_11, w_m_watch_12, w_m_watch_14, w_m_watch_16, w_m_watch_19, w_m_watch_20, w_m_watch_21, w_m_watch_22, w_m_watch_24, w_m_watch_25, w_m_watch_28, w_m_watch_29, w_m_watch_30, w_m_watch_31, w_m_watch_34, w_m_watch_35, w_m_watch_38, w_m_watch_39, w_m_watch_40, w_m_watch_41, w_m_watch_44, w_m_watch_45, w_m_watch_48, w_m_watch_49, w_m_watch_50, w_m_watch_53, w_m_watch_54, w_m_watch_57, w_m_watch_58, w_m_watch_61, w_m_watch_62, w_m_watch_63, w_m_watch_64, w_m_watch_66, w_m_watch_68, w_m_watch_69, w_m_watch_72, w_m_watch_75, w_m_watch_76, w_m_watch_79, w_m_watch_81, w_m_watch_82, w_m_watch_83, w_m_watch_84, w_m_watch_85, w_m_watch_88, w_m_watch_91, w_m_watch_93, w_m_watch_94, w_m_watch_97, w_m_watch_99, w_m_watch_101, w_m_watch_102, w_m_watch_103, w_m_watch_104, w_m_watch_105, w_m_watch_106, w_m_watch_107, w_m_watch_109, w_m_watch_110, w_m_watch_113, w_m_watch_116, w_m_watch_117, cl_58, xm_34, xm_36, al_80, xm_3, xm_6, al_63, e_m_findWays h hs, cl_58, show ∀ a b c d e, FWm a b c d e 58 34 = b from fun _ _ _ _ _ => rfl, i10, Bool.false_eq_true, eq_self, true_or, or_true, if_true, if_false, gv_int, gv_ref, av_some, al_some, un_int, un_ref, un_mk, ok4_0, ok4_1, ok4_2, ok4_3, ok4_4, Kn_some, Kn_none, true_and, and_true]
  unfold FWn at hQ
  generalize fwM M sn n c = s0 at hQ ⊢
  refine for_up (n := 16) (P := fun k => ∀ j4 j5, WP 213 13 [.ref 58, .int (wtE (M 63) s0.2.1 (nI s0.1) c k).1, .int (wtE (M 63) s0.2.1 (nI s0.1) c k).2, .int (nI k), j4, j5] [] (shw A B) (0, 0) (FWm (SV M) (nI s0.1) s0.2.1 s0.2.2 (M 65)) Q) ?_ ?_ mk mk
  · intro j4 j5
    rw [w_m_watch_13]
    simp only [w_m_watch_0, w_m_watch_1, w_m_watch_4, w_m_watch_5, w_m_watch_6, w_m_watch_7, w_m_watch_10, w_m_watch_11, w_m_watch_12, w_m_watch_14, w_m_watch_16, w_m_watch_19, w_m_watch_20, w_m_watch_21, w_m_watch_22, w_m_watch_24, w_m_watch_25, w_m_watch_28, w_m_watch_29, w_m_watch_30, w_m_watch_31, w_m_watch_34, w_m_watch_35, w_m_watch_38, w_m_watch_39, w_m_watch_40, w_m_watch_41, w_m_watch_44, w_m_watch_45, w_m_watch_48, w_m_watch_49, w_m_watch_50, w_m_watch_53, w_m_watch_54, w_m_watch_57, w_m_watch_58, w_m_watch_61, w_m_watch_62, w_m_watch_63, w_m_watch_64, w_m_watch_66, w_m_watch_68, w_m_watch_69, w_m_watch_72, w_m_watch_75, w_m_watch_76, w_m_watch_79, w_m_watch_81, w_m_watch_82, w_m_watch_83, w_m_watch_84, w_m_watch_85, w_m_watch_88, w_m_watch_91, w_m_watch_93, w_m_watch_94, w_m_watch_97, w_m_watch_99, w_m_watch_101, w_m_watch_102, w_m_watch_103, w_m_watch_104, w_m_watch_105, w_m_watch_106, w_m_watch_107, w_m_watch_109, w_m_watch_110, w_m_watch_113, w_m_watch_116, w_m_watch_117, cl_58, xm_34, xm_36, al_80, xm_3, xm_6, al_63, (show (nI 16 < 16) = False by decide), i10, Bool.false_eq_true, eq_self, true_or, or_true, if_true, if_false, gv_int, gv_ref, av_some, al_some, un_int, un_ref, un_mk, ok4_0, ok4_1, ok4_2, ok4_3, ok4_4, Kn_some, Kn_none, true_and, and_true]
    exact hQ
  · intro k hk ih j4 j5
    have g1 : (nI k < 16) = True := eq_true (nI_lt hk (by decide))
    have g2 : vp_in (nI k) 16 := vp_in_nI hk (by decide)
    have g3 : ¬ (4 : Int32) = 0 := by decide
    have g5 : vp_in (nI (k / 4)) 4 := vp_in_nI (by omega) (by decide)
    have g6 : (10 : Int32) * nI (k / 4) + nI (k % 4) = nI (10 * (k / 4) + k % 4) := by rw [show (10 : Int32) = nI 10 from rfl, pk_mul, nI_add]
    rw [wtE_s] at ih
    generalize wtE (M 63) s0.2.1 (nI s0.1) c k = w0 at ih ⊢
    unfold wtS wtP at ih
    rw [w_m_watch_13]
    have rest : ∀ v : Int32, (if k / 4 < c then (if bt (M 63 (k / 4)) (nI (k % 4)) then (if v < w0.2 then ∀ j4 j5, WP 213 13 [.ref 58, .int (nI (10 * (k / 4) + k % 4)), .int v, .int (nI (k + 1)), j4, j5] [] (shw A B) (0, 0) (FWm (SV M) (nI s0.1) s0.2.1 s0.2.2 (M 65)) Q else ∀ j4 j5, WP 213 13 [.ref 58, .int w0.1, .int w0.2, .int (nI (k + 1)), j4, j5] [] (shw A B) (0, 0) (FWm (SV M) (nI s0.1) s0.2.1 s0.2.2 (M 65)) Q) else ∀ j4 j5, WP 213 13 [.ref 58, .int w0.1, .int w0.2, .int (nI (k + 1)), j4, j5] [] (shw A B) (0, 0) (FWm (SV M) (nI s0.1) s0.2.1 s0.2.2 (M 65)) Q) else ∀ j4 j5, WP 213 13 [.ref 58, .int w0.1, .int w0.2, .int (nI (k + 1)), j4, j5] [] (shw A B) (0, 0) (FWm (SV M) (nI s0.1) s0.2.1 s0.2.2 (M 65)) Q) → WP 213 66 [.ref 58, .int w0.1, .int w0.2, .int (nI k), .int (nI (k / 4)), .int v] [] (shw A B) (0, 0) (FWm (SV M) (nI s0.1) s0.2.1 s0.2.2 (M 65)) Q := by
      intro v hv
      by_cases q1 : k / 4 < c
      · have p1 : (nI (k / 4) < nI c) = True := eq_true (nI_lt q1 (by omega))
        rw [if_pos q1] at hv
        cases q2 : bt (M 63 (k / 4)) (nI (k % 4))
        · rw [q2] at hv
          simp only [Bool.false_eq_true, if_false] at hv
          simp only [w_m_watch_0, w_m_watch_1, w_m_watch_4, w_m_watch_5, w_m_watch_6, w_m_watch_7, w_m_watch_10, w_m_watch_11, w_m_watch_12, w_m_watch_14, w_m_watch_16, w_m_watch_19, w_m_watch_20, w_m_watch_21, w_m_watch_22, w_m_watch_24, w_m_watch_25, w_m_watch_28, w_m_watch_29, w_m_watch_30, w_m_watch_31, w_m_watch_34, w_m_watch_35, w_m_watch_38, w_m_watch_39, w_m_watch_40, w_m_watch_41, w_m_watch_44, w_m_watch_45, w_m_watch_48, w_m_watch_49, w_m_watch_50, w_m_watch_53, w_m_watch_54, w_m_watch_57, w_m_watch_58, w_m_watch_61, w_m_watch_62, w_m_watch_63, w_m_watch_64, w_m_watch_66, w_m_watch_68, w_m_watch_69, w_m_watch_72, w_m_watch_75, w_m_watch_76, w_m_watch_79, w_m_watch_81, w_m_watch_82, w_m_watch_83, w_m_watch_84, w_m_watch_85, w_m_watch_88, w_m_watch_91, w_m_watch_93, w_m_watch_94, w_m_watch_97, w_m_watch_99, w_m_watch_101, w_m_watch_102, w_m_watch_103, w_m_watch_104, w_m_watch_105, w_m_watch_106, w_m_watch_107, w_m_watch_109, w_m_watch_110, w_m_watch_113, w_m_watch_116, w_m_watch_117, cl_58, xm_34, xm_36, al_80, xm_3, xm_6, al_63, show ∀ a b d e, FWm (SV M) a b d e 58 3 = nI c from fun _ _ _ _ => h2, p1, g5, g3, not_false_eq_true, nI_clamp (show k / 4 < 2 ^ 31 by omega), show ∀ a b d e, FWm (SV M) a b d e 63 = M 63 from fun _ _ _ _ => rfl, d4 (show k < 2 ^ 31 by omega), r4, e_m_has, q2, nI_1, i10, Bool.false_eq_true, eq_self, true_or, or_true, if_true, if_false, gv_int, gv_ref, av_some, al_some, un_int, un_ref, un_mk, ok4_0, ok4_1, ok4_2, ok4_3, ok4_4, Kn_some, Kn_none, true_and, and_true]
          exact hv _ _
        · rw [q2] at hv
          simp only [if_true] at hv
          simp only [w_m_watch_0, w_m_watch_1, w_m_watch_4, w_m_watch_5, w_m_watch_6, w_m_watch_7, w_m_watch_10, w_m_watch_11, w_m_watch_12, w_m_watch_14, w_m_watch_16, w_m_watch_19, w_m_watch_20, w_m_watch_21, w_m_watch_22, w_m_watch_24, w_m_watch_25, w_m_watch_28, w_m_watch_29, w_m_watch_30, w_m_watch_31, w_m_watch_34, w_m_watch_35, w_m_watch_38, w_m_watch_39, w_m_watch_40, w_m_watch_41, w_m_watch_44, w_m_watch_45, w_m_watch_48, w_m_watch_49, w_m_watch_50, w_m_watch_53, w_m_watch_54, w_m_watch_57, w_m_watch_58, w_m_watch_61, w_m_watch_62, w_m_watch_63, w_m_watch_64, w_m_watch_66, w_m_watch_68, w_m_watch_69, w_m_watch_72, w_m_watch_75, w_m_watch_76, w_m_watch_79, w_m_watch_81, w_m_watch_82, w_m_watch_83, w_m_watch_84, w_m_watch_85, w_m_watch_88, w_m_watch_91, w_m_watch_93, w_m_watch_94, w_m_watch_97, w_m_watch_99, w_m_watch_101, w_m_watch_102, w_m_watch_103, w_m_watch_104, w_m_watch_105, w_m_watch_106, w_m_watch_107, w_m_watch_109, w_m_watch_110, w_m_watch_113, w_m_watch_116, w_m_watch_117, cl_58, xm_34, xm_36, al_80, xm_3, xm_6, al_63, show ∀ a b d e, FWm (SV M) a b d e 58 3 = nI c from fun _ _ _ _ => h2, p1, g5, g3, not_false_eq_true, nI_clamp (show k / 4 < 2 ^ 31 by omega), show ∀ a b d e, FWm (SV M) a b d e 63 = M 63 from fun _ _ _ _ => rfl, d4 (show k < 2 ^ 31 by omega), r4, e_m_has, q2, nI_1, g6, i10, Bool.false_eq_true, eq_self, true_or, or_true, if_true, if_false, gv_int, gv_ref, av_some, al_some, un_int, un_ref, un_mk, ok4_0, ok4_1, ok4_2, ok4_3, ok4_4, Kn_some, Kn_none, true_and, and_true]
          by_cases q3 : v < w0.2
          · simp only [q3, if_true] at hv ⊢; exact hv _ _
          · simp only [q3, if_false] at hv ⊢; exact hv _ _
      · have p1 : (nI (k / 4) < nI c) = False := eq_false (nI_nlt (by omega) (by omega))
        rw [if_neg q1] at hv
        simp only [w_m_watch_0, w_m_watch_1, w_m_watch_4, w_m_watch_5, w_m_watch_6, w_m_watch_7, w_m_watch_10, w_m_watch_11, w_m_watch_12, w_m_watch_14, w_m_watch_16, w_m_watch_19, w_m_watch_20, w_m_watch_21, w_m_watch_22, w_m_watch_24, w_m_watch_25, w_m_watch_28, w_m_watch_29, w_m_watch_30, w_m_watch_31, w_m_watch_34, w_m_watch_35, w_m_watch_38, w_m_watch_39, w_m_watch_40, w_m_watch_41, w_m_watch_44, w_m_watch_45, w_m_watch_48, w_m_watch_49, w_m_watch_50, w_m_watch_53, w_m_watch_54, w_m_watch_57, w_m_watch_58, w_m_watch_61, w_m_watch_62, w_m_watch_63, w_m_watch_64, w_m_watch_66, w_m_watch_68, w_m_watch_69, w_m_watch_72, w_m_watch_75, w_m_watch_76, w_m_watch_79, w_m_watch_81, w_m_watch_82, w_m_watch_83, w_m_watch_84, w_m_watch_85, w_m_watch_88, w_m_watch_91, w_m_watch_93, w_m_watch_94, w_m_watch_97, w_m_watch_99, w_m_watch_101, w_m_watch_102, w_m_watch_103, w_m_watch_104, w_m_watch_105, w_m_watch_106, w_m_watch_107, w_m_watch_109, w_m_watch_110, w_m_watch_113, w_m_watch_116, w_m_watch_117, cl_58, xm_34, xm_36, al_80, xm_3, xm_6, al_63, show ∀ a b d e, FWm (SV M) a b d e 58 3 = nI c from fun _ _ _ _ => h2, p1, nI_1, i10, Bool.false_eq_true, eq_self, true_or, or_true, if_true, if_false, gv_int, gv_ref, av_some, al_some, un_int, un_ref, un_mk, ok4_0, ok4_1, ok4_2, ok4_3, ok4_4, Kn_some, Kn_none, true_and, and_true]
        exact hv _ _
    have spl : ∀ v : Int32, (∀ j4 j5, WP 213 13 [.ref 58, .int (if k / 4 < c then (if bt (M 63 (k / 4)) (nI (k % 4)) then (if v < w0.2 then (nI (10 * (k / 4) + k % 4), v) else w0) else w0) else w0).1, .int (if k / 4 < c then (if bt (M 63 (k / 4)) (nI (k % 4)) then (if v < w0.2 then (nI (10 * (k / 4) + k % 4), v) else w0) else w0) else w0).2, .int (nI (k + 1)), j4, j5] [] (shw A B) (0, 0) (FWm (SV M) (nI s0.1) s0.2.1 s0.2.2 (M 65)) Q) → WP 213 66 [.ref 58, .int w0.1, .int w0.2, .int (nI k), .int (nI (k / 4)), .int v] [] (shw A B) (0, 0) (FWm (SV M) (nI s0.1) s0.2.1 s0.2.2 (M 65)) Q := by
      intro v hv
      refine rest v ?_
      by_cases q1 : k / 4 < c
      · rw [if_pos q1]
        simp only [q1, if_true] at hv
        cases q2 : bt (M 63 (k / 4)) (nI (k % 4))
        · simp only [q2, Bool.false_eq_true, if_false] at hv ⊢; exact hv
        · simp only [q2, if_true] at hv ⊢
          by_cases q3 : v < w0.2
          · simp only [q3, if_true] at hv ⊢; exact hv
          · simp only [q3, if_false] at hv ⊢; exact hv
      · rw [if_neg q1]
        simp only [q1, if_false] at hv
        exact hv
    by_cases q : nI s0.1 - s0.2.1 k < s0.2.1 k
    · simp only [q, if_true] at ih
      simp only [w_m_watch_0, w_m_watch_1, w_m_watch_4, w_m_watch_5, w_m_watch_6, w_m_watch_7, w_m_watch_10, w_m_watch_11, w_m_watch_12, w_m_watch_14, w_m_watch_16, w_m_watch_19, w_m_watch_20, w_m_watch_21, w_m_watch_22, w_m_watch_24, w_m_watch_25, w_m_watch_28, w_m_watch_29, w_m_watch_30, w_m_watch_31, w_m_watch_34, w_m_watch_35, w_m_watch_38, w_m_watch_39, w_m_watch_40, w_m_watch_41, w_m_watch_44, w_m_watch_45, w_m_watch_48, w_m_watch_49, w_m_watch_50, w_m_watch_53, w_m_watch_54, w_m_watch_57, w_m_watch_58, w_m_watch_61, w_m_watch_62, w_m_watch_63, w_m_watch_64, w_m_watch_68, w_m_watch_69, w_m_watch_72, w_m_watch_75, w_m_watch_76, w_m_watch_79, w_m_watch_81, w_m_watch_82, w_m_watch_83, w_m_watch_84, w_m_watch_85, w_m_watch_88, w_m_watch_91, w_m_watch_93, w_m_watch_94, w_m_watch_97, w_m_watch_99, w_m_watch_101, w_m_watch_102, w_m_watch_103, w_m_watch_104, w_m_watch_105, w_m_watch_106, w_m_watch_107, w_m_watch_109, w_m_watch_110, w_m_watch_113, w_m_watch_116, w_m_watch_117, cl_58, xm_34, xm_36, al_80, xm_3, xm_6, al_63, g1, g2, g3, not_false_eq_true, d4 (show k < 2 ^ 31 by omega), nI_clamp (show k < 2 ^ 31 by omega), show ∀ a b c d e, FWm a b c d e 58 34 = b from fun _ _ _ _ _ => rfl, show ∀ a b c d e, FWm a b c d e 80 = c from fun _ _ _ _ _ => rfl, q, i10, Bool.false_eq_true, eq_self, true_or, or_true, if_true, if_false, gv_int, gv_ref, av_some, al_some, un_int, un_ref, un_mk, ok4_0, ok4_1, ok4_2, ok4_3, ok4_4, Kn_some, Kn_none, true_and, and_true]
      exact spl _ ih
    · simp only [q, if_false] at ih
      simp only [w_m_watch_0, w_m_watch_1, w_m_watch_4, w_m_watch_5, w_m_watch_6, w_m_watch_7, w_m_watch_10, w_m_watch_11, w_m_watch_12, w_m_watch_14, w_m_watch_16, w_m_watch_19, w_m_watch_20, w_m_watch_21, w_m_watch_22, w_m_watch_24, w_m_watch_25, w_m_watch_28, w_m_watch_29, w_m_watch_30, w_m_watch_31, w_m_watch_34, w_m_watch_35, w_m_watch_38, w_m_watch_39, w_m_watch_40, w_m_watch_41, w_m_watch_44, w_m_watch_45, w_m_watch_48, w_m_watch_49, w_m_watch_50, w_m_watch_53, w_m_watch_54, w_m_watch_57, w_m_watch_58, w_m_watch_61, w_m_watch_62, w_m_watch_63, w_m_watch_64, w_m_watch_68, w_m_watch_69, w_m_watch_72, w_m_watch_75, w_m_watch_76, w_m_watch_79, w_m_watch_81, w_m_watch_82, w_m_watch_83, w_m_watch_84, w_m_watch_85, w_m_watch_88, w_m_watch_91, w_m_watch_93, w_m_watch_94, w_m_watch_97, w_m_watch_99, w_m_watch_101, w_m_watch_102, w_m_watch_103, w_m_watch_104, w_m_watch_105, w_m_watch_106, w_m_watch_107, w_m_watch_109, w_m_watch_110, w_m_watch_113, w_m_watch_116, w_m_watch_117, cl_58, xm_34, xm_36, al_80, xm_3, xm_6, al_63, g1, g2, g3, not_false_eq_true, d4 (show k < 2 ^ 31 by omega), nI_clamp (show k < 2 ^ 31 by omega), show ∀ a b c d e, FWm a b c d e 58 34 = b from fun _ _ _ _ _ => rfl, show ∀ a b c d e, FWm a b c d e 80 = c from fun _ _ _ _ _ => rfl, q, i10, Bool.false_eq_true, eq_self, true_or, or_true, if_true, if_false, gv_int, gv_ref, av_some, al_some, un_int, un_ref, un_mk, ok4_0, ok4_1, ok4_2, ok4_3, ok4_4, Kn_some, Kn_none, true_and, and_true]
      exact spl _ ih
