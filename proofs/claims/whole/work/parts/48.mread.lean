/-! the reference reads a text -/
/-- behind blanks -/
def skF (tx : Nat → Int32) (tl : Nat) : Nat → Nat → Nat
  | 0, p => p
  | f + 1, p => if p < tl ∧ tx p = 32 then skF tx tl f (p + 1) else p
def sk (tx : Nat → Int32) (tl p : Nat) : Nat := skF tx tl (tl - p) p
theorem skF_le (tx : Nat → Int32) (tl : Nat) : ∀ f p, p ≤ tl → p ≤ skF tx tl f p ∧ skF tx tl f p ≤ tl
  | 0, p, h => ⟨Nat.le_refl _, h⟩
  | f + 1, p, h => by
    unfold skF
    split
    · rename_i q
      have := skF_le tx tl f (p + 1) (by omega)
      omega
    · exact ⟨Nat.le_refl _, h⟩
theorem sk_le {tx : Nat → Int32} {tl p : Nat} (h : p ≤ tl) : p ≤ sk tx tl p ∧ sk tx tl p ≤ tl := skF_le tx tl _ p h
theorem sk_end {tx : Nat → Int32} {tl : Nat} : sk tx tl tl = tl := by unfold sk; rw [Nat.sub_self]; rfl
theorem sk_step {tx : Nat → Int32} {tl p : Nat} (h : p < tl) : sk tx tl p = if tx p = 32 then sk tx tl (p + 1) else p := by
  unfold sk
  obtain ⟨f, hf⟩ : ∃ f, tl - p = f + 1 := ⟨tl - p - 1, by omega⟩
  rw [hf, skF, show tl - (p + 1) = f by omega]
  by_cases q : tx p = 32
  · rw [if_pos ⟨h, q⟩, if_pos q]
  · rw [if_neg (fun e => q e.2), if_neg q]
/-- the letter there, or the end -/
def lt (tx : Nat → Int32) (tl p : Nat) : Int32 := if p < tl then tx p else -1
def TX (M : Mm) (tl p : Nat) : Prop := M 58 12 = nI tl ∧ (M 58 14 = nI p ∧ M 58 13 = -1) ∧ tl ≤ 240 ∧ p ≤ tl
theorem e_m_here {A B : Nat} {M : Mm} {Q : Po} {tl p : Nat} (h : TX M tl p) : WP 150 0 [.ref 58] [] (shw A B) (0, 0) M Q = Q (some (.int (lt (M 66) tl (sk (M 66) tl p)))) (shw A B) (up M 58 14 (nI (sk (M 66) tl p))) := by
  refine WP.is (fun Q hQ => ?_)
  obtain ⟨h1, h2, h3, h4⟩ := h
  have key : ∀ f q, q + f = tl → sk (M 66) tl q = sk (M 66) tl p → WP 150 0 [.ref 58] [] (shw A B) (0, 0) (up M 58 14 (nI q)) Q := by
    intro f
    induction f with
    | zero =>
      intro q hq e
      have hq : q = tl := hq
      subst hq
      rw [sk_end] at e
      rw [← e] at hQ
      unfold lt at hQ
      rw [if_neg (by omega)] at hQ
      rw [w_m_here_0]
      simp only [w_m_here_1, w_m_here_4, w_m_here_5, w_m_here_8, w_m_here_11, w_m_here_12, w_m_here_15, w_m_here_16, w_m_here_19, w_m_here_20, w_m_here_22, w_m_here_25, w_m_here_26, w_m_here_27, w_m_here_30, w_m_here_31, w_m_here_32, w_m_here_35, w_m_here_38, w_m_here_39, w_m_here_42, w_m_here_43, w_m_here_46, w_m_here_49, w_m_here_50, w_m_here_53, w_m_here_54, w_m_here_57, w_m_here_58, w_m_here_61, w_m_here_62, xm_14, xm_12, xm_11, al_66, show ∀ x, up M 58 14 x 58 14 = x from fun _ => rfl, show ∀ x, up M 58 14 x 58 12 = nI q from fun _ => h1, lt_irr, i10, Bool.false_eq_true, eq_self, true_or, or_true, if_true, if_false, gv_int, gv_ref, av_some, al_some, un_int, un_ref, un_mk, ok4_0, ok4_1, ok4_2, ok4_3, ok4_4, Kn_some, Kn_none, true_and, and_true]
      exact hQ
    | succ f ih =>
      intro q hq e
      have g1 : nI q < nI tl := nI_lt (by omega) (by omega)
      have g2 : vp_in (nI q) 240 := vp_in_nI (by omega) (by decide)
      rw [sk_step (by omega)] at e
      rw [w_m_here_0]
      by_cases b : M 66 q = 32
      · rw [if_pos b] at e
        simp only [w_m_here_1, w_m_here_4, w_m_here_5, w_m_here_8, w_m_here_11, w_m_here_12, w_m_here_15, w_m_here_16, w_m_here_19, w_m_here_20, w_m_here_22, w_m_here_25, w_m_here_26, w_m_here_27, w_m_here_30, w_m_here_31, w_m_here_32, w_m_here_35, w_m_here_38, w_m_here_39, w_m_here_42, w_m_here_43, w_m_here_46, w_m_here_49, w_m_here_50, w_m_here_53, w_m_here_54, w_m_here_57, w_m_here_58, w_m_here_61, w_m_here_62, xm_14, xm_12, xm_11, al_66, show ∀ x, up M 58 14 x 58 14 = x from fun _ => rfl, show ∀ x, up M 58 14 x 58 12 = nI tl from fun _ => h1, show ∀ x, up M 58 14 x 66 = M 66 from fun _ => rfl, g1, g2, nI_clamp (show q < 2 ^ 31 by omega), b, nI_1, up_up, i10, Bool.false_eq_true, eq_self, true_or, or_true, if_true, if_false, gv_int, gv_ref, av_some, al_some, un_int, un_ref, un_mk, ok4_0, ok4_1, ok4_2, ok4_3, ok4_4, Kn_some, Kn_none, true_and, and_true]
        exact ih (q + 1) (by omega) e
      · rw [if_neg b] at e
        rw [← e] at hQ
        unfold lt at hQ
        rw [if_pos (by omega)] at hQ
        simp only [w_m_here_1, w_m_here_4, w_m_here_5, w_m_here_8, w_m_here_11, w_m_here_12, w_m_here_15, w_m_here_16, w_m_here_19, w_m_here_20, w_m_here_22, w_m_here_25, w_m_here_26, w_m_here_27, w_m_here_30, w_m_here_31, w_m_here_32, w_m_here_35, w_m_here_38, w_m_here_39, w_m_here_42, w_m_here_43, w_m_here_46, w_m_here_49, w_m_here_50, w_m_here_53, w_m_here_54, w_m_here_57, w_m_here_58, w_m_here_61, w_m_here_62, xm_14, xm_12, xm_11, al_66, show ∀ x, up M 58 14 x 58 14 = x from fun _ => rfl, show ∀ x, up M 58 14 x 58 12 = nI tl from fun _ => h1, show ∀ x, up M 58 14 x 66 = M 66 from fun _ => rfl, g1, g2, nI_clamp (show q < 2 ^ 31 by omega), b, i10, Bool.false_eq_true, eq_self, true_or, or_true, if_true, if_false, gv_int, gv_ref, av_some, al_some, un_int, un_ref, un_mk, ok4_0, ok4_1, ok4_2, ok4_3, ok4_4, Kn_some, Kn_none, true_and, and_true]
        exact hQ
  have := key (tl - p) p (by omega) rfl
  rw [← h2.1, up_same] at this
  exact this
theorem e_m_fails {A B : Nat} {M : Mm} {Q : Po} {x y : Int32} : WP 151 0 [.ref 58, .int x, .int y] [] (shw A B) (0, 0) M Q = Q (some (.int x)) (shw A B) (up M 58 13 y) := by
  simp only [w_m_fails_0, w_m_fails_1, w_m_fails_2, w_m_fails_5, w_m_fails_6, xm_13, i10, Bool.false_eq_true, eq_self, true_or, or_true, if_true, if_false, gv_int, gv_ref, av_some, al_some, un_int, un_ref, un_mk, ok4_0, ok4_1, ok4_2, ok4_3, ok4_4, Kn_some, Kn_none, true_and, and_true]
/-- a figure -/
def isf (x : Int32) : Bool := decide (48 ≤ x.toInt ∧ x.toInt ≤ 57)
theorem rng_f {x : Int32} : rng x.toInt64 48 57 = isf x := by
  rw [rng_c (l := 48) (h := 57) (l' := 48) (h' := 57) (by decide) (by decide)]; rfl
def dnF (tx : Nat → Int32) (tl : Nat) : Nat → Nat → Nat
  | 0, p => p
  | f + 1, p => if p < tl ∧ isf (tx p) = true then dnF tx tl f (p + 1) else p
/-- behind figures -/
def dn (tx : Nat → Int32) (tl p : Nat) : Nat := dnF tx tl (tl - p) p
theorem dnF_le (tx : Nat → Int32) (tl : Nat) : ∀ f p, p ≤ tl → p ≤ dnF tx tl f p ∧ dnF tx tl f p ≤ tl
  | 0, p, h => ⟨Nat.le_refl _, h⟩
  | f + 1, p, h => by
    unfold dnF
    split
    · rename_i q
      have := dnF_le tx tl f (p + 1) (by omega)
      omega
    · exact ⟨Nat.le_refl _, h⟩
theorem dn_le {tx : Nat → Int32} {tl p : Nat} (h : p ≤ tl) : p ≤ dn tx tl p ∧ dn tx tl p ≤ tl := dnF_le tx tl _ p h
theorem dn_end {tx : Nat → Int32} {tl : Nat} : dn tx tl tl = tl := by unfold dn; rw [Nat.sub_self]; rfl
theorem dn_step {tx : Nat → Int32} {tl p : Nat} (h : p < tl) : dn tx tl p = if isf (tx p) then dn tx tl (p + 1) else p := by
  unfold dn
  obtain ⟨f, hf⟩ : ∃ f, tl - p = f + 1 := ⟨tl - p - 1, by omega⟩
  rw [hf, dnF, show tl - (p + 1) = f by omega]
  by_cases q : isf (tx p) = true
  · rw [if_pos ⟨h, q⟩, if_pos q]
  · rw [if_neg (fun e => q e.2), if_neg q]
/-- the number of k figures from s on, as the reference counts it -/
def nv (tx : Nat → Int32) (s k : Nat) : Int32 := lp (fun j v => if 10000 < v then v else 10 * v + tx (s + j) - 48) k 0
theorem nv_s (tx : Nat → Int32) (s k : Nat) : nv tx s (k + 1) = if 10000 < nv tx s k then nv tx s k else 10 * nv tx s k + tx (s + k) - 48 := rfl
/-- the memory behind a number that stands at s -/
def NM (M : Mm) (tl s : Nat) : Mm := up (up (up M 58 16 (nI s)) 58 15 (nv (M 66) s (dn (M 66) tl s - s))) 58 14 (nI (dn (M 66) tl s))
def okN (tx : Nat → Int32) (tl s : Nat) (most : Int32) : Bool := decide (dn tx tl s - s ≤ 3) && rng (nv tx s (dn tx tl s - s)).toInt64 0 most.toInt64
theorem e_m_takeNumber {A B : Nat} {M : Mm} {Q : Po} {tl p : Nat} {most : Int32} (h : TX M tl p) : WP 152 0 [.ref 58, .int 0, .int most, mk] [] (shw A B) (0, 0) M Q = if isf (lt (M 66) tl (sk (M 66) tl p)) then (if okN (M 66) tl (sk (M 66) tl p) most then Q (some (.int 0)) (shw A B) (NM M tl (sk (M 66) tl p)) else Q (some (.int 2)) (shw A B) (up (NM M tl (sk (M 66) tl p)) 58 13 (nI (sk (M 66) tl p)))) else Q (some (.int 1)) (shw A B) (up (up M 58 14 (nI (sk (M 66) tl p))) 58 13 (nI (sk (M 66) tl p))) := by
  have hs := sk_le (tx := M 66) h.2.2.2
  obtain ⟨h1, h2, h3, h4⟩ := id h
  generalize hse : sk (M 66) tl p = s at hs ⊢
  cases hd : isf (lt (M 66) tl s)
  · simp only [w_m_takeNumber_0, w_m_takeNumber_1, w_m_takeNumber_4, w_m_takeNumber_5, w_m_takeNumber_6, w_m_takeNumber_7, w_m_takeNumber_10, w_m_takeNumber_13, w_m_takeNumber_16, w_m_takeNumber_19, w_m_takeNumber_20, w_m_takeNumber_21, w_m_takeNumber_22, w_m_takeNumber_25, w_m_takeNumber_28, w_m_takeNumber_29, w_m_takeNumber_30, w_m_takeNumber_31, w_m_takeNumber_34, w_m_takeNumber_37, w_m_takeNumber_38, w_m_takeNumber_39, w_m_takeNumber_43, w_m_takeNumber_46, w_m_takeNumber_47, w_m_takeNumber_50, w_m_takeNumber_53, w_m_takeNumber_54, w_m_takeNumber_57, w_m_takeNumber_58, w_m_takeNumber_61, w_m_takeNumber_62, w_m_takeNumber_63, w_m_takeNumber_66, w_m_takeNumber_69, w_m_takeNumber_72, w_m_takeNumber_75, w_m_takeNumber_76, w_m_takeNumber_77, w_m_takeNumber_80, w_m_takeNumber_83, w_m_takeNumber_86, w_m_takeNumber_87, w_m_takeNumber_90, w_m_takeNumber_93, w_m_takeNumber_95, w_m_takeNumber_96, w_m_takeNumber_99, w_m_takeNumber_100, w_m_takeNumber_101, w_m_takeNumber_104, w_m_takeNumber_105, w_m_takeNumber_108, w_m_takeNumber_109, w_m_takeNumber_110, w_m_takeNumber_112, w_m_takeNumber_113, w_m_takeNumber_116, w_m_takeNumber_117, w_m_takeNumber_118, w_m_takeNumber_121, w_m_takeNumber_122, w_m_takeNumber_123, w_m_takeNumber_126, w_m_takeNumber_129, w_m_takeNumber_130, w_m_takeNumber_133, w_m_takeNumber_134, w_m_takeNumber_137, w_m_takeNumber_138, w_m_takeNumber_139, w_m_takeNumber_142, w_m_takeNumber_143, w_m_takeNumber_146, w_m_takeNumber_147, w_m_takeNumber_148, w_m_takeNumber_149, w_m_takeNumber_150, w_m_takeNumber_151, w_m_takeNumber_154, w_m_takeNumber_157, w_m_takeNumber_158, w_m_takeNumber_159, w_m_takeNumber_160, w_m_takeNumber_163, w_m_takeNumber_166, w_m_takeNumber_169, w_m_takeNumber_170, cl_58, xm_14, xm_16, xm_15, xm_12, xm_11, al_66, e_m_here h, hse, e_m_in, rng_f, hd, e_m_fails, cl_58, show ∀ x, up M 58 14 x 58 14 = x from fun _ => rfl, i10, Bool.false_eq_true, eq_self, true_or, or_true, if_true, if_false, gv_int, gv_ref, av_some, al_some, un_int, un_ref, un_mk, ok4_0, ok4_1, ok4_2, ok4_3, ok4_4, Kn_some, Kn_none, true_and, and_true]
  · have hst : s < tl := by
      by_cases q : s < tl
      · exact q
      · unfold lt at hd; rw [if_neg q] at hd; exact absurd hd (by decide)
    have hdl := dn_le (tx := M 66) hs.2
    have hdn : ∀ Q : Po, (if okN (M 66) tl s most then Q (some (.int 0)) (shw A B) (NM M tl s) else Q (some (.int 2)) (shw A B) (up (NM M tl s) 58 13 (nI s))) = Q (some (.int (if okN (M 66) tl s most then 0 else 2))) (shw A B) (if okN (M 66) tl s most then NM M tl s else up (NM M tl s) 58 13 (nI s)) := by
      intro Q; cases okN (M 66) tl s most <;> rfl
    simp only [if_true]
    rw [hdn Q]
    refine WP.is (fun Q hQ => ?_)
    rw [← hdn Q] at hQ
    simp only [w_m_takeNumber_0, w_m_takeNumber_1, w_m_takeNumber_4, w_m_takeNumber_5, w_m_takeNumber_6, w_m_takeNumber_7, w_m_takeNumber_10, w_m_takeNumber_13, w_m_takeNumber_16, w_m_takeNumber_19, w_m_takeNumber_20, w_m_takeNumber_21, w_m_takeNumber_22, w_m_takeNumber_25, w_m_takeNumber_28, w_m_takeNumber_29, w_m_takeNumber_30, w_m_takeNumber_31, w_m_takeNumber_34, w_m_takeNumber_37, w_m_takeNumber_38, w_m_takeNumber_39, w_m_takeNumber_43, w_m_takeNumber_46, w_m_takeNumber_47, w_m_takeNumber_50, w_m_takeNumber_53, w_m_takeNumber_54, w_m_takeNumber_57, w_m_takeNumber_58, w_m_takeNumber_61, w_m_takeNumber_62, w_m_takeNumber_63, w_m_takeNumber_66, w_m_takeNumber_69, w_m_takeNumber_72, w_m_takeNumber_75, w_m_takeNumber_76, w_m_takeNumber_77, w_m_takeNumber_80, w_m_takeNumber_83, w_m_takeNumber_86, w_m_takeNumber_87, w_m_takeNumber_90, w_m_takeNumber_93, w_m_takeNumber_95, w_m_takeNumber_96, w_m_takeNumber_99, w_m_takeNumber_100, w_m_takeNumber_101, w_m_takeNumber_104, w_m_takeNumber_105, w_m_takeNumber_108, w_m_takeNumber_109, w_m_takeNumber_110, w_m_takeNumber_112, w_m_takeNumber_113, w_m_takeNumber_116, w_m_takeNumber_117, w_m_takeNumber_118, w_m_takeNumber_121, w_m_takeNumber_122, w_m_takeNumber_123, w_m_takeNumber_126, w_m_takeNumber_129, w_m_takeNumber_130, w_m_takeNumber_133, w_m_takeNumber_134, w_m_takeNumber_137, w_m_takeNumber_138, w_m_takeNumber_139, w_m_takeNumber_142, w_m_takeNumber_143, w_m_takeNumber_146, w_m_takeNumber_147, w_m_takeNumber_148, w_m_takeNumber_149, w_m_takeNumber_150, w_m_takeNumber_151, w_m_takeNumber_154, w_m_takeNumber_157, w_m_takeNumber_158, w_m_takeNumber_159, w_m_takeNumber_160, w_m_takeNumber_163, w_m_takeNumber_166, w_m_takeNumber_169, w_m_takeNumber_170, cl_58, xm_14, xm_16, xm_15, xm_12, xm_11, al_66, e_m_here h, hse, e_m_in, rng_f, hd, cl_58, show ∀ x, up M 58 14 x 58 14 = x from fun _ => rfl, i10, Bool.false_eq_true, eq_self, true_or, or_true, if_true, if_false, gv_int, gv_ref, av_some, al_some, un_int, un_ref, un_mk, ok4_0, ok4_1, ok4_2, ok4_3, ok4_4, Kn_some, Kn_none, true_and, and_true]
    have key : ∀ f q, q + f = tl → s ≤ q → dn (M 66) tl q = dn (M 66) tl s → ∀ j3, WP 152 42 [.ref 58, .int 0, .int most, j3] [] (shw A B) (0, 0) (up (up (up M 58 16 (nI s)) 58 15 (nv (M 66) s (q - s))) 58 14 (nI q)) Q := by
      have fin : ∀ q, q = dn (M 66) tl s → ∀ j3, WP 152 129 [.ref 58, .int 0, .int most, j3] [] (shw A B) (0, 0) (up (up (up M 58 16 (nI s)) 58 15 (nv (M 66) s (q - s))) 58 14 (nI q)) Q := by
        intro q hq j3
        subst hq
        have e0 : nI (dn (M 66) tl s) - nI s = nI (dn (M 66) tl s - s) := pk_sub hdl.1
        unfold okN at hQ
        by_cases b : dn (M 66) tl s - s ≤ 3
        · have p : ((3 : Int32) < nI (dn (M 66) tl s - s)) = False := eq_false (nI_nlt (b := dn (M 66) tl s - s) (a := 3) b (by decide))
          rw [decide_eq_true b, Bool.true_and] at hQ
          simp only [w_m_takeNumber_0, w_m_takeNumber_1, w_m_takeNumber_4, w_m_takeNumber_5, w_m_takeNumber_6, w_m_takeNumber_7, w_m_takeNumber_10, w_m_takeNumber_13, w_m_takeNumber_16, w_m_takeNumber_19, w_m_takeNumber_20, w_m_takeNumber_21, w_m_takeNumber_22, w_m_takeNumber_25, w_m_takeNumber_28, w_m_takeNumber_29, w_m_takeNumber_30, w_m_takeNumber_31, w_m_takeNumber_34, w_m_takeNumber_37, w_m_takeNumber_38, w_m_takeNumber_39, w_m_takeNumber_43, w_m_takeNumber_46, w_m_takeNumber_47, w_m_takeNumber_50, w_m_takeNumber_53, w_m_takeNumber_54, w_m_takeNumber_57, w_m_takeNumber_58, w_m_takeNumber_61, w_m_takeNumber_62, w_m_takeNumber_63, w_m_takeNumber_66, w_m_takeNumber_69, w_m_takeNumber_72, w_m_takeNumber_75, w_m_takeNumber_76, w_m_takeNumber_77, w_m_takeNumber_80, w_m_takeNumber_83, w_m_takeNumber_86, w_m_takeNumber_87, w_m_takeNumber_90, w_m_takeNumber_93, w_m_takeNumber_95, w_m_takeNumber_96, w_m_takeNumber_99, w_m_takeNumber_100, w_m_takeNumber_101, w_m_takeNumber_104, w_m_takeNumber_105, w_m_takeNumber_108, w_m_takeNumber_109, w_m_takeNumber_110, w_m_takeNumber_112, w_m_takeNumber_113, w_m_takeNumber_116, w_m_takeNumber_117, w_m_takeNumber_118, w_m_takeNumber_121, w_m_takeNumber_122, w_m_takeNumber_123, w_m_takeNumber_126, w_m_takeNumber_129, w_m_takeNumber_130, w_m_takeNumber_133, w_m_takeNumber_134, w_m_takeNumber_137, w_m_takeNumber_138, w_m_takeNumber_139, w_m_takeNumber_142, w_m_takeNumber_143, w_m_takeNumber_146, w_m_takeNumber_147, w_m_takeNumber_148, w_m_takeNumber_149, w_m_takeNumber_150, w_m_takeNumber_151, w_m_takeNumber_154, w_m_takeNumber_157, w_m_takeNumber_158, w_m_takeNumber_159, w_m_takeNumber_160, w_m_takeNumber_163, w_m_takeNumber_166, w_m_takeNumber_169, w_m_takeNumber_170, cl_58, xm_14, xm_16, xm_15, xm_12, xm_11, al_66, show ∀ X x y, up (up X 58 15 x) 58 14 y 58 14 = y from fun _ _ _ => rfl, show ∀ x y z, up (up (up M 58 16 x) 58 15 y) 58 14 z 58 16 = x from fun _ _ _ => rfl, show ∀ X x y, up (up X 58 15 x) 58 14 y 58 15 = x from fun _ _ _ => rfl, e0, p, e_m_in, e_m_fails, cl_58, show ((0 : Int32).toInt64) = 0 by decide, i10, Bool.false_eq_true, eq_self, true_or, or_true, if_true, if_false, gv_int, gv_ref, av_some, al_some, un_int, un_ref, un_mk, ok4_0, ok4_1, ok4_2, ok4_3, ok4_4, Kn_some, Kn_none, true_and, and_true]
          cases q3 : rng (nv (M 66) s (dn (M 66) tl s - s)).toInt64 0 most.toInt64
          · rw [q3] at hQ
            simp only [q3, Bool.false_eq_true, if_false, if_true] at hQ ⊢
            exact hQ
          · rw [q3] at hQ
            simp only [q3, i10, if_false, if_true] at hQ ⊢
            exact hQ
        · have p : ((3 : Int32) < nI (dn (M 66) tl s - s)) = True := eq_true (nI_lt (a := 3) (by omega) (by omega))
          rw [decide_eq_false b, Bool.false_and] at hQ
          simp only [Bool.false_eq_true, if_false] at hQ
          simp only [w_m_takeNumber_0, w_m_takeNumber_1, w_m_takeNumber_4, w_m_takeNumber_5, w_m_takeNumber_6, w_m_takeNumber_7, w_m_takeNumber_10, w_m_takeNumber_13, w_m_takeNumber_16, w_m_takeNumber_19, w_m_takeNumber_20, w_m_takeNumber_21, w_m_takeNumber_22, w_m_takeNumber_25, w_m_takeNumber_28, w_m_takeNumber_29, w_m_takeNumber_30, w_m_takeNumber_31, w_m_takeNumber_34, w_m_takeNumber_37, w_m_takeNumber_38, w_m_takeNumber_39, w_m_takeNumber_43, w_m_takeNumber_46, w_m_takeNumber_47, w_m_takeNumber_50, w_m_takeNumber_53, w_m_takeNumber_54, w_m_takeNumber_57, w_m_takeNumber_58, w_m_takeNumber_61, w_m_takeNumber_62, w_m_takeNumber_63, w_m_takeNumber_66, w_m_takeNumber_69, w_m_takeNumber_72, w_m_takeNumber_75, w_m_takeNumber_76, w_m_takeNumber_77, w_m_takeNumber_80, w_m_takeNumber_83, w_m_takeNumber_86, w_m_takeNumber_87, w_m_takeNumber_90, w_m_takeNumber_93, w_m_takeNumber_95, w_m_takeNumber_96, w_m_takeNumber_99, w_m_takeNumber_100, w_m_takeNumber_101, w_m_takeNumber_104, w_m_takeNumber_105, w_m_takeNumber_108, w_m_takeNumber_109, w_m_takeNumber_110, w_m_takeNumber_112, w_m_takeNumber_113, w_m_takeNumber_116, w_m_takeNumber_117, w_m_takeNumber_118, w_m_takeNumber_121, w_m_takeNumber_122, w_m_takeNumber_123, w_m_takeNumber_126, w_m_takeNumber_129, w_m_takeNumber_130, w_m_takeNumber_133, w_m_takeNumber_134, w_m_takeNumber_137, w_m_takeNumber_138, w_m_takeNumber_139, w_m_takeNumber_142, w_m_takeNumber_143, w_m_takeNumber_146, w_m_takeNumber_147, w_m_takeNumber_148, w_m_takeNumber_149, w_m_takeNumber_150, w_m_takeNumber_151, w_m_takeNumber_154, w_m_takeNumber_157, w_m_takeNumber_158, w_m_takeNumber_159, w_m_takeNumber_160, w_m_takeNumber_163, w_m_takeNumber_166, w_m_takeNumber_169, w_m_takeNumber_170, cl_58, xm_14, xm_16, xm_15, xm_12, xm_11, al_66, show ∀ X x y, up (up X 58 15 x) 58 14 y 58 14 = y from fun _ _ _ => rfl, show ∀ x y z, up (up (up M 58 16 x) 58 15 y) 58 14 z 58 16 = x from fun _ _ _ => rfl, e0, p, e_m_fails, cl_58, i10, Bool.false_eq_true, eq_self, true_or, or_true, if_true, if_false, gv_int, gv_ref, av_some, al_some, un_int, un_ref, un_mk, ok4_0, ok4_1, ok4_2, ok4_3, ok4_4, Kn_some, Kn_none, true_and, and_true]
          exact hQ
      intro f
      induction f with
      | zero =>
        intro q hq hsq e j3
        have hq : q = tl := hq
        subst hq
        rw [dn_end] at e
        rw [w_m_takeNumber_42]
        simp only [w_m_takeNumber_0, w_m_takeNumber_1, w_m_takeNumber_4, w_m_takeNumber_5, w_m_takeNumber_6, w_m_takeNumber_7, w_m_takeNumber_10, w_m_takeNumber_13, w_m_takeNumber_16, w_m_takeNumber_19, w_m_takeNumber_20, w_m_takeNumber_21, w_m_takeNumber_22, w_m_takeNumber_25, w_m_takeNumber_28, w_m_takeNumber_29, w_m_takeNumber_30, w_m_takeNumber_31, w_m_takeNumber_34, w_m_takeNumber_37, w_m_takeNumber_38, w_m_takeNumber_39, w_m_takeNumber_43, w_m_takeNumber_46, w_m_takeNumber_47, w_m_takeNumber_50, w_m_takeNumber_53, w_m_takeNumber_54, w_m_takeNumber_57, w_m_takeNumber_58, w_m_takeNumber_61, w_m_takeNumber_62, w_m_takeNumber_63, w_m_takeNumber_66, w_m_takeNumber_69, w_m_takeNumber_72, w_m_takeNumber_75, w_m_takeNumber_76, w_m_takeNumber_77, w_m_takeNumber_80, w_m_takeNumber_83, w_m_takeNumber_86, w_m_takeNumber_87, w_m_takeNumber_90, w_m_takeNumber_93, w_m_takeNumber_95, w_m_takeNumber_96, w_m_takeNumber_99, w_m_takeNumber_100, w_m_takeNumber_101, w_m_takeNumber_104, w_m_takeNumber_105, w_m_takeNumber_108, w_m_takeNumber_109, w_m_takeNumber_110, w_m_takeNumber_112, w_m_takeNumber_113, w_m_takeNumber_116, w_m_takeNumber_117, w_m_takeNumber_118, w_m_takeNumber_121, w_m_takeNumber_122, w_m_takeNumber_123, w_m_takeNumber_126, w_m_takeNumber_130, w_m_takeNumber_133, w_m_takeNumber_134, w_m_takeNumber_137, w_m_takeNumber_138, w_m_takeNumber_139, w_m_takeNumber_142, w_m_takeNumber_143, w_m_takeNumber_146, w_m_takeNumber_147, w_m_takeNumber_148, w_m_takeNumber_149, w_m_takeNumber_150, w_m_takeNumber_151, w_m_takeNumber_154, w_m_takeNumber_157, w_m_takeNumber_158, w_m_takeNumber_159, w_m_takeNumber_160, w_m_takeNumber_163, w_m_takeNumber_166, w_m_takeNumber_169, w_m_takeNumber_170, cl_58, xm_14, xm_16, xm_15, xm_12, xm_11, al_66, show ∀ X x y, up (up X 58 15 x) 58 14 y 58 14 = y from fun _ _ _ => rfl, show ∀ x y z, up (up (up M 58 16 x) 58 15 y) 58 14 z 58 12 = nI q from fun _ _ _ => h1, lt_irr, i10, Bool.false_eq_true, eq_self, true_or, or_true, if_true, if_false, gv_int, gv_ref, av_some, al_some, un_int, un_ref, un_mk, ok4_0, ok4_1, ok4_2, ok4_3, ok4_4, Kn_some, Kn_none, true_and, and_true]
        exact fin q e j3
      | succ f ih =>
        intro q hq hsq e j3
        have g1 : nI q < nI tl := nI_lt (by omega) (by omega)
        have g2 : vp_in (nI q) 240 := vp_in_nI (by omega) (by decide)
        rw [dn_step (by omega)] at e
        rw [w_m_takeNumber_42]
        cases b : isf (M 66 q)
        · rw [b] at e
          simp only [Bool.false_eq_true, if_false] at e
          simp only [w_m_takeNumber_0, w_m_takeNumber_1, w_m_takeNumber_4, w_m_takeNumber_5, w_m_takeNumber_6, w_m_takeNumber_7, w_m_takeNumber_10, w_m_takeNumber_13, w_m_takeNumber_16, w_m_takeNumber_19, w_m_takeNumber_20, w_m_takeNumber_21, w_m_takeNumber_22, w_m_takeNumber_25, w_m_takeNumber_28, w_m_takeNumber_29, w_m_takeNumber_30, w_m_takeNumber_31, w_m_takeNumber_34, w_m_takeNumber_37, w_m_takeNumber_38, w_m_takeNumber_39, w_m_takeNumber_43, w_m_takeNumber_46, w_m_takeNumber_47, w_m_takeNumber_50, w_m_takeNumber_53, w_m_takeNumber_54, w_m_takeNumber_57, w_m_takeNumber_58, w_m_takeNumber_61, w_m_takeNumber_62, w_m_takeNumber_63, w_m_takeNumber_66, w_m_takeNumber_69, w_m_takeNumber_72, w_m_takeNumber_75, w_m_takeNumber_76, w_m_takeNumber_77, w_m_takeNumber_80, w_m_takeNumber_83, w_m_takeNumber_86, w_m_takeNumber_87, w_m_takeNumber_90, w_m_takeNumber_93, w_m_takeNumber_95, w_m_takeNumber_96, w_m_takeNumber_99, w_m_takeNumber_100, w_m_takeNumber_101, w_m_takeNumber_104, w_m_takeNumber_105, w_m_takeNumber_108, w_m_takeNumber_109, w_m_takeNumber_110, w_m_takeNumber_112, w_m_takeNumber_113, w_m_takeNumber_116, w_m_takeNumber_117, w_m_takeNumber_118, w_m_takeNumber_121, w_m_takeNumber_122, w_m_takeNumber_123, w_m_takeNumber_126, w_m_takeNumber_130, w_m_takeNumber_133, w_m_takeNumber_134, w_m_takeNumber_137, w_m_takeNumber_138, w_m_takeNumber_139, w_m_takeNumber_142, w_m_takeNumber_143, w_m_takeNumber_146, w_m_takeNumber_147, w_m_takeNumber_148, w_m_takeNumber_149, w_m_takeNumber_150, w_m_takeNumber_151, w_m_takeNumber_154, w_m_takeNumber_157, w_m_takeNumber_158, w_m_takeNumber_159, w_m_takeNumber_160, w_m_takeNumber_163, w_m_takeNumber_166, w_m_takeNumber_169, w_m_takeNumber_170, cl_58, xm_14, xm_16, xm_15, xm_12, xm_11, al_66, show ∀ X x y, up (up X 58 15 x) 58 14 y 58 14 = y from fun _ _ _ => rfl, show ∀ x y z, up (up (up M 58 16 x) 58 15 y) 58 14 z 58 12 = nI tl from fun _ _ _ => h1, show ∀ x y z, up (up (up M 58 16 x) 58 15 y) 58 14 z 66 = M 66 from fun _ _ _ => rfl, g1, g2, nI_clamp (show q < 2 ^ 31 by omega), e_m_in, rng_f, b, i10, Bool.false_eq_true, eq_self, true_or, or_true, if_true, if_false, gv_int, gv_ref, av_some, al_some, un_int, un_ref, un_mk, ok4_0, ok4_1, ok4_2, ok4_3, ok4_4, Kn_some, Kn_none, true_and, and_true]
          exact fin q e j3
        · rw [b] at e
          simp only [if_true] at e
          have ih := ih (q + 1) (by omega) (by omega) e j3
          have ev := nv_s (M 66) s (q - s)
          rw [show q - s + 1 = q + 1 - s by omega, show s + (q - s) = q by omega] at ev
          rw [ev] at ih
          generalize nv (M 66) s (q - s) = v0 at ih ⊢
          have em : ∀ x, up (up (up (up M 58 16 (nI s)) 58 15 v0) 58 14 (nI q)) 58 15 x = up (up (up M 58 16 (nI s)) 58 15 x) 58 14 (nI q) := by
            intro x
            funext c j
            by_cases hc : c = 58
            · subst hc
              by_cases j1 : j = 16 <;> by_cases j2 : j = 14 <;> by_cases j3 : j = 15 <;> simp [up, st, upd, j1, j2, j3]
            · simp [up, hc]
          simp only [w_m_takeNumber_0, w_m_takeNumber_1, w_m_takeNumber_4, w_m_takeNumber_5, w_m_takeNumber_6, w_m_takeNumber_7, w_m_takeNumber_10, w_m_takeNumber_13, w_m_takeNumber_16, w_m_takeNumber_19, w_m_takeNumber_20, w_m_takeNumber_21, w_m_takeNumber_22, w_m_takeNumber_25, w_m_takeNumber_28, w_m_takeNumber_29, w_m_takeNumber_30, w_m_takeNumber_31, w_m_takeNumber_34, w_m_takeNumber_37, w_m_takeNumber_38, w_m_takeNumber_39, w_m_takeNumber_43, w_m_takeNumber_46, w_m_takeNumber_47, w_m_takeNumber_50, w_m_takeNumber_53, w_m_takeNumber_54, w_m_takeNumber_57, w_m_takeNumber_58, w_m_takeNumber_61, w_m_takeNumber_62, w_m_takeNumber_63, w_m_takeNumber_66, w_m_takeNumber_69, w_m_takeNumber_72, w_m_takeNumber_75, w_m_takeNumber_76, w_m_takeNumber_77, w_m_takeNumber_80, w_m_takeNumber_83, w_m_takeNumber_86, w_m_takeNumber_87, w_m_takeNumber_90, w_m_takeNumber_93, w_m_takeNumber_95, w_m_takeNumber_96, w_m_takeNumber_99, w_m_takeNumber_100, w_m_takeNumber_101, w_m_takeNumber_104, w_m_takeNumber_105, w_m_takeNumber_108, w_m_takeNumber_109, w_m_takeNumber_110, w_m_takeNumber_112, w_m_takeNumber_113, w_m_takeNumber_116, w_m_takeNumber_117, w_m_takeNumber_118, w_m_takeNumber_121, w_m_takeNumber_122, w_m_takeNumber_123, w_m_takeNumber_126, w_m_takeNumber_130, w_m_takeNumber_133, w_m_takeNumber_134, w_m_takeNumber_137, w_m_takeNumber_138, w_m_takeNumber_139, w_m_takeNumber_142, w_m_takeNumber_143, w_m_takeNumber_146, w_m_takeNumber_147, w_m_takeNumber_148, w_m_takeNumber_149, w_m_takeNumber_150, w_m_takeNumber_151, w_m_takeNumber_154, w_m_takeNumber_157, w_m_takeNumber_158, w_m_takeNumber_159, w_m_takeNumber_160, w_m_takeNumber_163, w_m_takeNumber_166, w_m_takeNumber_169, w_m_takeNumber_170, cl_58, xm_14, xm_16, xm_15, xm_12, xm_11, al_66, show ∀ X x y, up (up X 58 15 x) 58 14 y 58 14 = y from fun _ _ _ => rfl, show ∀ x y z, up (up (up M 58 16 x) 58 15 y) 58 14 z 58 12 = nI tl from fun _ _ _ => h1, show ∀ x y z, up (up (up M 58 16 x) 58 15 y) 58 14 z 66 = M 66 from fun _ _ _ => rfl, show ∀ X x y, up (up X 58 15 x) 58 14 y 58 15 = x from fun _ _ _ => rfl, g1, g2, nI_clamp (show q < 2 ^ 31 by omega), e_m_in, rng_f, b, i10, Bool.false_eq_true, eq_self, true_or, or_true, if_true, if_false, gv_int, gv_ref, av_some, al_some, un_int, un_ref, un_mk, ok4_0, ok4_1, ok4_2, ok4_3, ok4_4, Kn_some, Kn_none, true_and, and_true]
          by_cases q5 : 10000 < v0
          · simp only [q5, if_true, em, show ∀ X x y, up (up X 58 15 x) 58 14 y 58 14 = y from fun _ _ _ => rfl, nI_1, up_up] at ih ⊢
            exact ih
          · simp only [q5, if_false, em, show ∀ X x y, up (up X 58 15 x) 58 14 y 58 14 = y from fun _ _ _ => rfl, nI_1, up_up] at ih ⊢
            exact ih
    have em0 : up (up (up M 58 14 (nI s)) 58 16 (nI s)) 58 15 0 = up (up (up M 58 16 (nI s)) 58 15 (nv (M 66) s (s - s))) 58 14 (nI s) := by
      rw [Nat.sub_self, show nv (M 66) s 0 = 0 from rfl]
      funext c j
      by_cases hc : c = 58
      · subst hc
        by_cases j1 : j = 16 <;> by_cases j2 : j = 14 <;> by_cases j3 : j = 15 <;> simp [up, st, upd, j1, j2, j3]
      · simp [up, hc]
    rw [em0]
    exact key (tl - s) s (by omega) (Nat.le_refl _) rfl _
