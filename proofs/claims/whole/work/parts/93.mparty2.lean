/-! the reference takes what it read, and leaves the rest; the reference's party over any tables -/
def Fq (M M' : Mm) : Prop := ∀ c j, (c = 58 → ¬ j = 0 ∧ ¬ j = 3 ∧ ¬ j = 7) → ¬ (59 ≤ c ∧ c ≤ 64) → ¬ (c = 65 ∧ j < 7) → M' c j = M c j
theorem Fq.cell {M M' : Mm} (h : Fq M M') {c : Nat} (hc : ¬ c = 58) (hc' : ¬ (59 ≤ c ∧ c ≤ 65)) : M' c = M c := funext (fun j => h c j (fun e => absurd e hc) (by omega) (by omega))
theorem Fq.ua {M M' : Mm} {o k : Nat} {x : Int32} (h : Fq M M') (ho : 59 ≤ o) (ho' : o ≤ 64) : Fq M (up M' o k x) := by
  intro c j h1 h2 h3
  rw [up_at, if_neg (by omega)]
  exact h c j h1 h2 h3
theorem Fq.u65 {M M' : Mm} {k : Nat} {x : Int32} (h : Fq M M') (hk : k < 7) : Fq M (up M' 65 k x) := by
  intro c j h1 h2 h3
  rw [up_at]
  by_cases q : c = 65
  · rw [if_pos q, if_neg (by omega), ← q]
    exact h c j h1 h2 h3
  · rw [if_neg q]
    exact h c j h1 h2 h3
def PJ (M M' : Mm) (K C N a b d r t : Nat) : Prop := (M' 58 0 = nI K ∧ M' 58 3 = nI C ∧ M' 58 7 = nI N) ∧ Fq M M' ∧ (∀ i, i < a → M' 59 i = M 67 i ∧ M' 60 i = M 68 i) ∧ (∀ i, i < b → M' 61 i = M 69 i ∧ M' 63 i = M 71 i) ∧ (∀ i k, i < d → k < K → M' 62 (5 * i + k) = M 70 (5 * i + k)) ∧ (∀ k, k < r → M' 62 (5 * d + k) = M 70 (5 * d + k)) ∧ ∀ i, i < t → M' 64 i = (if i < N then M 72 i else 0) ∧ M' 65 i = -1
section
variable {M M' : Mm} {K C N a b d r t : Nat}
theorem PJ.s1 (h : PJ M M' K C N a b d r t) : PJ M (up (up M' 59 a (M' 67 a)) 60 a (M' 68 a)) K C N (a + 1) b d r t := by
  obtain ⟨h1, h2, h3, h4, h5, h6, h7⟩ := h
  rw [h2.cell (c := 67) (by omega) (by omega), h2.cell (c := 68) (by omega) (by omega)]
  refine ⟨h1, (h2.ua (by omega) (by omega)).ua (by omega) (by omega), ?_, h4, h5, h6, h7⟩
  intro i hi
  by_cases q : i = a
  · subst q; constructor <;> simp [up_at]
  · have := h3 i (by omega)
    constructor <;> simp [up_at, q, this.1, this.2]
theorem PJ.s2 (h : PJ M M' K C N a b d r t) : PJ M (up (up M' 61 b (M' 69 b)) 63 b (M' 71 b)) K C N a (b + 1) d r t := by
  obtain ⟨h1, h2, h3, h4, h5, h6, h7⟩ := h
  rw [h2.cell (c := 69) (by omega) (by omega), h2.cell (c := 71) (by omega) (by omega)]
  refine ⟨h1, (h2.ua (by omega) (by omega)).ua (by omega) (by omega), h3, ?_, h5, h6, h7⟩
  intro i hi
  by_cases q : i = b
  · subst q; constructor <;> simp [up_at]
  · have := h4 i (by omega)
    constructor <;> simp [up_at, q, this.1, this.2]
theorem PJ.s3 (h : PJ M M' K C N a b d r t) : PJ M (up M' 62 (5 * d + r) (M' 70 (5 * d + r))) K C N a b d (r + 1) t := by
  obtain ⟨h1, h2, h3, h4, h5, h6, h7⟩ := h
  rw [h2.cell (c := 70) (by omega) (by omega)]
  refine ⟨h1, h2.ua (by omega) (by omega), h3, h4, ?_, ?_, h7⟩
  · intro i k hi hk
    rw [up_at, if_pos rfl]
    by_cases q : 5 * i + k = 5 * d + r
    · rw [if_pos q, q]
    · rw [if_neg q]; exact h5 i k hi hk
  · intro k hk
    rw [up_at, if_pos rfl]
    by_cases q : 5 * d + k = 5 * d + r
    · rw [if_pos q, q]
    · rw [if_neg q]; exact h6 k (by omega)
theorem PJ.s4 (h : PJ M M' K C N a b d K t) : PJ M M' K C N a b (d + 1) 0 t := by
  obtain ⟨h1, h2, h3, h4, h5, h6, h7⟩ := h
  refine ⟨h1, h2, h3, h4, ?_, fun k hk => absurd hk (Nat.not_lt_zero _), h7⟩
  intro i k hi hk
  by_cases q : i = d
  · subst q; exact h6 k hk
  · exact h5 i k (by omega) hk
theorem PJ.s5 (h : PJ M M' K C N a b d r t) (ht : t < 7) : PJ M (up (up M' 64 t (if t < N then M 72 t else 0)) 65 t (-1)) K C N a b d r (t + 1) := by
  obtain ⟨h1, h2, h3, h4, h5, h6, h7⟩ := h
  refine ⟨h1, (h2.ua (by omega) (by omega)).u65 ht, h3, h4, h5, h6, ?_⟩
  intro i hi
  by_cases q : i = t
  · subst q; constructor <;> simp [up_at]
  · have := h7 i (by omega)
    constructor <;> simp [up_at, q, this.1, this.2]
end
theorem r_takeRead2 {A B : Nat} {M : Mm} {Q : Po} {K C N : Nat} (h2 : M 58 17 = nI K) (h3 : M 58 20 = nI C) (h4 : M 58 24 = nI N) (hK : K ≤ 5) (hC : C ≤ 4) (hN : N ≤ 7) (hq : ∀ M', PJ M M' K C N K C C 0 7 → Q none (shw A B) M') : WP 159 0 [.ref 58, mk, mk] [] (shw A B) (0, 0) M Q := by
  have three : ∀ M', PJ M M' K C N K C C 0 0 → ∀ j2, WP 159 142 [.ref 58, .int 0, j2] [] (shw A B) (0, 0) M' Q := by
    intro M' hM j2
    refine for_up (n := 7) (P := fun k => ∀ M', PJ M M' K C N K C C 0 k → ∀ j2, WP 159 142 [.ref 58, .int (nI k), j2] [] (shw A B) (0, 0) M' Q) ?_ ?_ M' hM j2
    · intro M' hM j2
      rw [w_m_takeRead_142]
      simp only [w_m_takeRead_0, w_m_takeRead_1, w_m_takeRead_2, w_m_takeRead_5, w_m_takeRead_8, w_m_takeRead_9, w_m_takeRead_10, w_m_takeRead_13, w_m_takeRead_16, w_m_takeRead_17, w_m_takeRead_18, w_m_takeRead_21, w_m_takeRead_24, w_m_takeRead_25, w_m_takeRead_27, w_m_takeRead_28, w_m_takeRead_31, w_m_takeRead_34, w_m_takeRead_35, w_m_takeRead_38, w_m_takeRead_39, w_m_takeRead_40, w_m_takeRead_43, w_m_takeRead_44, w_m_takeRead_45, w_m_takeRead_46, w_m_takeRead_47, w_m_takeRead_50, w_m_takeRead_51, w_m_takeRead_52, w_m_takeRead_55, w_m_takeRead_56, w_m_takeRead_57, w_m_takeRead_58, w_m_takeRead_61, w_m_takeRead_64, w_m_takeRead_65, w_m_takeRead_67, w_m_takeRead_68, w_m_takeRead_71, w_m_takeRead_74, w_m_takeRead_75, w_m_takeRead_78, w_m_takeRead_79, w_m_takeRead_80, w_m_takeRead_83, w_m_takeRead_84, w_m_takeRead_85, w_m_takeRead_86, w_m_takeRead_87, w_m_takeRead_90, w_m_takeRead_91, w_m_takeRead_92, w_m_takeRead_95, w_m_takeRead_96, w_m_takeRead_97, w_m_takeRead_98, w_m_takeRead_99, w_m_takeRead_101, w_m_takeRead_102, w_m_takeRead_105, w_m_takeRead_108, w_m_takeRead_109, w_m_takeRead_112, w_m_takeRead_113, w_m_takeRead_114, w_m_takeRead_115, w_m_takeRead_116, w_m_takeRead_117, w_m_takeRead_118, w_m_takeRead_121, w_m_takeRead_122, w_m_takeRead_123, w_m_takeRead_124, w_m_takeRead_125, w_m_takeRead_126, w_m_takeRead_127, w_m_takeRead_128, w_m_takeRead_131, w_m_takeRead_134, w_m_takeRead_137, w_m_takeRead_140, w_m_takeRead_141, w_m_takeRead_143, w_m_takeRead_145, w_m_takeRead_148, w_m_takeRead_149, w_m_takeRead_152, w_m_takeRead_153, w_m_takeRead_154, w_m_takeRead_155, w_m_takeRead_158, w_m_takeRead_161, w_m_takeRead_162, w_m_takeRead_165, w_m_takeRead_166, w_m_takeRead_167, w_m_takeRead_170, w_m_takeRead_171, w_m_takeRead_172, w_m_takeRead_173, w_m_takeRead_176, w_m_takeRead_177, w_m_takeRead_178, w_m_takeRead_179, w_m_takeRead_182, w_m_takeRead_185, xm_17, xm_0, xm_20, xm_3, xm_24, xm_7, xm_1, al_59, xm_18, al_67, xm_2, al_60, xm_19, al_68, xm_4, al_61, xm_21, al_69, xm_6, al_63, xm_23, al_71, xm_5, al_62, xm_22, al_70, xm_8, al_64, xm_25, al_72, xm_9, al_65, (show (nI 7 < 7) = False by decide), i10, Bool.false_eq_true, eq_self, true_or, or_true, if_true, if_false, gv_int, gv_ref, av_some, al_some, un_int, un_ref, un_mk, ok4_0, ok4_1, ok4_2, ok4_3, ok4_4, Kn_some, Kn_none, true_and, and_true]
      exact hq M' hM
    · intro k hk ih M' hM j2
      have g1 : nI k < 7 := nI_lt (b := 7) hk (by decide)
      have g2 : vp_in (nI k) 7 := vp_in_nI hk (by decide)
      have e72 : M' 72 = M 72 := hM.2.1.cell (by omega) (by omega)
      have ih := ih _ (hM.s5 hk) j2
      rw [w_m_takeRead_142]
      by_cases q : k < N
      · have g3 : nI k < nI N := nI_lt q (by omega)
        rw [if_pos q] at ih
        simp only [w_m_takeRead_0, w_m_takeRead_1, w_m_takeRead_2, w_m_takeRead_5, w_m_takeRead_8, w_m_takeRead_9, w_m_takeRead_10, w_m_takeRead_13, w_m_takeRead_16, w_m_takeRead_17, w_m_takeRead_18, w_m_takeRead_21, w_m_takeRead_24, w_m_takeRead_25, w_m_takeRead_27, w_m_takeRead_28, w_m_takeRead_31, w_m_takeRead_34, w_m_takeRead_35, w_m_takeRead_38, w_m_takeRead_39, w_m_takeRead_40, w_m_takeRead_43, w_m_takeRead_44, w_m_takeRead_45, w_m_takeRead_46, w_m_takeRead_47, w_m_takeRead_50, w_m_takeRead_51, w_m_takeRead_52, w_m_takeRead_55, w_m_takeRead_56, w_m_takeRead_57, w_m_takeRead_58, w_m_takeRead_61, w_m_takeRead_64, w_m_takeRead_65, w_m_takeRead_67, w_m_takeRead_68, w_m_takeRead_71, w_m_takeRead_74, w_m_takeRead_75, w_m_takeRead_78, w_m_takeRead_79, w_m_takeRead_80, w_m_takeRead_83, w_m_takeRead_84, w_m_takeRead_85, w_m_takeRead_86, w_m_takeRead_87, w_m_takeRead_90, w_m_takeRead_91, w_m_takeRead_92, w_m_takeRead_95, w_m_takeRead_96, w_m_takeRead_97, w_m_takeRead_98, w_m_takeRead_99, w_m_takeRead_101, w_m_takeRead_102, w_m_takeRead_105, w_m_takeRead_108, w_m_takeRead_109, w_m_takeRead_112, w_m_takeRead_113, w_m_takeRead_114, w_m_takeRead_115, w_m_takeRead_116, w_m_takeRead_117, w_m_takeRead_118, w_m_takeRead_121, w_m_takeRead_122, w_m_takeRead_123, w_m_takeRead_124, w_m_takeRead_125, w_m_takeRead_126, w_m_takeRead_127, w_m_takeRead_128, w_m_takeRead_131, w_m_takeRead_134, w_m_takeRead_137, w_m_takeRead_140, w_m_takeRead_141, w_m_takeRead_143, w_m_takeRead_145, w_m_takeRead_148, w_m_takeRead_149, w_m_takeRead_152, w_m_takeRead_153, w_m_takeRead_154, w_m_takeRead_155, w_m_takeRead_158, w_m_takeRead_161, w_m_takeRead_162, w_m_takeRead_165, w_m_takeRead_166, w_m_takeRead_167, w_m_takeRead_170, w_m_takeRead_171, w_m_takeRead_172, w_m_takeRead_173, w_m_takeRead_176, w_m_takeRead_177, w_m_takeRead_178, w_m_takeRead_179, w_m_takeRead_182, w_m_takeRead_185, xm_17, xm_0, xm_20, xm_3, xm_24, xm_7, xm_1, al_59, xm_18, al_67, xm_2, al_60, xm_19, al_68, xm_4, al_61, xm_21, al_69, xm_6, al_63, xm_23, al_71, xm_5, al_62, xm_22, al_70, xm_8, al_64, xm_25, al_72, xm_9, al_65, g1, g2, g3, hM.1.2.2, nI_clamp (show k < 2 ^ 31 by omega), e72, nI_1, i10, Bool.false_eq_true, eq_self, true_or, or_true, if_true, if_false, gv_int, gv_ref, av_some, al_some, un_int, un_ref, un_mk, ok4_0, ok4_1, ok4_2, ok4_3, ok4_4, Kn_some, Kn_none, true_and, and_true]
        exact ih
      · have g3 : (nI k < nI N) = False := eq_false (nI_nlt (by omega) (by omega))
        rw [if_neg q] at ih
        simp only [w_m_takeRead_0, w_m_takeRead_1, w_m_takeRead_2, w_m_takeRead_5, w_m_takeRead_8, w_m_takeRead_9, w_m_takeRead_10, w_m_takeRead_13, w_m_takeRead_16, w_m_takeRead_17, w_m_takeRead_18, w_m_takeRead_21, w_m_takeRead_24, w_m_takeRead_25, w_m_takeRead_27, w_m_takeRead_28, w_m_takeRead_31, w_m_takeRead_34, w_m_takeRead_35, w_m_takeRead_38, w_m_takeRead_39, w_m_takeRead_40, w_m_takeRead_43, w_m_takeRead_44, w_m_takeRead_45, w_m_takeRead_46, w_m_takeRead_47, w_m_takeRead_50, w_m_takeRead_51, w_m_takeRead_52, w_m_takeRead_55, w_m_takeRead_56, w_m_takeRead_57, w_m_takeRead_58, w_m_takeRead_61, w_m_takeRead_64, w_m_takeRead_65, w_m_takeRead_67, w_m_takeRead_68, w_m_takeRead_71, w_m_takeRead_74, w_m_takeRead_75, w_m_takeRead_78, w_m_takeRead_79, w_m_takeRead_80, w_m_takeRead_83, w_m_takeRead_84, w_m_takeRead_85, w_m_takeRead_86, w_m_takeRead_87, w_m_takeRead_90, w_m_takeRead_91, w_m_takeRead_92, w_m_takeRead_95, w_m_takeRead_96, w_m_takeRead_97, w_m_takeRead_98, w_m_takeRead_99, w_m_takeRead_101, w_m_takeRead_102, w_m_takeRead_105, w_m_takeRead_108, w_m_takeRead_109, w_m_takeRead_112, w_m_takeRead_113, w_m_takeRead_114, w_m_takeRead_115, w_m_takeRead_116, w_m_takeRead_117, w_m_takeRead_118, w_m_takeRead_121, w_m_takeRead_122, w_m_takeRead_123, w_m_takeRead_124, w_m_takeRead_125, w_m_takeRead_126, w_m_takeRead_127, w_m_takeRead_128, w_m_takeRead_131, w_m_takeRead_134, w_m_takeRead_137, w_m_takeRead_140, w_m_takeRead_141, w_m_takeRead_143, w_m_takeRead_145, w_m_takeRead_148, w_m_takeRead_149, w_m_takeRead_152, w_m_takeRead_153, w_m_takeRead_154, w_m_takeRead_155, w_m_takeRead_158, w_m_takeRead_161, w_m_takeRead_162, w_m_takeRead_165, w_m_takeRead_166, w_m_takeRead_167, w_m_takeRead_170, w_m_takeRead_171, w_m_takeRead_172, w_m_takeRead_173, w_m_takeRead_176, w_m_takeRead_177, w_m_takeRead_178, w_m_takeRead_179, w_m_takeRead_182, w_m_takeRead_185, xm_17, xm_0, xm_20, xm_3, xm_24, xm_7, xm_1, al_59, xm_18, al_67, xm_2, al_60, xm_19, al_68, xm_4, al_61, xm_21, al_69, xm_6, al_63, xm_23, al_71, xm_5, al_62, xm_22, al_70, xm_8, al_64, xm_25, al_72, xm_9, al_65, g1, g2, g3, hM.1.2.2, nI_clamp (show k < 2 ^ 31 by omega), e72, nI_1, i10, Bool.false_eq_true, eq_self, true_or, or_true, if_true, if_false, gv_int, gv_ref, av_some, al_some, un_int, un_ref, un_mk, ok4_0, ok4_1, ok4_2, ok4_3, ok4_4, Kn_some, Kn_none, true_and, and_true]
        exact ih
  have two : ∀ M', PJ M M' K C N K 0 0 0 0 → ∀ j2, WP 159 66 [.ref 58, .int 0, j2] [] (shw A B) (0, 0) M' Q := by
    intro M' hM j2
    refine for_up (n := C) (P := fun k => ∀ M', PJ M M' K C N K k k 0 0 → ∀ j2, WP 159 66 [.ref 58, .int (nI k), j2] [] (shw A B) (0, 0) M' Q) ?_ ?_ M' hM j2
    · intro M' hM j2
      rw [w_m_takeRead_66]
      simp only [w_m_takeRead_0, w_m_takeRead_1, w_m_takeRead_2, w_m_takeRead_5, w_m_takeRead_8, w_m_takeRead_9, w_m_takeRead_10, w_m_takeRead_13, w_m_takeRead_16, w_m_takeRead_17, w_m_takeRead_18, w_m_takeRead_21, w_m_takeRead_24, w_m_takeRead_25, w_m_takeRead_27, w_m_takeRead_28, w_m_takeRead_31, w_m_takeRead_34, w_m_takeRead_35, w_m_takeRead_38, w_m_takeRead_39, w_m_takeRead_40, w_m_takeRead_43, w_m_takeRead_44, w_m_takeRead_45, w_m_takeRead_46, w_m_takeRead_47, w_m_takeRead_50, w_m_takeRead_51, w_m_takeRead_52, w_m_takeRead_55, w_m_takeRead_56, w_m_takeRead_57, w_m_takeRead_58, w_m_takeRead_61, w_m_takeRead_64, w_m_takeRead_65, w_m_takeRead_67, w_m_takeRead_68, w_m_takeRead_71, w_m_takeRead_74, w_m_takeRead_75, w_m_takeRead_78, w_m_takeRead_79, w_m_takeRead_80, w_m_takeRead_83, w_m_takeRead_84, w_m_takeRead_85, w_m_takeRead_86, w_m_takeRead_87, w_m_takeRead_90, w_m_takeRead_91, w_m_takeRead_92, w_m_takeRead_95, w_m_takeRead_96, w_m_takeRead_97, w_m_takeRead_98, w_m_takeRead_99, w_m_takeRead_101, w_m_takeRead_102, w_m_takeRead_105, w_m_takeRead_108, w_m_takeRead_109, w_m_takeRead_112, w_m_takeRead_113, w_m_takeRead_114, w_m_takeRead_115, w_m_takeRead_116, w_m_takeRead_117, w_m_takeRead_118, w_m_takeRead_121, w_m_takeRead_122, w_m_takeRead_123, w_m_takeRead_124, w_m_takeRead_125, w_m_takeRead_126, w_m_takeRead_127, w_m_takeRead_128, w_m_takeRead_131, w_m_takeRead_134, w_m_takeRead_137, w_m_takeRead_140, w_m_takeRead_141, w_m_takeRead_143, w_m_takeRead_145, w_m_takeRead_148, w_m_takeRead_149, w_m_takeRead_152, w_m_takeRead_153, w_m_takeRead_154, w_m_takeRead_155, w_m_takeRead_158, w_m_takeRead_161, w_m_takeRead_162, w_m_takeRead_165, w_m_takeRead_166, w_m_takeRead_167, w_m_takeRead_170, w_m_takeRead_171, w_m_takeRead_172, w_m_takeRead_173, w_m_takeRead_176, w_m_takeRead_177, w_m_takeRead_178, w_m_takeRead_179, w_m_takeRead_182, w_m_takeRead_185, xm_17, xm_0, xm_20, xm_3, xm_24, xm_7, xm_1, al_59, xm_18, al_67, xm_2, al_60, xm_19, al_68, xm_4, al_61, xm_21, al_69, xm_6, al_63, xm_23, al_71, xm_5, al_62, xm_22, al_70, xm_8, al_64, xm_25, al_72, xm_9, al_65, hM.1.2.1, lt_irr, i10, Bool.false_eq_true, eq_self, true_or, or_true, if_true, if_false, gv_int, gv_ref, av_some, al_some, un_int, un_ref, un_mk, ok4_0, ok4_1, ok4_2, ok4_3, ok4_4, Kn_some, Kn_none, true_and, and_true]
      exact three M' hM j2
    · intro i hi ih M' hM j2
      have g1 : nI i < nI C := nI_lt hi (by omega)
      have g2 : vp_in (nI i) 4 := vp_in_nI (by omega) (by decide)
      rw [w_m_takeRead_66]
      simp only [w_m_takeRead_0, w_m_takeRead_1, w_m_takeRead_2, w_m_takeRead_5, w_m_takeRead_8, w_m_takeRead_9, w_m_takeRead_10, w_m_takeRead_13, w_m_takeRead_16, w_m_takeRead_17, w_m_takeRead_18, w_m_takeRead_21, w_m_takeRead_24, w_m_takeRead_25, w_m_takeRead_27, w_m_takeRead_28, w_m_takeRead_31, w_m_takeRead_34, w_m_takeRead_35, w_m_takeRead_38, w_m_takeRead_39, w_m_takeRead_40, w_m_takeRead_43, w_m_takeRead_44, w_m_takeRead_45, w_m_takeRead_46, w_m_takeRead_47, w_m_takeRead_50, w_m_takeRead_51, w_m_takeRead_52, w_m_takeRead_55, w_m_takeRead_56, w_m_takeRead_57, w_m_takeRead_58, w_m_takeRead_61, w_m_takeRead_64, w_m_takeRead_65, w_m_takeRead_67, w_m_takeRead_68, w_m_takeRead_71, w_m_takeRead_74, w_m_takeRead_75, w_m_takeRead_78, w_m_takeRead_79, w_m_takeRead_80, w_m_takeRead_83, w_m_takeRead_84, w_m_takeRead_85, w_m_takeRead_86, w_m_takeRead_87, w_m_takeRead_90, w_m_takeRead_91, w_m_takeRead_92, w_m_takeRead_95, w_m_takeRead_96, w_m_takeRead_97, w_m_takeRead_98, w_m_takeRead_99, w_m_takeRead_101, w_m_takeRead_102, w_m_takeRead_105, w_m_takeRead_108, w_m_takeRead_109, w_m_takeRead_112, w_m_takeRead_113, w_m_takeRead_114, w_m_takeRead_115, w_m_takeRead_116, w_m_takeRead_117, w_m_takeRead_118, w_m_takeRead_121, w_m_takeRead_122, w_m_takeRead_123, w_m_takeRead_124, w_m_takeRead_125, w_m_takeRead_126, w_m_takeRead_127, w_m_takeRead_128, w_m_takeRead_131, w_m_takeRead_134, w_m_takeRead_137, w_m_takeRead_140, w_m_takeRead_141, w_m_takeRead_143, w_m_takeRead_145, w_m_takeRead_148, w_m_takeRead_149, w_m_takeRead_152, w_m_takeRead_153, w_m_takeRead_154, w_m_takeRead_155, w_m_takeRead_158, w_m_takeRead_161, w_m_takeRead_162, w_m_takeRead_165, w_m_takeRead_166, w_m_takeRead_167, w_m_takeRead_170, w_m_takeRead_171, w_m_takeRead_172, w_m_takeRead_173, w_m_takeRead_176, w_m_takeRead_177, w_m_takeRead_178, w_m_takeRead_179, w_m_takeRead_182, w_m_takeRead_185, xm_17, xm_0, xm_20, xm_3, xm_24, xm_7, xm_1, al_59, xm_18, al_67, xm_2, al_60, xm_19, al_68, xm_4, al_61, xm_21, al_69, xm_6, al_63, xm_23, al_71, xm_5, al_62, xm_22, al_70, xm_8, al_64, xm_25, al_72, xm_9, al_65, hM.1.2.1, g1, g2, nI_clamp (show i < 2 ^ 31 by omega), i10, Bool.false_eq_true, eq_self, true_or, or_true, if_true, if_false, gv_int, gv_ref, av_some, al_some, un_int, un_ref, un_mk, ok4_0, ok4_1, ok4_2, ok4_3, ok4_4, Kn_some, Kn_none, true_and, and_true]
      refine for_up (n := K) (P := fun k => ∀ M', PJ M M' K C N K (i + 1) i k 0 → WP 159 100 [.ref 58, .int (nI i), .int (nI k)] [] (shw A B) (0, 0) M' Q) ?_ ?_ _ hM.s2
      · intro M' hM
        rw [w_m_takeRead_100]
        simp only [w_m_takeRead_0, w_m_takeRead_1, w_m_takeRead_2, w_m_takeRead_5, w_m_takeRead_8, w_m_takeRead_9, w_m_takeRead_10, w_m_takeRead_13, w_m_takeRead_16, w_m_takeRead_17, w_m_takeRead_18, w_m_takeRead_21, w_m_takeRead_24, w_m_takeRead_25, w_m_takeRead_27, w_m_takeRead_28, w_m_takeRead_31, w_m_takeRead_34, w_m_takeRead_35, w_m_takeRead_38, w_m_takeRead_39, w_m_takeRead_40, w_m_takeRead_43, w_m_takeRead_44, w_m_takeRead_45, w_m_takeRead_46, w_m_takeRead_47, w_m_takeRead_50, w_m_takeRead_51, w_m_takeRead_52, w_m_takeRead_55, w_m_takeRead_56, w_m_takeRead_57, w_m_takeRead_58, w_m_takeRead_61, w_m_takeRead_64, w_m_takeRead_65, w_m_takeRead_67, w_m_takeRead_68, w_m_takeRead_71, w_m_takeRead_74, w_m_takeRead_75, w_m_takeRead_78, w_m_takeRead_79, w_m_takeRead_80, w_m_takeRead_83, w_m_takeRead_84, w_m_takeRead_85, w_m_takeRead_86, w_m_takeRead_87, w_m_takeRead_90, w_m_takeRead_91, w_m_takeRead_92, w_m_takeRead_95, w_m_takeRead_96, w_m_takeRead_97, w_m_takeRead_98, w_m_takeRead_99, w_m_takeRead_101, w_m_takeRead_102, w_m_takeRead_105, w_m_takeRead_108, w_m_takeRead_109, w_m_takeRead_112, w_m_takeRead_113, w_m_takeRead_114, w_m_takeRead_115, w_m_takeRead_116, w_m_takeRead_117, w_m_takeRead_118, w_m_takeRead_121, w_m_takeRead_122, w_m_takeRead_123, w_m_takeRead_124, w_m_takeRead_125, w_m_takeRead_126, w_m_takeRead_127, w_m_takeRead_128, w_m_takeRead_131, w_m_takeRead_134, w_m_takeRead_137, w_m_takeRead_140, w_m_takeRead_141, w_m_takeRead_143, w_m_takeRead_145, w_m_takeRead_148, w_m_takeRead_149, w_m_takeRead_152, w_m_takeRead_153, w_m_takeRead_154, w_m_takeRead_155, w_m_takeRead_158, w_m_takeRead_161, w_m_takeRead_162, w_m_takeRead_165, w_m_takeRead_166, w_m_takeRead_167, w_m_takeRead_170, w_m_takeRead_171, w_m_takeRead_172, w_m_takeRead_173, w_m_takeRead_176, w_m_takeRead_177, w_m_takeRead_178, w_m_takeRead_179, w_m_takeRead_182, w_m_takeRead_185, xm_17, xm_0, xm_20, xm_3, xm_24, xm_7, xm_1, al_59, xm_18, al_67, xm_2, al_60, xm_19, al_68, xm_4, al_61, xm_21, al_69, xm_6, al_63, xm_23, al_71, xm_5, al_62, xm_22, al_70, xm_8, al_64, xm_25, al_72, xm_9, al_65, hM.1.1, lt_irr, nI_1, i10, Bool.false_eq_true, eq_self, true_or, or_true, if_true, if_false, gv_int, gv_ref, av_some, al_some, un_int, un_ref, un_mk, ok4_0, ok4_1, ok4_2, ok4_3, ok4_4, Kn_some, Kn_none, true_and, and_true]
        exact ih M' hM.s4 _
      · intro k hk ih2 M' hM
        have g3 : nI k < nI K := nI_lt hk (by omega)
        have g4 : vp_in (nI (5 * i + k)) 20 := vp_in_nI (by omega) (by decide)
        have e5 : 5 * nI i + nI k = nI (5 * i + k) := by rw [show (5 : Int32) = nI 5 from rfl, pk_mul, nI_add]
        rw [w_m_takeRead_100]
        simp only [w_m_takeRead_0, w_m_takeRead_1, w_m_takeRead_2, w_m_takeRead_5, w_m_takeRead_8, w_m_takeRead_9, w_m_takeRead_10, w_m_takeRead_13, w_m_takeRead_16, w_m_takeRead_17, w_m_takeRead_18, w_m_takeRead_21, w_m_takeRead_24, w_m_takeRead_25, w_m_takeRead_27, w_m_takeRead_28, w_m_takeRead_31, w_m_takeRead_34, w_m_takeRead_35, w_m_takeRead_38, w_m_takeRead_39, w_m_takeRead_40, w_m_takeRead_43, w_m_takeRead_44, w_m_takeRead_45, w_m_takeRead_46, w_m_takeRead_47, w_m_takeRead_50, w_m_takeRead_51, w_m_takeRead_52, w_m_takeRead_55, w_m_takeRead_56, w_m_takeRead_57, w_m_takeRead_58, w_m_takeRead_61, w_m_takeRead_64, w_m_takeRead_65, w_m_takeRead_67, w_m_takeRead_68, w_m_takeRead_71, w_m_takeRead_74, w_m_takeRead_75, w_m_takeRead_78, w_m_takeRead_79, w_m_takeRead_80, w_m_takeRead_83, w_m_takeRead_84, w_m_takeRead_85, w_m_takeRead_86, w_m_takeRead_87, w_m_takeRead_90, w_m_takeRead_91, w_m_takeRead_92, w_m_takeRead_95, w_m_takeRead_96, w_m_takeRead_97, w_m_takeRead_98, w_m_takeRead_99, w_m_takeRead_101, w_m_takeRead_102, w_m_takeRead_105, w_m_takeRead_108, w_m_takeRead_109, w_m_takeRead_112, w_m_takeRead_113, w_m_takeRead_114, w_m_takeRead_115, w_m_takeRead_116, w_m_takeRead_117, w_m_takeRead_118, w_m_takeRead_121, w_m_takeRead_122, w_m_takeRead_123, w_m_takeRead_124, w_m_takeRead_125, w_m_takeRead_126, w_m_takeRead_127, w_m_takeRead_128, w_m_takeRead_131, w_m_takeRead_134, w_m_takeRead_137, w_m_takeRead_140, w_m_takeRead_141, w_m_takeRead_143, w_m_takeRead_145, w_m_takeRead_148, w_m_takeRead_149, w_m_takeRead_152, w_m_takeRead_153, w_m_takeRead_154, w_m_takeRead_155, w_m_takeRead_158, w_m_takeRead_161, w_m_takeRead_162, w_m_takeRead_165, w_m_takeRead_166, w_m_takeRead_167, w_m_takeRead_170, w_m_takeRead_171, w_m_takeRead_172, w_m_takeRead_173, w_m_takeRead_176, w_m_takeRead_177, w_m_takeRead_178, w_m_takeRead_179, w_m_takeRead_182, w_m_takeRead_185, xm_17, xm_0, xm_20, xm_3, xm_24, xm_7, xm_1, al_59, xm_18, al_67, xm_2, al_60, xm_19, al_68, xm_4, al_61, xm_21, al_69, xm_6, al_63, xm_23, al_71, xm_5, al_62, xm_22, al_70, xm_8, al_64, xm_25, al_72, xm_9, al_65, hM.1.1, g3, e5, g4, nI_clamp (show 5 * i + k < 2 ^ 31 by omega), nI_1, i10, Bool.false_eq_true, eq_self, true_or, or_true, if_true, if_false, gv_int, gv_ref, av_some, al_some, un_int, un_ref, un_mk, ok4_0, ok4_1, ok4_2, ok4_3, ok4_4, Kn_some, Kn_none, true_and, and_true]
        exact ih2 _ hM.s3
  have st0 : PJ M (up (up (up M 58 0 (nI K)) 58 3 (nI C)) 58 7 (nI N)) K C N 0 0 0 0 0 := by
    refine ⟨⟨rfl, rfl, rfl⟩, ?_, fun i hi => absurd hi (Nat.not_lt_zero _), fun i hi => absurd hi (Nat.not_lt_zero _), fun i k hi => absurd hi (Nat.not_lt_zero _), fun i hi => absurd hi (Nat.not_lt_zero _), fun i hi => absurd hi (Nat.not_lt_zero _)⟩
    intro c j hc _ _
    rw [up_at]
    by_cases q : c = 58
    · have := hc q
      rw [if_pos q, if_neg (by omega), up_at, if_pos rfl, if_neg (by omega), up_at, if_pos rfl, if_neg (by omega), q]
    · rw [if_neg q, up_at, if_neg q, up_at, if_neg q]
  simp only [w_m_takeRead_0, w_m_takeRead_1, w_m_takeRead_2, w_m_takeRead_5, w_m_takeRead_8, w_m_takeRead_9, w_m_takeRead_10, w_m_takeRead_13, w_m_takeRead_16, w_m_takeRead_17, w_m_takeRead_18, w_m_takeRead_21, w_m_takeRead_24, w_m_takeRead_25, w_m_takeRead_27, w_m_takeRead_28, w_m_takeRead_31, w_m_takeRead_34, w_m_takeRead_35, w_m_takeRead_38, w_m_takeRead_39, w_m_takeRead_40, w_m_takeRead_43, w_m_takeRead_44, w_m_takeRead_45, w_m_takeRead_46, w_m_takeRead_47, w_m_takeRead_50, w_m_takeRead_51, w_m_takeRead_52, w_m_takeRead_55, w_m_takeRead_56, w_m_takeRead_57, w_m_takeRead_58, w_m_takeRead_61, w_m_takeRead_64, w_m_takeRead_65, w_m_takeRead_67, w_m_takeRead_68, w_m_takeRead_71, w_m_takeRead_74, w_m_takeRead_75, w_m_takeRead_78, w_m_takeRead_79, w_m_takeRead_80, w_m_takeRead_83, w_m_takeRead_84, w_m_takeRead_85, w_m_takeRead_86, w_m_takeRead_87, w_m_takeRead_90, w_m_takeRead_91, w_m_takeRead_92, w_m_takeRead_95, w_m_takeRead_96, w_m_takeRead_97, w_m_takeRead_98, w_m_takeRead_99, w_m_takeRead_101, w_m_takeRead_102, w_m_takeRead_105, w_m_takeRead_108, w_m_takeRead_109, w_m_takeRead_112, w_m_takeRead_113, w_m_takeRead_114, w_m_takeRead_115, w_m_takeRead_116, w_m_takeRead_117, w_m_takeRead_118, w_m_takeRead_121, w_m_takeRead_122, w_m_takeRead_123, w_m_takeRead_124, w_m_takeRead_125, w_m_takeRead_126, w_m_takeRead_127, w_m_takeRead_128, w_m_takeRead_131, w_m_takeRead_134, w_m_takeRead_137, w_m_takeRead_140, w_m_takeRead_141, w_m_takeRead_143, w_m_takeRead_145, w_m_takeRead_148, w_m_takeRead_149, w_m_takeRead_152, w_m_takeRead_153, w_m_takeRead_154, w_m_takeRead_155, w_m_takeRead_158, w_m_takeRead_161, w_m_takeRead_162, w_m_takeRead_165, w_m_takeRead_166, w_m_takeRead_167, w_m_takeRead_170, w_m_takeRead_171, w_m_takeRead_172, w_m_takeRead_173, w_m_takeRead_176, w_m_takeRead_177, w_m_takeRead_178, w_m_takeRead_179, w_m_takeRead_182, w_m_takeRead_185, xm_17, xm_0, xm_20, xm_3, xm_24, xm_7, xm_1, al_59, xm_18, al_67, xm_2, al_60, xm_19, al_68, xm_4, al_61, xm_21, al_69, xm_6, al_63, xm_23, al_71, xm_5, al_62, xm_22, al_70, xm_8, al_64, xm_25, al_72, xm_9, al_65, h2, show ∀ x, up M 58 0 x 58 20 = nI C from fun _ => h3, show ∀ x y, up (up M 58 0 x) 58 3 y 58 24 = nI N from fun _ _ => h4, i10, Bool.false_eq_true, eq_self, true_or, or_true, if_true, if_false, gv_int, gv_ref, av_some, al_some, un_int, un_ref, un_mk, ok4_0, ok4_1, ok4_2, ok4_3, ok4_4, Kn_some, Kn_none, true_and, and_true]
  refine for_up (n := K) (P := fun k => ∀ M', PJ M M' K C N k 0 0 0 0 → ∀ j2, WP 159 26 [.ref 58, .int (nI k), j2] [] (shw A B) (0, 0) M' Q) ?_ ?_ _ st0 _
  · intro M' hM j2
    rw [w_m_takeRead_26]
    simp only [w_m_takeRead_0, w_m_takeRead_1, w_m_takeRead_2, w_m_takeRead_5, w_m_takeRead_8, w_m_takeRead_9, w_m_takeRead_10, w_m_takeRead_13, w_m_takeRead_16, w_m_takeRead_17, w_m_takeRead_18, w_m_takeRead_21, w_m_takeRead_24, w_m_takeRead_25, w_m_takeRead_27, w_m_takeRead_28, w_m_takeRead_31, w_m_takeRead_34, w_m_takeRead_35, w_m_takeRead_38, w_m_takeRead_39, w_m_takeRead_40, w_m_takeRead_43, w_m_takeRead_44, w_m_takeRead_45, w_m_takeRead_46, w_m_takeRead_47, w_m_takeRead_50, w_m_takeRead_51, w_m_takeRead_52, w_m_takeRead_55, w_m_takeRead_56, w_m_takeRead_57, w_m_takeRead_58, w_m_takeRead_61, w_m_takeRead_64, w_m_takeRead_65, w_m_takeRead_67, w_m_takeRead_68, w_m_takeRead_71, w_m_takeRead_74, w_m_takeRead_75, w_m_takeRead_78, w_m_takeRead_79, w_m_takeRead_80, w_m_takeRead_83, w_m_takeRead_84, w_m_takeRead_85, w_m_takeRead_86, w_m_takeRead_87, w_m_takeRead_90, w_m_takeRead_91, w_m_takeRead_92, w_m_takeRead_95, w_m_takeRead_96, w_m_takeRead_97, w_m_takeRead_98, w_m_takeRead_99, w_m_takeRead_101, w_m_takeRead_102, w_m_takeRead_105, w_m_takeRead_108, w_m_takeRead_109, w_m_takeRead_112, w_m_takeRead_113, w_m_takeRead_114, w_m_takeRead_115, w_m_takeRead_116, w_m_takeRead_117, w_m_takeRead_118, w_m_takeRead_121, w_m_takeRead_122, w_m_takeRead_123, w_m_takeRead_124, w_m_takeRead_125, w_m_takeRead_126, w_m_takeRead_127, w_m_takeRead_128, w_m_takeRead_131, w_m_takeRead_134, w_m_takeRead_137, w_m_takeRead_140, w_m_takeRead_141, w_m_takeRead_143, w_m_takeRead_145, w_m_takeRead_148, w_m_takeRead_149, w_m_takeRead_152, w_m_takeRead_153, w_m_takeRead_154, w_m_takeRead_155, w_m_takeRead_158, w_m_takeRead_161, w_m_takeRead_162, w_m_takeRead_165, w_m_takeRead_166, w_m_takeRead_167, w_m_takeRead_170, w_m_takeRead_171, w_m_takeRead_172, w_m_takeRead_173, w_m_takeRead_176, w_m_takeRead_177, w_m_takeRead_178, w_m_takeRead_179, w_m_takeRead_182, w_m_takeRead_185, xm_17, xm_0, xm_20, xm_3, xm_24, xm_7, xm_1, al_59, xm_18, al_67, xm_2, al_60, xm_19, al_68, xm_4, al_61, xm_21, al_69, xm_6, al_63, xm_23, al_71, xm_5, al_62, xm_22, al_70, xm_8, al_64, xm_25, al_72, xm_9, al_65, hM.1.1, lt_irr, i10, Bool.false_eq_true, eq_self, true_or, or_true, if_true, if_false, gv_int, gv_ref, av_some, al_some, un_int, un_ref, un_mk, ok4_0, ok4_1, ok4_2, ok4_3, ok4_4, Kn_some, Kn_none, true_and, and_true]
    exact two M' hM j2
  · intro k hk ih M' hM j2
    have g1 : nI k < nI K := nI_lt hk (by omega)
    have g2 : vp_in (nI k) 5 := vp_in_nI (by omega) (by decide)
    rw [w_m_takeRead_26]
    simp only [w_m_takeRead_0, w_m_takeRead_1, w_m_takeRead_2, w_m_takeRead_5, w_m_takeRead_8, w_m_takeRead_9, w_m_takeRead_10, w_m_takeRead_13, w_m_takeRead_16, w_m_takeRead_17, w_m_takeRead_18, w_m_takeRead_21, w_m_takeRead_24, w_m_takeRead_25, w_m_takeRead_27, w_m_takeRead_28, w_m_takeRead_31, w_m_takeRead_34, w_m_takeRead_35, w_m_takeRead_38, w_m_takeRead_39, w_m_takeRead_40, w_m_takeRead_43, w_m_takeRead_44, w_m_takeRead_45, w_m_takeRead_46, w_m_takeRead_47, w_m_takeRead_50, w_m_takeRead_51, w_m_takeRead_52, w_m_takeRead_55, w_m_takeRead_56, w_m_takeRead_57, w_m_takeRead_58, w_m_takeRead_61, w_m_takeRead_64, w_m_takeRead_65, w_m_takeRead_67, w_m_takeRead_68, w_m_takeRead_71, w_m_takeRead_74, w_m_takeRead_75, w_m_takeRead_78, w_m_takeRead_79, w_m_takeRead_80, w_m_takeRead_83, w_m_takeRead_84, w_m_takeRead_85, w_m_takeRead_86, w_m_takeRead_87, w_m_takeRead_90, w_m_takeRead_91, w_m_takeRead_92, w_m_takeRead_95, w_m_takeRead_96, w_m_takeRead_97, w_m_takeRead_98, w_m_takeRead_99, w_m_takeRead_101, w_m_takeRead_102, w_m_takeRead_105, w_m_takeRead_108, w_m_takeRead_109, w_m_takeRead_112, w_m_takeRead_113, w_m_takeRead_114, w_m_takeRead_115, w_m_takeRead_116, w_m_takeRead_117, w_m_takeRead_118, w_m_takeRead_121, w_m_takeRead_122, w_m_takeRead_123, w_m_takeRead_124, w_m_takeRead_125, w_m_takeRead_126, w_m_takeRead_127, w_m_takeRead_128, w_m_takeRead_131, w_m_takeRead_134, w_m_takeRead_137, w_m_takeRead_140, w_m_takeRead_141, w_m_takeRead_143, w_m_takeRead_145, w_m_takeRead_148, w_m_takeRead_149, w_m_takeRead_152, w_m_takeRead_153, w_m_takeRead_154, w_m_takeRead_155, w_m_takeRead_158, w_m_takeRead_161, w_m_takeRead_162, w_m_takeRead_165, w_m_takeRead_166, w_m_takeRead_167, w_m_takeRead_170, w_m_takeRead_171, w_m_takeRead_172, w_m_takeRead_173, w_m_takeRead_176, w_m_takeRead_177, w_m_takeRead_178, w_m_takeRead_179, w_m_takeRead_182, w_m_takeRead_185, xm_17, xm_0, xm_20, xm_3, xm_24, xm_7, xm_1, al_59, xm_18, al_67, xm_2, al_60, xm_19, al_68, xm_4, al_61, xm_21, al_69, xm_6, al_63, xm_23, al_71, xm_5, al_62, xm_22, al_70, xm_8, al_64, xm_25, al_72, xm_9, al_65, hM.1.1, g1, g2, nI_clamp (show k < 2 ^ 31 by omega), nI_1, i10, Bool.false_eq_true, eq_self, true_or, or_true, if_true, if_false, gv_int, gv_ref, av_some, al_some, un_int, un_ref, un_mk, ok4_0, ok4_1, ok4_2, ok4_3, ok4_4, Kn_some, Kn_none, true_and, and_true]
    exact ih _ hM.s1 j2
theorem r_party2 {A B : Nat} {M : Mm} {Q : Po} {tl : Nat} (ht : M 58 12 = nI tl) (htl : tl ≤ 240) (hl : ∀ i, i < tl → ¬ M 66 i < 0) {F0 : Mm} (hF0 : ∀ c, 67 ≤ c → c ≤ 72 → M c = F0 c) (hq : partyC (M 66) tl (fun e y => 0 < e → ∀ M', Fr M M' → M' 58 13 = nI y → Q (some (.int (-10 - e))) (shw A B) (up M' 58 12 0)) (fun K C N F => OF K C N F → ∀ M0 M2 p, Fr M M0 → RS M0 tl p K C N F → PJ (up M0 58 12 0) M2 K C N K C C 0 7 → Q (some (.int (nI C))) (shw A B) (PE M2)) (tl + 1) 0 0 0 0 F0) : WP 160 0 [.ref 58, mk] [] (shw A B) (0, 0) M Q := by
  have key : ∀ f p K C N F M', tl - p < f → RS M' tl p K C N F → OF K C N F → Fr M M' → partyC (M 66) tl (fun e y => 0 < e → ∀ M', Fr M M' → M' 58 13 = nI y → Q (some (.int (-10 - e))) (shw A B) (up M' 58 12 0)) (fun K C N F => OF K C N F → ∀ M0 M2 p, Fr M M0 → RS M0 tl p K C N F → PJ (up M0 58 12 0) M2 K C N K C C 0 7 → Q (some (.int (nI C))) (shw A B) (PE M2)) f p K C N F → WP 160 27 [.ref 58, .int 0] [] (shw A B) (0, 0) M' Q := by
    intro f
    induction f with
    | zero => intro p K C N F M' hf; omega
    | succ f ih =>
      intro p K C N F M' hf hR hO hF hp
      have hs := sk_le (tx := M 66) hR.1.2.2.2
      unfold partyC at hp
      have hRs : RS (up M' 58 14 (nI (sk (M 66) tl p))) tl (sk (M 66) tl p) K C N F := hR.fn (Fn.up (by omega)) (TX_at hR.1 hs.2)
      have hFs : Fr M (up M' 58 14 (nI (sk (M 66) tl p))) := hF.tr (Fr.up (Or.inr (by omega)))
      rw [w_m_party_27]
      by_cases q : sk (M 66) tl p < tl
      · rw [if_pos q] at hp
        have g : (lt (M 66) tl (sk (M 66) tl p) < 0) = False := by
          unfold lt; rw [if_pos q]; exact eq_false (hl _ q)
        simp only [w_m_party_0, w_m_party_1, w_m_party_2, w_m_party_5, w_m_party_6, w_m_party_7, w_m_party_10, w_m_party_11, w_m_party_12, w_m_party_15, w_m_party_16, w_m_party_17, w_m_party_20, w_m_party_21, w_m_party_22, w_m_party_25, w_m_party_26, w_m_party_28, w_m_party_31, w_m_party_32, w_m_party_35, w_m_party_38, w_m_party_39, w_m_party_42, w_m_party_43, w_m_party_47, w_m_party_48, w_m_party_51, w_m_party_52, w_m_party_55, w_m_party_57, w_m_party_58, w_m_party_59, w_m_party_60, w_m_party_61, w_m_party_64, w_m_party_65, w_m_party_66, w_m_party_69, w_m_party_70, w_m_party_71, w_m_party_74, w_m_party_75, w_m_party_76, w_m_party_79, w_m_party_80, w_m_party_83, w_m_party_84, w_m_party_85, w_m_party_86, w_m_party_87, w_m_party_90, w_m_party_91, w_m_party_92, w_m_party_93, w_m_party_94, w_m_party_97, xm_13, xm_14, xm_17, xm_20, xm_24, cl_58, xm_12, xm_30, xm_37, xm_26, xm_41, al_84, xm_3, e_m_here hR.1, hF.text, g, cl_58, i10, Bool.false_eq_true, eq_self, true_or, or_true, if_true, if_false, gv_int, gv_ref, av_some, al_some, un_int, un_ref, un_mk, ok4_0, ok4_1, ok4_2, ok4_3, ok4_4, Kn_some, Kn_none, true_and, and_true]
        refine r_takeClause hRs hO.1.1 hO.1.2.1 hO.1.2.2 ?_
        rw [hFs.text, clauseC_sk hR.1.2.2.2]
        refine clauseC_mono ?_ ?_ (clauseC_str hR.1.2.2.2 hO hp)
        · intro e y hb he M1 hF1 hy
          have he0 : (e = 0) = False := eq_false (fun q => by rw [q] at he; exact absurd he (by decide))
          simp only [w_m_party_0, w_m_party_1, w_m_party_2, w_m_party_5, w_m_party_6, w_m_party_7, w_m_party_10, w_m_party_11, w_m_party_12, w_m_party_15, w_m_party_16, w_m_party_17, w_m_party_20, w_m_party_21, w_m_party_22, w_m_party_25, w_m_party_26, w_m_party_28, w_m_party_31, w_m_party_32, w_m_party_35, w_m_party_38, w_m_party_39, w_m_party_42, w_m_party_43, w_m_party_46, w_m_party_47, w_m_party_48, w_m_party_51, w_m_party_52, w_m_party_55, w_m_party_57, w_m_party_58, w_m_party_59, w_m_party_60, w_m_party_61, w_m_party_64, w_m_party_65, w_m_party_66, w_m_party_69, w_m_party_70, w_m_party_71, w_m_party_74, w_m_party_75, w_m_party_76, w_m_party_79, w_m_party_80, w_m_party_83, w_m_party_84, w_m_party_85, w_m_party_86, w_m_party_87, w_m_party_90, w_m_party_91, w_m_party_92, w_m_party_93, w_m_party_94, w_m_party_97, xm_13, xm_14, xm_17, xm_20, xm_24, cl_58, xm_12, xm_30, xm_37, xm_26, xm_41, al_84, xm_3, i10, Bool.false_eq_true, eq_self, true_or, or_true, if_true, if_false, gv_int, gv_ref, av_some, al_some, un_int, un_ref, un_mk, ok4_0, ok4_1, ok4_2, ok4_3, ok4_4, Kn_some, Kn_none, true_and, and_true]
          rw [w_m_party_27]
          simp only [w_m_party_0, w_m_party_1, w_m_party_2, w_m_party_5, w_m_party_6, w_m_party_7, w_m_party_10, w_m_party_11, w_m_party_12, w_m_party_15, w_m_party_16, w_m_party_17, w_m_party_20, w_m_party_21, w_m_party_22, w_m_party_25, w_m_party_26, w_m_party_28, w_m_party_31, w_m_party_32, w_m_party_35, w_m_party_38, w_m_party_39, w_m_party_42, w_m_party_43, w_m_party_46, w_m_party_47, w_m_party_48, w_m_party_51, w_m_party_52, w_m_party_55, w_m_party_57, w_m_party_58, w_m_party_59, w_m_party_60, w_m_party_61, w_m_party_64, w_m_party_65, w_m_party_66, w_m_party_69, w_m_party_70, w_m_party_71, w_m_party_74, w_m_party_75, w_m_party_76, w_m_party_79, w_m_party_80, w_m_party_83, w_m_party_84, w_m_party_85, w_m_party_86, w_m_party_87, w_m_party_90, w_m_party_91, w_m_party_92, w_m_party_93, w_m_party_94, w_m_party_97, xm_13, xm_14, xm_17, xm_20, xm_24, cl_58, xm_12, xm_30, xm_37, xm_26, xm_41, al_84, xm_3, he0, eq_true he, i10, Bool.false_eq_true, eq_self, true_or, or_true, if_true, if_false, gv_int, gv_ref, av_some, al_some, un_int, un_ref, un_mk, ok4_0, ok4_1, ok4_2, ok4_3, ok4_4, Kn_some, Kn_none, true_and, and_true]
          exact hb he M1 (hFs.tr hF1) hy
        · intro r K1 C1 N1 F1 hg M1 hF1 hR1
          simp only [w_m_party_0, w_m_party_1, w_m_party_2, w_m_party_5, w_m_party_6, w_m_party_7, w_m_party_10, w_m_party_11, w_m_party_12, w_m_party_15, w_m_party_16, w_m_party_17, w_m_party_20, w_m_party_21, w_m_party_22, w_m_party_25, w_m_party_26, w_m_party_28, w_m_party_31, w_m_party_32, w_m_party_35, w_m_party_38, w_m_party_39, w_m_party_42, w_m_party_43, w_m_party_46, w_m_party_47, w_m_party_48, w_m_party_51, w_m_party_52, w_m_party_55, w_m_party_57, w_m_party_58, w_m_party_59, w_m_party_60, w_m_party_61, w_m_party_64, w_m_party_65, w_m_party_66, w_m_party_69, w_m_party_70, w_m_party_71, w_m_party_74, w_m_party_75, w_m_party_76, w_m_party_79, w_m_party_80, w_m_party_83, w_m_party_84, w_m_party_85, w_m_party_86, w_m_party_87, w_m_party_90, w_m_party_91, w_m_party_92, w_m_party_93, w_m_party_94, w_m_party_97, xm_13, xm_14, xm_17, xm_20, xm_24, cl_58, xm_12, xm_30, xm_37, xm_26, xm_41, al_84, xm_3, i10, Bool.false_eq_true, eq_self, true_or, or_true, if_true, if_false, gv_int, gv_ref, av_some, al_some, un_int, un_ref, un_mk, ok4_0, ok4_1, ok4_2, ok4_3, ok4_4, Kn_some, Kn_none, true_and, and_true]
          exact ih r K1 C1 N1 F1 M1 (by omega) hR1 hg.1.2.2 (hFs.tr hF1) hg.2
      · rw [if_neg q] at hp
        have g : (lt (M 66) tl (sk (M 66) tl p) < 0) = True := by
          unfold lt; rw [if_neg q]; decide
        simp only [w_m_party_0, w_m_party_1, w_m_party_2, w_m_party_5, w_m_party_6, w_m_party_7, w_m_party_10, w_m_party_11, w_m_party_12, w_m_party_15, w_m_party_16, w_m_party_17, w_m_party_20, w_m_party_21, w_m_party_22, w_m_party_25, w_m_party_26, w_m_party_28, w_m_party_31, w_m_party_32, w_m_party_35, w_m_party_38, w_m_party_39, w_m_party_42, w_m_party_43, w_m_party_46, w_m_party_47, w_m_party_48, w_m_party_51, w_m_party_52, w_m_party_55, w_m_party_57, w_m_party_58, w_m_party_59, w_m_party_60, w_m_party_61, w_m_party_64, w_m_party_65, w_m_party_66, w_m_party_69, w_m_party_70, w_m_party_71, w_m_party_74, w_m_party_75, w_m_party_76, w_m_party_79, w_m_party_80, w_m_party_83, w_m_party_84, w_m_party_85, w_m_party_86, w_m_party_87, w_m_party_90, w_m_party_91, w_m_party_92, w_m_party_93, w_m_party_94, w_m_party_97, xm_13, xm_14, xm_17, xm_20, xm_24, cl_58, xm_12, xm_30, xm_37, xm_26, xm_41, al_84, xm_3, e_m_here hR.1, hF.text, g, show ((0 : Int32) < 0) = False by decide, cl_58, i10, Bool.false_eq_true, eq_self, true_or, or_true, if_true, if_false, gv_int, gv_ref, av_some, al_some, un_int, un_ref, un_mk, ok4_0, ok4_1, ok4_2, ok4_3, ok4_4, Kn_some, Kn_none, true_and, and_true]
        generalize hM0 : up M' 58 14 (nI (sk (M 66) tl p)) = M0 at hRs hFs ⊢
        refine r_takeRead2 hRs.2.1 hRs.2.2.1 hRs.2.2.2.1 hO.1.1 hO.1.2.1 hO.1.2.2 (fun M2 hP => ?_)
        have h84 : ∀ x : Nat, x < 2 → vp_in (nI x) 2 := fun x hx => vp_in_nI hx (by decide)
        have i0 : vp_in (0 : Int32) 2 := h84 0 (by decide)
        have i1 : vp_in (1 : Int32) 2 := h84 1 (by decide)
        simp only [w_m_party_0, w_m_party_1, w_m_party_2, w_m_party_5, w_m_party_6, w_m_party_7, w_m_party_10, w_m_party_11, w_m_party_12, w_m_party_15, w_m_party_16, w_m_party_17, w_m_party_20, w_m_party_21, w_m_party_22, w_m_party_25, w_m_party_26, w_m_party_28, w_m_party_31, w_m_party_32, w_m_party_35, w_m_party_38, w_m_party_39, w_m_party_42, w_m_party_43, w_m_party_46, w_m_party_47, w_m_party_48, w_m_party_51, w_m_party_52, w_m_party_55, w_m_party_57, w_m_party_58, w_m_party_59, w_m_party_60, w_m_party_61, w_m_party_64, w_m_party_65, w_m_party_66, w_m_party_69, w_m_party_70, w_m_party_71, w_m_party_74, w_m_party_75, w_m_party_76, w_m_party_79, w_m_party_80, w_m_party_83, w_m_party_84, w_m_party_85, w_m_party_86, w_m_party_87, w_m_party_90, w_m_party_91, w_m_party_92, w_m_party_93, w_m_party_94, w_m_party_97, xm_13, xm_14, xm_17, xm_20, xm_24, cl_58, xm_12, xm_30, xm_37, xm_26, xm_41, al_84, xm_3, i0, i1, show ∀ X : Mm, up (up (up (up (up X 58 30 0) 58 37 0) 58 26 0) 84 0 0) 84 1 0 58 3 = X 58 3 from fun _ => rfl, hP.1.2.1, show ((0 : Int32).toNatClampNeg) = 0 by decide, show ((1 : Int32).toNatClampNeg) = 1 by decide, i10, Bool.false_eq_true, eq_self, true_or, or_true, if_true, if_false, gv_int, gv_ref, av_some, al_some, un_int, un_ref, un_mk, ok4_0, ok4_1, ok4_2, ok4_3, ok4_4, Kn_some, Kn_none, true_and, and_true]
        exact hp hO M0 M2 _ hFs hRs hP
  have hR0 : RS (up (up (up (up (up M 58 13 (-1)) 58 14 0) 58 17 0) 58 20 0) 58 24 0) tl 0 0 0 0 F0 := ⟨⟨ht, ⟨rfl, rfl⟩, htl, Nat.zero_le _⟩, rfl, rfl, rfl, fun c c1 c2 => by simp only [up_c]; rw [if_neg (by omega), if_neg (by omega), if_neg (by omega), if_neg (by omega), if_neg (by omega)]; exact hF0 c c1 c2⟩
  have hFr0 : Fr M (up (up (up (up (up M 58 13 (-1)) 58 14 0) 58 17 0) 58 20 0) 58 24 0) := ((((Fr.up (Or.inr (by omega))).tr (Fr.up (Or.inr (by omega)))).tr (Fr.up (Or.inr (by omega)))).tr (Fr.up (Or.inr (by omega)))).tr (Fr.up (Or.inr (by omega)))
  simp only [w_m_party_0, w_m_party_1, w_m_party_2, w_m_party_5, w_m_party_6, w_m_party_7, w_m_party_10, w_m_party_11, w_m_party_12, w_m_party_15, w_m_party_16, w_m_party_17, w_m_party_20, w_m_party_21, w_m_party_22, w_m_party_25, w_m_party_26, w_m_party_28, w_m_party_31, w_m_party_32, w_m_party_35, w_m_party_38, w_m_party_39, w_m_party_42, w_m_party_43, w_m_party_46, w_m_party_47, w_m_party_48, w_m_party_51, w_m_party_52, w_m_party_55, w_m_party_57, w_m_party_58, w_m_party_59, w_m_party_60, w_m_party_61, w_m_party_64, w_m_party_65, w_m_party_66, w_m_party_69, w_m_party_70, w_m_party_71, w_m_party_74, w_m_party_75, w_m_party_76, w_m_party_79, w_m_party_80, w_m_party_83, w_m_party_84, w_m_party_85, w_m_party_86, w_m_party_87, w_m_party_90, w_m_party_91, w_m_party_92, w_m_party_93, w_m_party_94, w_m_party_97, xm_13, xm_14, xm_17, xm_20, xm_24, cl_58, xm_12, xm_30, xm_37, xm_26, xm_41, al_84, xm_3, i10, Bool.false_eq_true, eq_self, true_or, or_true, if_true, if_false, gv_int, gv_ref, av_some, al_some, un_int, un_ref, un_mk, ok4_0, ok4_1, ok4_2, ok4_3, ok4_4, Kn_some, Kn_none, true_and, and_true]
  exact key (tl + 1) 0 0 0 0 F0 _ (by omega) hR0 ⟨⟨by omega, by omega, by omega⟩, fun i hi => absurd hi (Nat.not_lt_zero _), fun i k hi => absurd hi (Nat.not_lt_zero _), fun i hi => absurd hi (Nat.not_lt_zero _)⟩ hFr0 hq

/-! a text has one end: a fault, or a party -/
theorem numC_o (tx : Nat → Int32) (tl p : Nat) (most : Int32) : (∃ e y, ∀ (b : Int32 → Nat → Prop) g, numC tx tl p most b g = b e y) ∨ (∃ q v, ∀ (b : Int32 → Nat → Prop) g, numC tx tl p most b g = g q v) := by
  unfold numC
  by_cases h1 : isf (lt tx tl (sk tx tl p)) = true
  · by_cases h2 : okN tx tl (sk tx tl p) most = true
    · exact Or.inr ⟨_, _, fun b g => by rw [if_pos h1, if_pos h2]⟩
    · exact Or.inl ⟨_, _, fun b g => by rw [if_pos h1, if_neg h2]⟩
  · exact Or.inl ⟨_, _, fun b g => by rw [if_neg h1]⟩
theorem signC_o (tx : Nat → Int32) (tl p : Nat) (sg : Int32) : (∃ e y, ∀ (b : Int32 → Nat → Prop) g, signC tx tl p sg b g = b e y) ∨ (∃ q, ∀ (b : Int32 → Nat → Prop) g, signC tx tl p sg b g = g q) := by
  unfold signC
  by_cases h1 : lt tx tl (sk tx tl p) = sg
  · exact Or.inr ⟨_, fun b g => by rw [if_pos h1]⟩
  · exact Or.inl ⟨_, _, fun b g => by rw [if_neg h1]⟩
theorem kindC_o (tx : Nat → Int32) (tl p K : Nat) (F : Mm) : (∃ e y, ∀ (b : Int32 → Nat → Prop) g, kindC tx tl p K F b g = b e y) ∨ (∃ q F', ∀ (b : Int32 → Nat → Prop) g, kindC tx tl p K F b g = g q F') := by
  unfold kindC
  rcases numC_o tx tl p 999 with ⟨e, y, h⟩ | ⟨q, v, h⟩
  · exact Or.inl ⟨e, y, fun b g => h b _⟩
  · rcases numC_o tx tl q 99 with ⟨e, y, h2⟩ | ⟨r, w, h2⟩
    · exact Or.inl ⟨e, y, fun b g => (h b _).trans (h2 b _)⟩
    · exact Or.inr ⟨r, _, fun b g => (h b _).trans (h2 b _)⟩
theorem thingC_o (tx : Nat → Int32) (tl p K N : Nat) (F : Mm) : (∃ e y, ∀ (b : Int32 → Nat → Prop) g, thingC tx tl p K N F b g = b e y) ∨ (∃ q F', ∀ (b : Int32 → Nat → Prop) g, thingC tx tl p K N F b g = g q F') := by
  unfold thingC
  rcases numC_o tx tl p (nI K - 1) with ⟨e, y, h⟩ | ⟨q, v, h⟩
  · exact Or.inl ⟨e, y, fun b g => h b _⟩
  · exact Or.inr ⟨q, _, fun b g => h b _⟩
theorem lookC_o (tx : Nat → Int32) (tl p C : Nat) (F : Mm) : (∃ e y, ∀ (b : Int32 → Nat → Prop) g, lookC tx tl p C F b g = b e y) ∨ (∃ q F', ∀ (b : Int32 → Nat → Prop) g, lookC tx tl p C F b g = g q F') := by
  unfold lookC
  rcases numC_o tx tl p (nI C - 1) with ⟨e, y, h⟩ | ⟨q, c, h⟩
  · exact Or.inl ⟨e, y, fun b g => h b _⟩
  · rcases numC_o tx tl q (nI C - 1) with ⟨e, y, h2⟩ | ⟨r, d, h2⟩
    · exact Or.inl ⟨e, y, fun b g => (h b _).trans (h2 b _)⟩
    · by_cases z : d = c
      · exact Or.inl ⟨_, _, fun b g => (h b _).trans ((h2 b _).trans (if_pos z))⟩
      · by_cases z2 : bt (F 71 c.toNatClampNeg) d = true
        · exact Or.inl ⟨_, _, fun b g => (h b _).trans ((h2 b _).trans ((if_neg z).trans (if_pos z2)))⟩
        · exact Or.inr ⟨_, _, fun b g => (h b _).trans ((h2 b _).trans ((if_neg z).trans (if_neg z2)))⟩
theorem pricesC_o (tx : Nat → Int32) (tl C : Nat) : ∀ f k p F, (∃ e y, ∀ (b : Int32 → Nat → Prop) g, pricesC tx tl C b g f k p F = b e y) ∨ (∃ q F', ∀ (b : Int32 → Nat → Prop) g, pricesC tx tl C b g f k p F = g q F')
  | 0, k, p, F => Or.inr ⟨p, F, fun b g => rfl⟩
  | f + 1, k, p, F => by
    have num : ∀ p, (∃ e y, ∀ (b : Int32 → Nat → Prop) g, numC tx tl p 99 b (fun p w => pricesC tx tl C b g f (k + 1) p (up F 70 (5 * C + k) w)) = b e y) ∨ (∃ q F', ∀ (b : Int32 → Nat → Prop) g, numC tx tl p 99 b (fun p w => pricesC tx tl C b g f (k + 1) p (up F 70 (5 * C + k) w)) = g q F') := by
      intro p
      rcases numC_o tx tl p 99 with ⟨e, y, h⟩ | ⟨q, v, h⟩
      · exact Or.inl ⟨e, y, fun b g => h b _⟩
      · rcases pricesC_o tx tl C f (k + 1) q (up F 70 (5 * C + k) v) with ⟨e, y, h2⟩ | ⟨r, F', h2⟩
        · exact Or.inl ⟨e, y, fun b g => (h b _).trans (h2 b g)⟩
        · exact Or.inr ⟨r, F', fun b g => (h b _).trans (h2 b g)⟩
    unfold pricesC
    by_cases k0 : 0 < k
    · rcases signC_o tx tl p 44 with ⟨e, y, h⟩ | ⟨q, h⟩
      · exact Or.inl ⟨e, y, fun b g => (if_pos k0).trans (h b _)⟩
      · rcases num q with ⟨e, y, h2⟩ | ⟨r, F', h2⟩
        · exact Or.inl ⟨e, y, fun b g => (if_pos k0).trans ((h b _).trans (h2 b g))⟩
        · exact Or.inr ⟨r, F', fun b g => (if_pos k0).trans ((h b _).trans (h2 b g))⟩
    · rcases num p with ⟨e, y, h2⟩ | ⟨r, F', h2⟩
      · exact Or.inl ⟨e, y, fun b g => (if_neg k0).trans (h2 b g)⟩
      · exact Or.inr ⟨r, F', fun b g => (if_neg k0).trans (h2 b g)⟩
theorem childC_o (tx : Nat → Int32) (tl p K C : Nat) (F : Mm) : (∃ e y, ∀ (b : Int32 → Nat → Prop) g, childC tx tl p K C F b g = b e y) ∨ (∃ q F', ∀ (b : Int32 → Nat → Prop) g, childC tx tl p K C F b g = g q F') := by
  unfold childC
  rcases numC_o tx tl p 31 with ⟨e, y, h⟩ | ⟨q, v, h⟩
  · exact Or.inl ⟨e, y, fun b g => h b _⟩
  · rcases pricesC_o tx tl C K 0 q (up (up F 71 C 0) 69 C v) with ⟨e, y, h2⟩ | ⟨r, F', h2⟩
    · exact Or.inl ⟨e, y, fun b g => (h b _).trans (h2 b g)⟩
    · exact Or.inr ⟨r, F', fun b g => (h b _).trans (h2 b g)⟩
theorem clauseC_o (tx : Nat → Int32) (tl p K C N : Nat) (F : Mm) : (∃ e y, ∀ (b : Int32 → Nat → Prop) g, clauseC tx tl p K C N F b g = b e y) ∨ (∃ q K' C' N' F', ∀ (b : Int32 → Nat → Prop) g, clauseC tx tl p K C N F b g = g q K' C' N' F') := by
  unfold clauseC
  generalize sk tx tl p = s
  have fin : ∀ (X : (Int32 → Nat → Prop) → (Nat → Mm → Prop) → Prop) K' C' N', ((∃ e y, ∀ (b : Int32 → Nat → Prop) g, X b g = b e y) ∨ (∃ q F', ∀ (b : Int32 → Nat → Prop) g, X b g = g q F')) → ((∃ e y, ∀ (b : Int32 → Nat → Prop) (g : Nat → Nat → Nat → Nat → Mm → Prop), X b (fun p F => signC tx tl p 59 b fun p => g p K' C' N' F) = b e y) ∨ (∃ q K'' C'' N'' F', ∀ (b : Int32 → Nat → Prop) (g : Nat → Nat → Nat → Nat → Mm → Prop), X b (fun p F => signC tx tl p 59 b fun p => g p K' C' N' F) = g q K'' C'' N'' F')) := by
    intro X K' C' N' hX
    rcases hX with ⟨e, y, h⟩ | ⟨q, F', h⟩
    · exact Or.inl ⟨e, y, fun b g => h b _⟩
    · rcases signC_o tx tl q 59 with ⟨e, y, h2⟩ | ⟨r, h2⟩
      · exact Or.inl ⟨e, y, fun b g => (h b _).trans (h2 b _)⟩
      · exact Or.inr ⟨r, K', C', N', F', fun b g => (h b _).trans (h2 b _)⟩
  by_cases x1 : lt tx tl s = 107
  · by_cases z : K = 5 ∨ 0 < C
    · exact Or.inl ⟨_, _, fun b g => (if_pos x1).trans (if_pos z)⟩
    · rcases fin (fun b g => kindC tx tl (s + 1) K F b g) (K + 1) C N (kindC_o tx tl (s + 1) K F) with ⟨e, y, h⟩ | ⟨q, K', C', N', F', h⟩
      · exact Or.inl ⟨e, y, fun b g => (if_pos x1).trans ((if_neg z).trans (h b g))⟩
      · exact Or.inr ⟨q, K', C', N', F', fun b g => (if_pos x1).trans ((if_neg z).trans (h b g))⟩
  · by_cases x2 : lt tx tl s = 99
    · by_cases z : C = 4 ∨ K = 0
      · exact Or.inl ⟨_, _, fun b g => (if_neg x1).trans ((if_pos x2).trans (if_pos z))⟩
      · rcases fin (fun b g => childC tx tl (s + 1) K C F b g) K (C + 1) N (childC_o tx tl (s + 1) K C F) with ⟨e, y, h⟩ | ⟨q, K', C', N', F', h⟩
        · exact Or.inl ⟨e, y, fun b g => (if_neg x1).trans ((if_pos x2).trans ((if_neg z).trans (h b g)))⟩
        · exact Or.inr ⟨q, K', C', N', F', fun b g => (if_neg x1).trans ((if_pos x2).trans ((if_neg z).trans (h b g)))⟩
    · by_cases x3 : lt tx tl s = 108
      · rcases fin (fun b g => lookC tx tl (s + 1) C F b g) K C N (lookC_o tx tl (s + 1) C F) with ⟨e, y, h⟩ | ⟨q, K', C', N', F', h⟩
        · exact Or.inl ⟨e, y, fun b g => (if_neg x1).trans ((if_neg x2).trans ((if_pos x3).trans (h b g)))⟩
        · exact Or.inr ⟨q, K', C', N', F', fun b g => (if_neg x1).trans ((if_neg x2).trans ((if_pos x3).trans (h b g)))⟩
      · by_cases x4 : lt tx tl s = 116
        · by_cases z : N = 7
          · exact Or.inl ⟨_, _, fun b g => (if_neg x1).trans ((if_neg x2).trans ((if_neg x3).trans ((if_pos x4).trans (if_pos z))))⟩
          · rcases fin (fun b g => thingC tx tl (s + 1) K N F b g) K C (N + 1) (thingC_o tx tl (s + 1) K N F) with ⟨e, y, h⟩ | ⟨q, K', C', N', F', h⟩
            · exact Or.inl ⟨e, y, fun b g => (if_neg x1).trans ((if_neg x2).trans ((if_neg x3).trans ((if_pos x4).trans ((if_neg z).trans (h b g)))))⟩
            · exact Or.inr ⟨q, K', C', N', F', fun b g => (if_neg x1).trans ((if_neg x2).trans ((if_neg x3).trans ((if_pos x4).trans ((if_neg z).trans (h b g)))))⟩
        · exact Or.inl ⟨_, _, fun b g => (if_neg x1).trans ((if_neg x2).trans ((if_neg x3).trans (if_neg x4)))⟩
theorem partyC_o (tx : Nat → Int32) (tl : Nat) : ∀ f p K C N F, (∃ e y, ∀ (b : Int32 → Nat → Prop) g, partyC tx tl b g f p K C N F = b e y) ∨ (∃ K' C' N' F', ∀ (b : Int32 → Nat → Prop) g, partyC tx tl b g f p K C N F = g K' C' N' F')
  | 0, p, K, C, N, F => Or.inr ⟨K, C, N, F, fun b g => rfl⟩
  | f + 1, p, K, C, N, F => by
    unfold partyC
    by_cases q : sk tx tl p < tl
    · rcases clauseC_o tx tl p K C N F with ⟨e, y, h⟩ | ⟨r, K', C', N', F', h⟩
      · exact Or.inl ⟨e, y, fun b g => (if_pos q).trans (h b _)⟩
      · rcases partyC_o tx tl f r K' C' N' F' with ⟨e, y, h2⟩ | ⟨K2, C2, N2, F2, h2⟩
        · exact Or.inl ⟨e, y, fun b g => (if_pos q).trans ((h b _).trans (h2 b g))⟩
        · exact Or.inr ⟨K2, C2, N2, F2, fun b g => (if_pos q).trans ((h b _).trans (h2 b g))⟩
    · exact Or.inr ⟨K, C, N, F, fun b g => if_neg q⟩
