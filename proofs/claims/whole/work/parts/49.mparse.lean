/-! what a text says, and the reference's reading of it -/
section
variable {α : Sort _}
/-- a number, from p on -/
def numC (tx : Nat → Int32) (tl p : Nat) (most : Int32) (bad : Int32 → Nat → α) (good : Nat → Int32 → α) : α :=
  if isf (lt tx tl (sk tx tl p)) then (if okN tx tl (sk tx tl p) most then good (dn tx tl (sk tx tl p)) (nv tx (sk tx tl p) (dn tx tl (sk tx tl p) - sk tx tl p)) else bad 2 (sk tx tl p)) else bad 1 (sk tx tl p)
/-- a sign, from p on -/
def signC (tx : Nat → Int32) (tl p : Nat) (sg : Int32) (bad : Int32 → Nat → α) (good : Nat → α) : α :=
  if lt tx tl (sk tx tl p) = sg then good (sk tx tl p + 1) else bad 1 (sk tx tl p)
/-- the tables F: cells 67 .. 72 as the reference has them -/
def kindC (tx : Nat → Int32) (tl p K : Nat) (F : Mm) (bad : Int32 → Nat → α) (good : Nat → Mm → α) : α :=
  numC tx tl p 999 bad fun p v => numC tx tl p 99 bad fun p w => good p (up (up F 67 K v) 68 K w)
def thingC (tx : Nat → Int32) (tl p K N : Nat) (F : Mm) (bad : Int32 → Nat → α) (good : Nat → Mm → α) : α :=
  numC tx tl p (nI K - 1) bad fun p v => good p (up F 72 N v)
end
theorem numC_mono {tx : Nat → Int32} {tl p : Nat} {most : Int32} {b b' : Int32 → Nat → Prop} {g g' : Nat → Int32 → Prop} (hb : ∀ e y, b e y → b' e y) (hg : ∀ q v, g q v → g' q v) (h : numC tx tl p most b g) : numC tx tl p most b' g' := by
  unfold numC at h ⊢
  split at h
  · rename_i q1
    rw [if_pos q1]
    split at h
    · rename_i q2
      rw [if_pos q2]; exact hg _ _ h
    · rename_i q2
      rw [if_neg q2]; exact hb _ _ h
  · rename_i q1
    rw [if_neg q1]; exact hb _ _ h
/-- only what reading a number may change has changed -/
def Fn (M M' : Mm) : Prop := ∀ c j, (c = 58 → ¬ j = 13 ∧ ¬ j = 14 ∧ ¬ j = 15 ∧ ¬ j = 16) → M' c j = M c j
theorem Fn.cell {M M' : Mm} (h : Fn M M') {c : Nat} (hc : ¬ c = 58) : M' c = M c := funext (fun j => h c j (fun e => absurd e hc))
theorem Fn.pl {M M' : Mm} (h : Fn M M') {j : Nat} (hj : ¬ j = 13 ∧ ¬ j = 14 ∧ ¬ j = 15 ∧ ¬ j = 16) : M' 58 j = M 58 j := h 58 j (fun _ => hj)
theorem Fn.tr {M M' M'' : Mm} (h : Fn M M') (h' : Fn M' M'') : Fn M M'' := fun c j hc => (h' c j hc).trans (h c j hc)
theorem Fn.up {M : Mm} {k : Nat} {x : Int32} (hk : k = 13 ∨ k = 14 ∨ k = 15 ∨ k = 16) : Fn M (up M 58 k x) := by
  intro c j hc
  rw [up_at]
  by_cases q : c = 58
  · rw [if_pos q, if_neg (by have := hc q; omega), q]
  · rw [if_neg q]
theorem Fn_NM {M : Mm} {tl s : Nat} : Fn M (NM M tl s) := ((Fn.up (by omega)).tr (Fn.up (by omega))).tr (Fn.up (by omega))
theorem r_number {A B : Nat} {M : Mm} {Q : Po} {tl p : Nat} {most : Int32} (h : TX M tl p) (hq : numC (M 66) tl p most (fun e y => 0 < e → ∀ M', Fn M M' → M' 58 13 = nI y → Q (some (.int e)) (shw A B) M') (fun q v => rng v.toInt64 0 most.toInt64 = true → ∀ M', Fn M M' → TX M' tl q → M' 58 15 = v → M' 58 16 = nI (sk (M 66) tl p) → Q (some (.int 0)) (shw A B) M')) : WP 152 0 [.ref 58, .int 0, .int most, mk] [] (shw A B) (0, 0) M Q := by
  rw [e_m_takeNumber h]
  have hs := sk_le (tx := M 66) h.2.2.2
  have hd := dn_le (tx := M 66) hs.2
  obtain ⟨h1, h2, h3, h4⟩ := id h
  unfold numC at hq
  split at hq
  · rename_i q1
    rw [if_pos q1]
    split at hq
    · rename_i q2
      rw [if_pos q2]
      refine hq ?_ _ Fn_NM ⟨h1, ⟨rfl, h2.2⟩, h3, hd.2⟩ rfl rfl
      unfold okN at q2
      rw [Bool.and_eq_true] at q2
      exact q2.2
    · rename_i q2
      rw [if_neg q2]
      exact hq (by decide) _ (Fn_NM.tr (Fn.up (by omega))) rfl
  · rename_i q1
    rw [if_neg q1]
    exact hq (by decide) _ ((Fn.up (by omega)).tr (Fn.up (by omega))) rfl
theorem r_into {A B o n i : Nat} {M : Mm} {Q : Po} {tl p : Nat} {most : Int32} (h : TX M tl p) (ho : aln (shw A B) o = some (0, n)) (hi : i < n) (hn : n ≤ 1000) (hq : numC (M 66) tl p most (fun e y => 0 < e → ∀ M' x, Fn M M' → M' 58 13 = nI y → Q (some (.int e)) (shw A B) (up M' o i x)) (fun q v => rng v.toInt64 0 most.toInt64 = true → ∀ M', Fn M M' → TX M' tl q → Q (some (.int 0)) (shw A B) (up M' o i v))) : WP 153 0 [.ref 58, .ref o, .int (nI i), .int 0, .int most, mk] [] (shw A B) (0, 0) M Q := by
  have g1 : vp_in (nI i) (n : Nat) := vp_in_nI hi (by omega)
  simp only [w_m_into_0, w_m_into_1, w_m_into_2, w_m_into_4, w_m_into_7, w_m_into_9, w_m_into_10, w_m_into_11, w_m_into_12, w_m_into_15, w_m_into_16, w_m_into_18, cl_58, xm_15, cl_58, i10, Bool.false_eq_true, eq_self, true_or, or_true, if_true, if_false, gv_int, gv_ref, av_some, al_some, un_int, un_ref, un_mk, ok4_0, ok4_1, ok4_2, ok4_3, ok4_4, Kn_some, Kn_none, true_and, and_true]
  refine r_number h (numC_mono ?_ ?_ hq)
  · intro e y hb he M1 hF hy
    simp only [w_m_into_0, w_m_into_1, w_m_into_2, w_m_into_4, w_m_into_7, w_m_into_9, w_m_into_10, w_m_into_11, w_m_into_12, w_m_into_15, w_m_into_16, w_m_into_18, cl_58, xm_15, ho, g1, nI_clamp (show i < 2 ^ 31 by omega), i10, Bool.false_eq_true, eq_self, true_or, or_true, if_true, if_false, gv_int, gv_ref, av_some, al_some, un_int, un_ref, un_mk, ok4_0, ok4_1, ok4_2, ok4_3, ok4_4, Kn_some, Kn_none, true_and, and_true]
    exact hb he M1 _ hF hy
  · intro q v hg hr M1 hF hT hv hs
    simp only [w_m_into_0, w_m_into_1, w_m_into_2, w_m_into_4, w_m_into_7, w_m_into_9, w_m_into_10, w_m_into_11, w_m_into_12, w_m_into_15, w_m_into_16, w_m_into_18, cl_58, xm_15, ho, g1, nI_clamp (show i < 2 ^ 31 by omega), hv, i10, Bool.false_eq_true, eq_self, true_or, or_true, if_true, if_false, gv_int, gv_ref, av_some, al_some, un_int, un_ref, un_mk, ok4_0, ok4_1, ok4_2, ok4_3, ok4_4, Kn_some, Kn_none, true_and, and_true]
    exact hg hr M1 hF hT
/-- only what reading may change has changed -/
def scr (c j : Nat) : Prop := (67 ≤ c ∧ c ≤ 72) ∨ (c = 58 ∧ (j = 13 ∨ j = 14 ∨ j = 15 ∨ j = 16 ∨ j = 17 ∨ j = 20 ∨ j = 24))
def Fr (M M' : Mm) : Prop := ∀ c j, ¬ scr c j → M' c j = M c j
theorem Fn.fr {M M' : Mm} (h : Fn M M') : Fr M M' := fun c j hc => h c j (fun e => by unfold scr at hc; omega)
theorem Fr.tr {M M' M'' : Mm} (h : Fr M M') (h' : Fr M' M'') : Fr M M'' := fun c j hc => (h' c j hc).trans (h c j hc)
theorem Fr.rf {M : Mm} : Fr M M := fun _ _ _ => rfl
theorem Fr.up {M : Mm} {c k : Nat} {x : Int32} (hk : scr c k) : Fr M (up M c k x) := by
  intro a j hc
  rw [up_at]
  by_cases q : a = c
  · subst q
    rw [if_pos rfl]
    by_cases q2 : j = k
    · subst q2; exact absurd hk hc
    · rw [if_neg q2]
  · rw [if_neg q]
theorem scr_a {c k : Nat} (h : 67 ≤ c) (h' : c ≤ 72) : scr c k := Or.inl ⟨h, h'⟩
theorem Fr.text {M M' : Mm} (h : Fr M M') : M' 66 = M 66 := funext (fun j => h _ j (by unfold scr; omega))
def RS (M : Mm) (tl p K C N : Nat) (F : Mm) : Prop := TX M tl p ∧ M 58 17 = nI K ∧ M 58 20 = nI C ∧ M 58 24 = nI N ∧ ∀ c, 67 ≤ c → c ≤ 72 → M c = F c
theorem up_pl {M : Mm} {c k j : Nat} {x : Int32} (hc : c = 58 → ¬ k = j) : up M c k x 58 j = M 58 j := by
  rw [up_at]
  by_cases q : 58 = c
  · rw [if_pos q, if_neg (by have := hc q.symm; omega), ← q]
  · rw [if_neg q]
theorem TX.up {M : Mm} {tl p c k : Nat} {x : Int32} (h : TX M tl p) (hc : c = 58 → ¬ k = 12 ∧ ¬ k = 14 ∧ ¬ k = 13) : TX (up M c k x) tl p :=
  ⟨(up_pl (fun e => (hc e).1)).trans h.1, ⟨(up_pl (fun e => (hc e).2.1)).trans h.2.1.1, (up_pl (fun e => (hc e).2.2)).trans h.2.1.2⟩, h.2.2⟩
theorem r_takeKind {A B : Nat} {M : Mm} {Q : Po} {tl p K C N : Nat} {F : Mm} (h : RS M tl p K C N F) (hK : K < 5) (hq : kindC (M 66) tl p K F (fun e y => 0 < e → ∀ M', Fr M M' → M' 58 13 = nI y → Q (some (.int e)) (shw A B) M') (fun q F' => ∀ M', Fr M M' → RS M' tl q (K + 1) C N F' → Q (some (.int 0)) (shw A B) M')) : WP 154 0 [.ref 58, mk, mk] [] (shw A B) (0, 0) M Q := by
  obtain ⟨h1, h2, h3, h4, h5⟩ := h
  unfold kindC at hq
  simp only [w_m_takeKind_0, w_m_takeKind_1, w_m_takeKind_4, w_m_takeKind_5, w_m_takeKind_6, w_m_takeKind_7, w_m_takeKind_10, w_m_takeKind_11, w_m_takeKind_12, w_m_takeKind_15, w_m_takeKind_16, w_m_takeKind_17, w_m_takeKind_20, w_m_takeKind_21, w_m_takeKind_22, w_m_takeKind_25, w_m_takeKind_28, w_m_takeKind_29, w_m_takeKind_30, w_m_takeKind_33, w_m_takeKind_34, w_m_takeKind_37, w_m_takeKind_38, w_m_takeKind_39, w_m_takeKind_42, w_m_takeKind_43, w_m_takeKind_44, w_m_takeKind_46, w_m_takeKind_49, xm_17, xm_18, al_67, cl_58, xm_19, al_68, h2, nI_1, cl_58, i10, Bool.false_eq_true, eq_self, true_or, or_true, if_true, if_false, gv_int, gv_ref, av_some, al_some, un_int, un_ref, un_mk, ok4_0, ok4_1, ok4_2, ok4_3, ok4_4, Kn_some, Kn_none, true_and, and_true]
  refine r_into (h1.up (by omega)) al_67 hK (by decide) (numC_mono ?_ ?_ hq)
  · intro e y hb he M1 x hF hy
    simp only [w_m_takeKind_0, w_m_takeKind_1, w_m_takeKind_4, w_m_takeKind_5, w_m_takeKind_6, w_m_takeKind_7, w_m_takeKind_10, w_m_takeKind_11, w_m_takeKind_12, w_m_takeKind_15, w_m_takeKind_16, w_m_takeKind_17, w_m_takeKind_20, w_m_takeKind_21, w_m_takeKind_22, w_m_takeKind_25, w_m_takeKind_28, w_m_takeKind_29, w_m_takeKind_30, w_m_takeKind_33, w_m_takeKind_34, w_m_takeKind_37, w_m_takeKind_38, w_m_takeKind_39, w_m_takeKind_42, w_m_takeKind_43, w_m_takeKind_44, w_m_takeKind_46, w_m_takeKind_49, xm_17, xm_18, al_67, cl_58, xm_19, al_68, eq_true he, i10, Bool.false_eq_true, eq_self, true_or, or_true, if_true, if_false, gv_int, gv_ref, av_some, al_some, un_int, un_ref, un_mk, ok4_0, ok4_1, ok4_2, ok4_3, ok4_4, Kn_some, Kn_none, true_and, and_true]
    exact hb he _ (((Fr.up (Or.inr (by omega))).tr hF.fr).tr (Fr.up (scr_a (by omega) (by omega)))) hy
  · intro q v hg hr M1 hF hT
    simp only [w_m_takeKind_0, w_m_takeKind_1, w_m_takeKind_4, w_m_takeKind_5, w_m_takeKind_6, w_m_takeKind_7, w_m_takeKind_10, w_m_takeKind_11, w_m_takeKind_12, w_m_takeKind_15, w_m_takeKind_16, w_m_takeKind_17, w_m_takeKind_20, w_m_takeKind_21, w_m_takeKind_22, w_m_takeKind_25, w_m_takeKind_28, w_m_takeKind_29, w_m_takeKind_30, w_m_takeKind_33, w_m_takeKind_34, w_m_takeKind_37, w_m_takeKind_38, w_m_takeKind_39, w_m_takeKind_42, w_m_takeKind_43, w_m_takeKind_44, w_m_takeKind_46, w_m_takeKind_49, xm_17, xm_18, al_67, cl_58, xm_19, al_68, (show ((0 : Int32) < 0) = False by decide), cl_58, i10, Bool.false_eq_true, eq_self, true_or, or_true, if_true, if_false, gv_int, gv_ref, av_some, al_some, un_int, un_ref, un_mk, ok4_0, ok4_1, ok4_2, ok4_3, ok4_4, Kn_some, Kn_none, true_and, and_true]
    refine r_into (hT.up (by omega)) al_68 hK (by decide) ?_
    have et : up M1 67 K v 66 = M 66 := hF.cell (by decide)
    rw [et]
    refine numC_mono ?_ ?_ hg
    · intro e y hb he M2 x hF2 hy
      simp only [w_m_takeKind_0, w_m_takeKind_1, w_m_takeKind_4, w_m_takeKind_5, w_m_takeKind_6, w_m_takeKind_7, w_m_takeKind_10, w_m_takeKind_11, w_m_takeKind_12, w_m_takeKind_15, w_m_takeKind_16, w_m_takeKind_17, w_m_takeKind_20, w_m_takeKind_21, w_m_takeKind_22, w_m_takeKind_25, w_m_takeKind_28, w_m_takeKind_29, w_m_takeKind_30, w_m_takeKind_33, w_m_takeKind_34, w_m_takeKind_37, w_m_takeKind_38, w_m_takeKind_39, w_m_takeKind_42, w_m_takeKind_43, w_m_takeKind_44, w_m_takeKind_46, w_m_takeKind_49, xm_17, xm_18, al_67, cl_58, xm_19, al_68, i10, Bool.false_eq_true, eq_self, true_or, or_true, if_true, if_false, gv_int, gv_ref, av_some, al_some, un_int, un_ref, un_mk, ok4_0, ok4_1, ok4_2, ok4_3, ok4_4, Kn_some, Kn_none, true_and, and_true]
      exact hb he _ (((((Fr.up (Or.inr (by omega))).tr hF.fr).tr (Fr.up (scr_a (by omega) (by omega)))).tr hF2.fr).tr (Fr.up (scr_a (by omega) (by omega)))) hy
    · intro q2 w hg2 hr2 M2 hF2 hT2
      simp only [w_m_takeKind_0, w_m_takeKind_1, w_m_takeKind_4, w_m_takeKind_5, w_m_takeKind_6, w_m_takeKind_7, w_m_takeKind_10, w_m_takeKind_11, w_m_takeKind_12, w_m_takeKind_15, w_m_takeKind_16, w_m_takeKind_17, w_m_takeKind_20, w_m_takeKind_21, w_m_takeKind_22, w_m_takeKind_25, w_m_takeKind_28, w_m_takeKind_29, w_m_takeKind_30, w_m_takeKind_33, w_m_takeKind_34, w_m_takeKind_37, w_m_takeKind_38, w_m_takeKind_39, w_m_takeKind_42, w_m_takeKind_43, w_m_takeKind_44, w_m_takeKind_46, w_m_takeKind_49, xm_17, xm_18, al_67, cl_58, xm_19, al_68, i10, Bool.false_eq_true, eq_self, true_or, or_true, if_true, if_false, gv_int, gv_ref, av_some, al_some, un_int, un_ref, un_mk, ok4_0, ok4_1, ok4_2, ok4_3, ok4_4, Kn_some, Kn_none, true_and, and_true]
      refine hg2 _ (((((Fr.up (Or.inr (by omega))).tr hF.fr).tr (Fr.up (scr_a (by omega) (by omega)))).tr hF2.fr).tr (Fr.up (scr_a (by omega) (by omega)))) ⟨hT2.up (by omega), ?_, ?_, ?_, ?_⟩
      · exact (hF2.pl (by omega)).trans (hF.pl (by omega))
      · exact (hF2.pl (by omega)).trans ((hF.pl (by omega)).trans h3)
      · exact (hF2.pl (by omega)).trans ((hF.pl (by omega)).trans h4)
      · intro c c1 c2
        have e1 : M2 c = up M1 67 K v c := hF2.cell (by omega)
        have e2 : M1 c = F c := (hF.cell (by omega)).trans ((if_neg (by omega)).trans (h5 c c1 c2))
        have e67 : M1 67 = F 67 := (hF.cell (by omega)).trans ((if_neg (by omega)).trans (h5 67 (by omega) (by omega)))
        have e68 : M2 68 = F 68 := (hF2.cell (by omega)).trans ((hF.cell (by omega)).trans ((if_neg (by omega)).trans (h5 68 (by omega) (by omega))))
        simp only [up_c]
        by_cases q1 : c = 68
        · rw [if_pos q1, if_pos q1, e68]; rfl
        · rw [if_neg q1, if_neg q1, e1, up_c]
          by_cases q3 : c = 67
          · rw [if_pos q3, if_pos q3, e67]
          · rw [if_neg q3, if_neg q3, e2]
