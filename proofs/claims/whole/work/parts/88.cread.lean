/-! the component reads: letters, numbers, signs -/
theorem uo_0_0 {X : Mm} {o k : Nat} {x : Int32} : up X o k x o = upd (X o) k x := if_pos rfl
theorem uo_0_1 {X : Mm} {o k : Nat} {x : Int32} : up X (o + 1) k x o = X o := if_neg (by omega)
theorem uo_0_2 {X : Mm} {o k : Nat} {x : Int32} : up X (o + 2) k x o = X o := if_neg (by omega)
theorem uo_0_3 {X : Mm} {o k : Nat} {x : Int32} : up X (o + 3) k x o = X o := if_neg (by omega)
theorem uo_0_4 {X : Mm} {o k : Nat} {x : Int32} : up X (o + 4) k x o = X o := if_neg (by omega)
theorem uo_0_5 {X : Mm} {o k : Nat} {x : Int32} : up X (o + 5) k x o = X o := if_neg (by omega)
theorem uo_0_6 {X : Mm} {o k : Nat} {x : Int32} : up X (o + 6) k x o = X o := if_neg (by omega)
theorem uo_0_7 {X : Mm} {o k : Nat} {x : Int32} : up X (o + 7) k x o = X o := if_neg (by omega)
theorem uo_0_8 {X : Mm} {o k : Nat} {x : Int32} : up X (o + 8) k x o = X o := if_neg (by omega)
theorem uo_0_9 {X : Mm} {o k : Nat} {x : Int32} : up X (o + 9) k x o = X o := if_neg (by omega)
theorem uo_1_0 {X : Mm} {o k : Nat} {x : Int32} : up X o k x (o + 1) = X (o + 1) := if_neg (by omega)
theorem uo_1_1 {X : Mm} {o k : Nat} {x : Int32} : up X (o + 1) k x (o + 1) = upd (X (o + 1)) k x := if_pos rfl
theorem uo_1_2 {X : Mm} {o k : Nat} {x : Int32} : up X (o + 2) k x (o + 1) = X (o + 1) := if_neg (by omega)
theorem uo_1_3 {X : Mm} {o k : Nat} {x : Int32} : up X (o + 3) k x (o + 1) = X (o + 1) := if_neg (by omega)
theorem uo_1_4 {X : Mm} {o k : Nat} {x : Int32} : up X (o + 4) k x (o + 1) = X (o + 1) := if_neg (by omega)
theorem uo_1_5 {X : Mm} {o k : Nat} {x : Int32} : up X (o + 5) k x (o + 1) = X (o + 1) := if_neg (by omega)
theorem uo_1_6 {X : Mm} {o k : Nat} {x : Int32} : up X (o + 6) k x (o + 1) = X (o + 1) := if_neg (by omega)
theorem uo_1_7 {X : Mm} {o k : Nat} {x : Int32} : up X (o + 7) k x (o + 1) = X (o + 1) := if_neg (by omega)
theorem uo_1_8 {X : Mm} {o k : Nat} {x : Int32} : up X (o + 8) k x (o + 1) = X (o + 1) := if_neg (by omega)
theorem uo_1_9 {X : Mm} {o k : Nat} {x : Int32} : up X (o + 9) k x (o + 1) = X (o + 1) := if_neg (by omega)
theorem uo_2_0 {X : Mm} {o k : Nat} {x : Int32} : up X o k x (o + 2) = X (o + 2) := if_neg (by omega)
theorem uo_2_1 {X : Mm} {o k : Nat} {x : Int32} : up X (o + 1) k x (o + 2) = X (o + 2) := if_neg (by omega)
theorem uo_2_2 {X : Mm} {o k : Nat} {x : Int32} : up X (o + 2) k x (o + 2) = upd (X (o + 2)) k x := if_pos rfl
theorem uo_2_3 {X : Mm} {o k : Nat} {x : Int32} : up X (o + 3) k x (o + 2) = X (o + 2) := if_neg (by omega)
theorem uo_2_4 {X : Mm} {o k : Nat} {x : Int32} : up X (o + 4) k x (o + 2) = X (o + 2) := if_neg (by omega)
theorem uo_2_5 {X : Mm} {o k : Nat} {x : Int32} : up X (o + 5) k x (o + 2) = X (o + 2) := if_neg (by omega)
theorem uo_2_6 {X : Mm} {o k : Nat} {x : Int32} : up X (o + 6) k x (o + 2) = X (o + 2) := if_neg (by omega)
theorem uo_2_7 {X : Mm} {o k : Nat} {x : Int32} : up X (o + 7) k x (o + 2) = X (o + 2) := if_neg (by omega)
theorem uo_2_8 {X : Mm} {o k : Nat} {x : Int32} : up X (o + 8) k x (o + 2) = X (o + 2) := if_neg (by omega)
theorem uo_2_9 {X : Mm} {o k : Nat} {x : Int32} : up X (o + 9) k x (o + 2) = X (o + 2) := if_neg (by omega)
theorem uo_3_0 {X : Mm} {o k : Nat} {x : Int32} : up X o k x (o + 3) = X (o + 3) := if_neg (by omega)
theorem uo_3_1 {X : Mm} {o k : Nat} {x : Int32} : up X (o + 1) k x (o + 3) = X (o + 3) := if_neg (by omega)
theorem uo_3_2 {X : Mm} {o k : Nat} {x : Int32} : up X (o + 2) k x (o + 3) = X (o + 3) := if_neg (by omega)
theorem uo_3_3 {X : Mm} {o k : Nat} {x : Int32} : up X (o + 3) k x (o + 3) = upd (X (o + 3)) k x := if_pos rfl
theorem uo_3_4 {X : Mm} {o k : Nat} {x : Int32} : up X (o + 4) k x (o + 3) = X (o + 3) := if_neg (by omega)
theorem uo_3_5 {X : Mm} {o k : Nat} {x : Int32} : up X (o + 5) k x (o + 3) = X (o + 3) := if_neg (by omega)
theorem uo_3_6 {X : Mm} {o k : Nat} {x : Int32} : up X (o + 6) k x (o + 3) = X (o + 3) := if_neg (by omega)
theorem uo_3_7 {X : Mm} {o k : Nat} {x : Int32} : up X (o + 7) k x (o + 3) = X (o + 3) := if_neg (by omega)
theorem uo_3_8 {X : Mm} {o k : Nat} {x : Int32} : up X (o + 8) k x (o + 3) = X (o + 3) := if_neg (by omega)
theorem uo_3_9 {X : Mm} {o k : Nat} {x : Int32} : up X (o + 9) k x (o + 3) = X (o + 3) := if_neg (by omega)
theorem uo_4_0 {X : Mm} {o k : Nat} {x : Int32} : up X o k x (o + 4) = X (o + 4) := if_neg (by omega)
theorem uo_4_1 {X : Mm} {o k : Nat} {x : Int32} : up X (o + 1) k x (o + 4) = X (o + 4) := if_neg (by omega)
theorem uo_4_2 {X : Mm} {o k : Nat} {x : Int32} : up X (o + 2) k x (o + 4) = X (o + 4) := if_neg (by omega)
theorem uo_4_3 {X : Mm} {o k : Nat} {x : Int32} : up X (o + 3) k x (o + 4) = X (o + 4) := if_neg (by omega)
theorem uo_4_4 {X : Mm} {o k : Nat} {x : Int32} : up X (o + 4) k x (o + 4) = upd (X (o + 4)) k x := if_pos rfl
theorem uo_4_5 {X : Mm} {o k : Nat} {x : Int32} : up X (o + 5) k x (o + 4) = X (o + 4) := if_neg (by omega)
theorem uo_4_6 {X : Mm} {o k : Nat} {x : Int32} : up X (o + 6) k x (o + 4) = X (o + 4) := if_neg (by omega)
theorem uo_4_7 {X : Mm} {o k : Nat} {x : Int32} : up X (o + 7) k x (o + 4) = X (o + 4) := if_neg (by omega)
theorem uo_4_8 {X : Mm} {o k : Nat} {x : Int32} : up X (o + 8) k x (o + 4) = X (o + 4) := if_neg (by omega)
theorem uo_4_9 {X : Mm} {o k : Nat} {x : Int32} : up X (o + 9) k x (o + 4) = X (o + 4) := if_neg (by omega)
theorem uo_5_0 {X : Mm} {o k : Nat} {x : Int32} : up X o k x (o + 5) = X (o + 5) := if_neg (by omega)
theorem uo_5_1 {X : Mm} {o k : Nat} {x : Int32} : up X (o + 1) k x (o + 5) = X (o + 5) := if_neg (by omega)
theorem uo_5_2 {X : Mm} {o k : Nat} {x : Int32} : up X (o + 2) k x (o + 5) = X (o + 5) := if_neg (by omega)
theorem uo_5_3 {X : Mm} {o k : Nat} {x : Int32} : up X (o + 3) k x (o + 5) = X (o + 5) := if_neg (by omega)
theorem uo_5_4 {X : Mm} {o k : Nat} {x : Int32} : up X (o + 4) k x (o + 5) = X (o + 5) := if_neg (by omega)
theorem uo_5_5 {X : Mm} {o k : Nat} {x : Int32} : up X (o + 5) k x (o + 5) = upd (X (o + 5)) k x := if_pos rfl
theorem uo_5_6 {X : Mm} {o k : Nat} {x : Int32} : up X (o + 6) k x (o + 5) = X (o + 5) := if_neg (by omega)
theorem uo_5_7 {X : Mm} {o k : Nat} {x : Int32} : up X (o + 7) k x (o + 5) = X (o + 5) := if_neg (by omega)
theorem uo_5_8 {X : Mm} {o k : Nat} {x : Int32} : up X (o + 8) k x (o + 5) = X (o + 5) := if_neg (by omega)
theorem uo_5_9 {X : Mm} {o k : Nat} {x : Int32} : up X (o + 9) k x (o + 5) = X (o + 5) := if_neg (by omega)
theorem uo_6_0 {X : Mm} {o k : Nat} {x : Int32} : up X o k x (o + 6) = X (o + 6) := if_neg (by omega)
theorem uo_6_1 {X : Mm} {o k : Nat} {x : Int32} : up X (o + 1) k x (o + 6) = X (o + 6) := if_neg (by omega)
theorem uo_6_2 {X : Mm} {o k : Nat} {x : Int32} : up X (o + 2) k x (o + 6) = X (o + 6) := if_neg (by omega)
theorem uo_6_3 {X : Mm} {o k : Nat} {x : Int32} : up X (o + 3) k x (o + 6) = X (o + 6) := if_neg (by omega)
theorem uo_6_4 {X : Mm} {o k : Nat} {x : Int32} : up X (o + 4) k x (o + 6) = X (o + 6) := if_neg (by omega)
theorem uo_6_5 {X : Mm} {o k : Nat} {x : Int32} : up X (o + 5) k x (o + 6) = X (o + 6) := if_neg (by omega)
theorem uo_6_6 {X : Mm} {o k : Nat} {x : Int32} : up X (o + 6) k x (o + 6) = upd (X (o + 6)) k x := if_pos rfl
theorem uo_6_7 {X : Mm} {o k : Nat} {x : Int32} : up X (o + 7) k x (o + 6) = X (o + 6) := if_neg (by omega)
theorem uo_6_8 {X : Mm} {o k : Nat} {x : Int32} : up X (o + 8) k x (o + 6) = X (o + 6) := if_neg (by omega)
theorem uo_6_9 {X : Mm} {o k : Nat} {x : Int32} : up X (o + 9) k x (o + 6) = X (o + 6) := if_neg (by omega)
theorem uo_7_0 {X : Mm} {o k : Nat} {x : Int32} : up X o k x (o + 7) = X (o + 7) := if_neg (by omega)
theorem uo_7_1 {X : Mm} {o k : Nat} {x : Int32} : up X (o + 1) k x (o + 7) = X (o + 7) := if_neg (by omega)
theorem uo_7_2 {X : Mm} {o k : Nat} {x : Int32} : up X (o + 2) k x (o + 7) = X (o + 7) := if_neg (by omega)
theorem uo_7_3 {X : Mm} {o k : Nat} {x : Int32} : up X (o + 3) k x (o + 7) = X (o + 7) := if_neg (by omega)
theorem uo_7_4 {X : Mm} {o k : Nat} {x : Int32} : up X (o + 4) k x (o + 7) = X (o + 7) := if_neg (by omega)
theorem uo_7_5 {X : Mm} {o k : Nat} {x : Int32} : up X (o + 5) k x (o + 7) = X (o + 7) := if_neg (by omega)
theorem uo_7_6 {X : Mm} {o k : Nat} {x : Int32} : up X (o + 6) k x (o + 7) = X (o + 7) := if_neg (by omega)
theorem uo_7_7 {X : Mm} {o k : Nat} {x : Int32} : up X (o + 7) k x (o + 7) = upd (X (o + 7)) k x := if_pos rfl
theorem uo_7_8 {X : Mm} {o k : Nat} {x : Int32} : up X (o + 8) k x (o + 7) = X (o + 7) := if_neg (by omega)
theorem uo_7_9 {X : Mm} {o k : Nat} {x : Int32} : up X (o + 9) k x (o + 7) = X (o + 7) := if_neg (by omega)
theorem uo_8_0 {X : Mm} {o k : Nat} {x : Int32} : up X o k x (o + 8) = X (o + 8) := if_neg (by omega)
theorem uo_8_1 {X : Mm} {o k : Nat} {x : Int32} : up X (o + 1) k x (o + 8) = X (o + 8) := if_neg (by omega)
theorem uo_8_2 {X : Mm} {o k : Nat} {x : Int32} : up X (o + 2) k x (o + 8) = X (o + 8) := if_neg (by omega)
theorem uo_8_3 {X : Mm} {o k : Nat} {x : Int32} : up X (o + 3) k x (o + 8) = X (o + 8) := if_neg (by omega)
theorem uo_8_4 {X : Mm} {o k : Nat} {x : Int32} : up X (o + 4) k x (o + 8) = X (o + 8) := if_neg (by omega)
theorem uo_8_5 {X : Mm} {o k : Nat} {x : Int32} : up X (o + 5) k x (o + 8) = X (o + 8) := if_neg (by omega)
theorem uo_8_6 {X : Mm} {o k : Nat} {x : Int32} : up X (o + 6) k x (o + 8) = X (o + 8) := if_neg (by omega)
theorem uo_8_7 {X : Mm} {o k : Nat} {x : Int32} : up X (o + 7) k x (o + 8) = X (o + 8) := if_neg (by omega)
theorem uo_8_8 {X : Mm} {o k : Nat} {x : Int32} : up X (o + 8) k x (o + 8) = upd (X (o + 8)) k x := if_pos rfl
theorem uo_8_9 {X : Mm} {o k : Nat} {x : Int32} : up X (o + 9) k x (o + 8) = X (o + 8) := if_neg (by omega)
theorem uo_9_0 {X : Mm} {o k : Nat} {x : Int32} : up X o k x (o + 9) = X (o + 9) := if_neg (by omega)
theorem uo_9_1 {X : Mm} {o k : Nat} {x : Int32} : up X (o + 1) k x (o + 9) = X (o + 9) := if_neg (by omega)
theorem uo_9_2 {X : Mm} {o k : Nat} {x : Int32} : up X (o + 2) k x (o + 9) = X (o + 9) := if_neg (by omega)
theorem uo_9_3 {X : Mm} {o k : Nat} {x : Int32} : up X (o + 3) k x (o + 9) = X (o + 9) := if_neg (by omega)
theorem uo_9_4 {X : Mm} {o k : Nat} {x : Int32} : up X (o + 4) k x (o + 9) = X (o + 9) := if_neg (by omega)
theorem uo_9_5 {X : Mm} {o k : Nat} {x : Int32} : up X (o + 5) k x (o + 9) = X (o + 9) := if_neg (by omega)
theorem uo_9_6 {X : Mm} {o k : Nat} {x : Int32} : up X (o + 6) k x (o + 9) = X (o + 9) := if_neg (by omega)
theorem uo_9_7 {X : Mm} {o k : Nat} {x : Int32} : up X (o + 7) k x (o + 9) = X (o + 9) := if_neg (by omega)
theorem uo_9_8 {X : Mm} {o k : Nat} {x : Int32} : up X (o + 8) k x (o + 9) = X (o + 9) := if_neg (by omega)
theorem uo_9_9 {X : Mm} {o k : Nat} {x : Int32} : up X (o + 9) k x (o + 9) = upd (X (o + 9)) k x := if_pos rfl
theorem PP_ne1 {o d : Nat} (ho : isPP o) : ¬ o + d = 1 := by unfold isPP at ho; omega
def TC (M : Mm) (tl p : Nat) : Prop := (M 1 1 = nI tl ∧ M 1 2 = nI p) ∧ (M 1 4 = 0 ∧ M 1 5 = -1) ∧ tl ≤ 240 ∧ p ≤ tl
/-- only what reading a number may change has changed -/
def Fc (M M' : Mm) : Prop := ∀ c j, (c = 1 → ¬ j = 2 ∧ ¬ j = 3 ∧ ¬ j = 4 ∧ ¬ j = 5) → M' c j = M c j
theorem Fc.cell {M M' : Mm} (h : Fc M M') {c : Nat} (hc : ¬ c = 1) : M' c = M c := funext (fun j => h c j (fun e => absurd e hc))
theorem Fc.tr {M M' M'' : Mm} (h : Fc M M') (h' : Fc M' M'') : Fc M M'' := fun c j hc => (h' c j hc).trans (h c j hc)
theorem Fc.rf {M : Mm} : Fc M M := fun _ _ _ => rfl
theorem Fc.u1 {M : Mm} {k : Nat} {x : Int32} (hk : k = 2 ∨ k = 3 ∨ k = 4 ∨ k = 5) : Fc M (up M 1 k x) := by
  intro c j hc
  rw [up_at]
  by_cases q : c = 1
  · rw [if_pos q, if_neg (by have := hc q; omega), q]
  · rw [if_neg q]
theorem e_r_letterHere {A B tl p : Nat} {M : Mm} {Q : Po} (h1 : M 1 1 = nI tl) (h2 : M 1 2 = nI p) (h3 : tl ≤ 240) (h4 : p ≤ tl) : WP 69 0 [.ref 1] [] (shw A B) (0, 0) M Q = Q (some (.int (lt (M 2) tl p))) (shw A B) M := by
  have g0 : (nI p < 0) = False := eq_false (nI_pos (by omega))
  unfold lt
  by_cases q : p < tl
  · have g1 : nI p < nI tl := nI_lt q (by omega)
    have g2 : vp_in (nI p) 240 := vp_in_nI (by omega) (by decide)
    simp only [w_r_letterHere_0, w_r_letterHere_1, w_r_letterHere_4, w_r_letterHere_7, w_r_letterHere_8, w_r_letterHere_11, w_r_letterHere_12, w_r_letterHere_15, w_r_letterHere_18, w_r_letterHere_19, w_r_letterHere_22, w_r_letterHere_23, w_r_letterHere_26, w_r_letterHere_27, w_r_letterHere_30, w_r_letterHere_31, xr_2, xr_1, xr_0, al_2, h1, h2, g0, g1, g2, nI_clamp (show p < 2 ^ 31 by omega), eq_true q, i10, Bool.false_eq_true, eq_self, true_or, or_true, if_true, if_false, gv_int, gv_ref, av_some, al_some, un_int, un_ref, un_mk, ok4_0, ok4_1, ok4_2, ok4_3, ok4_4, Kn_some, Kn_none, true_and, and_true]
  · have g1 : (nI p < nI tl) = False := eq_false (nI_nlt (by omega) (by omega))
    simp only [w_r_letterHere_0, w_r_letterHere_1, w_r_letterHere_4, w_r_letterHere_7, w_r_letterHere_8, w_r_letterHere_11, w_r_letterHere_12, w_r_letterHere_15, w_r_letterHere_18, w_r_letterHere_19, w_r_letterHere_22, w_r_letterHere_23, w_r_letterHere_26, w_r_letterHere_27, w_r_letterHere_30, w_r_letterHere_31, xr_2, xr_1, xr_0, al_2, h1, h2, g0, g1, eq_false q, i10, Bool.false_eq_true, eq_self, true_or, or_true, if_true, if_false, gv_int, gv_ref, av_some, al_some, un_int, un_ref, un_mk, ok4_0, ok4_1, ok4_2, ok4_3, ok4_4, Kn_some, Kn_none, true_and, and_true]
theorem e_r_isFigureHere {A B tl p : Nat} {M : Mm} {Q : Po} (h1 : M 1 1 = nI tl) (h2 : M 1 2 = nI p) (h3 : tl ≤ 240) (h4 : p ≤ tl) : WP 70 0 [.ref 1] [] (shw A B) (0, 0) M Q = if isf (lt (M 2) tl p) then Q (some (.int 1)) (shw A B) M else Q (some (.int 0)) (shw A B) M := by
  have e : isf (lt (M 2) tl p) = decide (¬ lt (M 2) tl p < 48 ∧ ¬ 57 < lt (M 2) tl p) := by
    unfold isf
    rw [decide_eq_decide, Int32.lt_iff_toInt_lt, Int32.lt_iff_toInt_lt, show (48 : Int32).toInt = 48 from rfl, show (57 : Int32).toInt = 57 from rfl]
    omega
  rw [e]
  by_cases q1 : lt (M 2) tl p < 48 <;> by_cases q2 : 57 < lt (M 2) tl p
  · rw [decide_eq_false (fun z => z.1 q1)]
    simp only [w_r_isFigureHere_0, w_r_isFigureHere_1, w_r_isFigureHere_4, w_r_isFigureHere_6, w_r_isFigureHere_9, w_r_isFigureHere_10, w_r_isFigureHere_13, w_r_isFigureHere_15, w_r_isFigureHere_18, w_r_isFigureHere_19, w_r_isFigureHere_22, w_r_isFigureHere_23, cl_1, e_r_letterHere h1 h2 h3 h4, cl_1, eq_true q1, i10, Bool.false_eq_true, eq_self, true_or, or_true, if_true, if_false, gv_int, gv_ref, av_some, al_some, un_int, un_ref, un_mk, ok4_0, ok4_1, ok4_2, ok4_3, ok4_4, Kn_some, Kn_none, true_and, and_true]
  · rw [decide_eq_false (fun z => z.1 q1)]
    simp only [w_r_isFigureHere_0, w_r_isFigureHere_1, w_r_isFigureHere_4, w_r_isFigureHere_6, w_r_isFigureHere_9, w_r_isFigureHere_10, w_r_isFigureHere_13, w_r_isFigureHere_15, w_r_isFigureHere_18, w_r_isFigureHere_19, w_r_isFigureHere_22, w_r_isFigureHere_23, cl_1, e_r_letterHere h1 h2 h3 h4, cl_1, eq_true q1, i10, Bool.false_eq_true, eq_self, true_or, or_true, if_true, if_false, gv_int, gv_ref, av_some, al_some, un_int, un_ref, un_mk, ok4_0, ok4_1, ok4_2, ok4_3, ok4_4, Kn_some, Kn_none, true_and, and_true]
  · rw [decide_eq_false (fun z => z.2 q2)]
    simp only [w_r_isFigureHere_0, w_r_isFigureHere_1, w_r_isFigureHere_4, w_r_isFigureHere_6, w_r_isFigureHere_9, w_r_isFigureHere_10, w_r_isFigureHere_13, w_r_isFigureHere_15, w_r_isFigureHere_18, w_r_isFigureHere_19, w_r_isFigureHere_22, w_r_isFigureHere_23, cl_1, e_r_letterHere h1 h2 h3 h4, cl_1, eq_false q1, eq_true q2, i10, Bool.false_eq_true, eq_self, true_or, or_true, if_true, if_false, gv_int, gv_ref, av_some, al_some, un_int, un_ref, un_mk, ok4_0, ok4_1, ok4_2, ok4_3, ok4_4, Kn_some, Kn_none, true_and, and_true]
  · rw [decide_eq_true ⟨q1, q2⟩]
    simp only [w_r_isFigureHere_0, w_r_isFigureHere_1, w_r_isFigureHere_4, w_r_isFigureHere_6, w_r_isFigureHere_9, w_r_isFigureHere_10, w_r_isFigureHere_13, w_r_isFigureHere_15, w_r_isFigureHere_18, w_r_isFigureHere_19, w_r_isFigureHere_22, w_r_isFigureHere_23, cl_1, e_r_letterHere h1 h2 h3 h4, cl_1, eq_false q1, eq_false q2, i10, Bool.false_eq_true, eq_self, true_or, or_true, if_true, if_false, gv_int, gv_ref, av_some, al_some, un_int, un_ref, un_mk, ok4_0, ok4_1, ok4_2, ok4_3, ok4_4, Kn_some, Kn_none, true_and, and_true]
theorem e_r_skipBlanks {A B tl p : Nat} {M : Mm} {Q : Po} (h1 : M 1 1 = nI tl) (h2 : M 1 2 = nI p) (h3 : tl ≤ 240) (h4 : p ≤ tl) : WP 68 0 [.ref 1] [] (shw A B) (0, 0) M Q = Q none (shw A B) (up M 1 2 (nI (sk (M 2) tl p))) := by
  refine WP.is (fun Q hQ => ?_)
  have key : ∀ f q, q + f = tl → sk (M 2) tl q = sk (M 2) tl p → WP 68 0 [.ref 1] [] (shw A B) (0, 0) (up M 1 2 (nI q)) Q := by
    intro f
    induction f with
    | zero =>
      intro q hq e
      have hq : q = tl := hq
      subst hq
      rw [sk_end] at e
      rw [← e] at hQ
      rw [w_r_skipBlanks_0]
      simp only [w_r_skipBlanks_1, w_r_skipBlanks_4, w_r_skipBlanks_5, w_r_skipBlanks_8, w_r_skipBlanks_11, w_r_skipBlanks_12, w_r_skipBlanks_15, w_r_skipBlanks_17, w_r_skipBlanks_20, w_r_skipBlanks_21, w_r_skipBlanks_22, w_r_skipBlanks_25, w_r_skipBlanks_26, w_r_skipBlanks_27, w_r_skipBlanks_30, w_r_skipBlanks_33, xr_2, xr_1, cl_1, show ∀ x, up M 1 2 x 1 2 = x from fun _ => rfl, show ∀ x, up M 1 2 x 1 1 = nI q from fun _ => h1, lt_irr, i10, Bool.false_eq_true, eq_self, true_or, or_true, if_true, if_false, gv_int, gv_ref, av_some, al_some, un_int, un_ref, un_mk, ok4_0, ok4_1, ok4_2, ok4_3, ok4_4, Kn_some, Kn_none, true_and, and_true]
      exact hQ
    | succ f ih =>
      intro q hq e
      have g1 : nI q < nI tl := nI_lt (by omega) (by omega)
      rw [sk_step (by omega)] at e
      have el : lt (M 2) tl q = M 2 q := if_pos (by omega)
      rw [w_r_skipBlanks_0]
      by_cases b : M 2 q = 32
      · rw [if_pos b] at e
        simp only [w_r_skipBlanks_1, w_r_skipBlanks_4, w_r_skipBlanks_5, w_r_skipBlanks_8, w_r_skipBlanks_11, w_r_skipBlanks_12, w_r_skipBlanks_15, w_r_skipBlanks_17, w_r_skipBlanks_20, w_r_skipBlanks_21, w_r_skipBlanks_22, w_r_skipBlanks_25, w_r_skipBlanks_26, w_r_skipBlanks_27, w_r_skipBlanks_30, w_r_skipBlanks_33, xr_2, xr_1, cl_1, show ∀ x, up M 1 2 x 1 2 = x from fun _ => rfl, show ∀ x, up M 1 2 x 1 1 = nI tl from fun _ => h1, g1, e_r_letterHere (M := up M 1 2 (nI q)) h1 rfl h3 (show q ≤ tl by omega), show ∀ x, up M 1 2 x 2 = M 2 from fun _ => rfl, el, b, nI_1, up_up, cl_1, i10, Bool.false_eq_true, eq_self, true_or, or_true, if_true, if_false, gv_int, gv_ref, av_some, al_some, un_int, un_ref, un_mk, ok4_0, ok4_1, ok4_2, ok4_3, ok4_4, Kn_some, Kn_none, true_and, and_true]
        exact ih (q + 1) (by omega) e
      · rw [if_neg b] at e
        rw [← e] at hQ
        simp only [w_r_skipBlanks_1, w_r_skipBlanks_4, w_r_skipBlanks_5, w_r_skipBlanks_8, w_r_skipBlanks_11, w_r_skipBlanks_12, w_r_skipBlanks_15, w_r_skipBlanks_17, w_r_skipBlanks_20, w_r_skipBlanks_21, w_r_skipBlanks_22, w_r_skipBlanks_25, w_r_skipBlanks_26, w_r_skipBlanks_27, w_r_skipBlanks_30, w_r_skipBlanks_33, xr_2, xr_1, cl_1, show ∀ x, up M 1 2 x 1 2 = x from fun _ => rfl, show ∀ x, up M 1 2 x 1 1 = nI tl from fun _ => h1, g1, e_r_letterHere (M := up M 1 2 (nI q)) h1 rfl h3 (show q ≤ tl by omega), show ∀ x, up M 1 2 x 2 = M 2 from fun _ => rfl, el, eq_false b, cl_1, i10, Bool.false_eq_true, eq_self, true_or, or_true, if_true, if_false, gv_int, gv_ref, av_some, al_some, un_int, un_ref, un_mk, ok4_0, ok4_1, ok4_2, ok4_3, ok4_4, Kn_some, Kn_none, true_and, and_true]
        exact hQ
  have := key (tl - p) p (by omega) rfl
  rw [← h2, up_same] at this
  exact this
theorem e_r_fail0 {A B : Nat} {M : Mm} {Q : Po} {x y : Int32} (h : M 1 4 = 0) : WP 71 0 [.ref 1, .int x, .int y] [] (shw A B) (0, 0) M Q = Q none (shw A B) (up (up M 1 4 x) 1 5 y) := by
  simp only [w_r_fail_0, w_r_fail_1, w_r_fail_4, w_r_fail_7, w_r_fail_8, w_r_fail_9, w_r_fail_12, w_r_fail_13, w_r_fail_14, w_r_fail_17, xr_4, xr_5, h, i10, Bool.false_eq_true, eq_self, true_or, or_true, if_true, if_false, gv_int, gv_ref, av_some, al_some, un_int, un_ref, un_mk, ok4_0, ok4_1, ok4_2, ok4_3, ok4_4, Kn_some, Kn_none, true_and, and_true]
theorem e_r_fail1 {A B : Nat} {M : Mm} {Q : Po} {x y : Int32} (h : ¬ M 1 4 = 0) : WP 71 0 [.ref 1, .int x, .int y] [] (shw A B) (0, 0) M Q = Q none (shw A B) M := by
  simp only [w_r_fail_0, w_r_fail_1, w_r_fail_4, w_r_fail_7, w_r_fail_8, w_r_fail_9, w_r_fail_12, w_r_fail_13, w_r_fail_14, w_r_fail_17, xr_4, xr_5, eq_false h, i10, Bool.false_eq_true, eq_self, true_or, or_true, if_true, if_false, gv_int, gv_ref, av_some, al_some, un_int, un_ref, un_mk, ok4_0, ok4_1, ok4_2, ok4_3, ok4_4, Kn_some, Kn_none, true_and, and_true]
theorem e_r_numberF {A B : Nat} {M : Mm} {Q : Po} {x : Int32} (h : ¬ M 1 4 = 0) : WP 66 0 [.ref 1, .int x, mk, mk] [] (shw A B) (0, 0) M Q = Q (some (.int 0)) (shw A B) M := by
  simp only [w_r_readNumber_0, w_r_readNumber_1, w_r_readNumber_4, w_r_readNumber_7, w_r_readNumber_8, w_r_readNumber_9, w_r_readNumber_10, w_r_readNumber_13, w_r_readNumber_14, w_r_readNumber_15, w_r_readNumber_18, w_r_readNumber_21, w_r_readNumber_22, w_r_readNumber_24, w_r_readNumber_27, w_r_readNumber_28, w_r_readNumber_31, w_r_readNumber_34, w_r_readNumber_35, w_r_readNumber_38, w_r_readNumber_41, w_r_readNumber_42, w_r_readNumber_45, w_r_readNumber_46, w_r_readNumber_49, w_r_readNumber_50, w_r_readNumber_51, w_r_readNumber_54, w_r_readNumber_55, w_r_readNumber_57, w_r_readNumber_58, w_r_readNumber_59, w_r_readNumber_62, w_r_readNumber_63, w_r_readNumber_65, w_r_readNumber_66, w_r_readNumber_67, w_r_readNumber_68, w_r_readNumber_69, w_r_readNumber_72, w_r_readNumber_73, w_r_readNumber_74, w_r_readNumber_77, w_r_readNumber_80, w_r_readNumber_81, w_r_readNumber_84, w_r_readNumber_85, w_r_readNumber_88, w_r_readNumber_89, w_r_readNumber_90, w_r_readNumber_91, w_r_readNumber_94, w_r_readNumber_95, w_r_readNumber_96, w_r_readNumber_97, w_r_readNumber_100, w_r_readNumber_103, w_r_readNumber_106, w_r_readNumber_107, w_r_readNumber_108, w_r_readNumber_111, w_r_readNumber_112, w_r_readNumber_113, w_r_readNumber_116, w_r_readNumber_117, w_r_readNumber_118, w_r_readNumber_119, w_r_readNumber_122, w_r_readNumber_125, w_r_readNumber_126, w_r_readNumber_129, w_r_readNumber_132, w_r_readNumber_133, w_r_readNumber_136, w_r_readNumber_137, xr_4, cl_1, xr_2, xr_3, xr_1, eq_false h, i10, Bool.false_eq_true, eq_self, true_or, or_true, if_true, if_false, gv_int, gv_ref, av_some, al_some, un_int, un_ref, un_mk, ok4_0, ok4_1, ok4_2, ok4_3, ok4_4, Kn_some, Kn_none, true_and, and_true]
theorem e_r_signF {A B : Nat} {M : Mm} {Q : Po} {x : Int32} (h : ¬ M 1 4 = 0) : WP 67 0 [.ref 1, .int x] [] (shw A B) (0, 0) M Q = Q none (shw A B) M := by
  simp only [w_r_readSign_0, w_r_readSign_1, w_r_readSign_4, w_r_readSign_7, w_r_readSign_8, w_r_readSign_9, w_r_readSign_12, w_r_readSign_13, w_r_readSign_16, w_r_readSign_17, w_r_readSign_20, w_r_readSign_21, w_r_readSign_22, w_r_readSign_25, w_r_readSign_26, w_r_readSign_27, w_r_readSign_30, w_r_readSign_33, w_r_readSign_34, w_r_readSign_35, w_r_readSign_36, w_r_readSign_39, w_r_readSign_42, xr_4, cl_1, xr_2, eq_false h, i10, Bool.false_eq_true, eq_self, true_or, or_true, if_true, if_false, gv_int, gv_ref, av_some, al_some, un_int, un_ref, un_mk, ok4_0, ok4_1, ok4_2, ok4_3, ok4_4, Kn_some, Kn_none, true_and, and_true]
/-- the state with a fault -/
def BS (M : Mm) (tl : Nat) (e : Int32) (y : Nat) : Prop := (M 1 1 = nI tl ∧ ∃ p, p ≤ tl ∧ M 1 2 = nI p) ∧ M 1 4 = e ∧ M 1 5 = nI y
theorem ne_0 {e : Int32} (h : 0 < e) : ¬ e = 0 := fun q => by rw [q] at h; exact absurd h (by decide)
theorem r_sign {A B tl p : Nat} {M : Mm} {Q : Po} {sg : Int32} (h : TC M tl p) (hs : ¬ sg = -1) (hq : signC (M 2) tl p sg (fun e y => 0 < e → ∀ M', Fc M M' → BS M' tl e y → Q none (shw A B) M') (fun q => ∀ M', Fc M M' → TC M' tl q → Q none (shw A B) M')) : WP 67 0 [.ref 1, .int sg] [] (shw A B) (0, 0) M Q := by
  obtain ⟨⟨h1, h2⟩, ⟨h3, h4⟩, h5, h6⟩ := h
  have hl := sk_le (tx := M 2) h6
  unfold signC at hq
  by_cases j : lt (M 2) tl (sk (M 2) tl p) = sg
  · rw [if_pos j] at hq
    have hlt := lt_lt j hs
    simp only [w_r_readSign_0, w_r_readSign_1, w_r_readSign_4, w_r_readSign_7, w_r_readSign_8, w_r_readSign_9, w_r_readSign_12, w_r_readSign_13, w_r_readSign_16, w_r_readSign_17, w_r_readSign_20, w_r_readSign_21, w_r_readSign_22, w_r_readSign_25, w_r_readSign_26, w_r_readSign_27, w_r_readSign_30, w_r_readSign_33, w_r_readSign_34, w_r_readSign_35, w_r_readSign_36, w_r_readSign_39, w_r_readSign_42, xr_4, cl_1, xr_2, h3, e_r_skipBlanks h1 h2 h5 h6, cl_1, e_r_letterHere (M := up M 1 2 (nI (sk (M 2) tl p))) h1 rfl h5 hl.2, show ∀ x, up M 1 2 x 2 = M 2 from fun _ => rfl, eq_true j, show ∀ x, up M 1 2 x 1 2 = x from fun _ => rfl, nI_1, up_up, i10, Bool.false_eq_true, eq_self, true_or, or_true, if_true, if_false, gv_int, gv_ref, av_some, al_some, un_int, un_ref, un_mk, ok4_0, ok4_1, ok4_2, ok4_3, ok4_4, Kn_some, Kn_none, true_and, and_true]
    exact hq _ (Fc.u1 (by omega)) ⟨⟨h1, rfl⟩, ⟨h3, h4⟩, h5, by omega⟩
  · rw [if_neg j] at hq
    simp only [w_r_readSign_0, w_r_readSign_1, w_r_readSign_4, w_r_readSign_7, w_r_readSign_8, w_r_readSign_9, w_r_readSign_12, w_r_readSign_13, w_r_readSign_16, w_r_readSign_17, w_r_readSign_20, w_r_readSign_21, w_r_readSign_22, w_r_readSign_25, w_r_readSign_26, w_r_readSign_27, w_r_readSign_30, w_r_readSign_33, w_r_readSign_34, w_r_readSign_35, w_r_readSign_36, w_r_readSign_39, w_r_readSign_42, xr_4, cl_1, xr_2, h3, e_r_skipBlanks h1 h2 h5 h6, cl_1, e_r_letterHere (M := up M 1 2 (nI (sk (M 2) tl p))) h1 rfl h5 hl.2, show ∀ x, up M 1 2 x 2 = M 2 from fun _ => rfl, eq_false j, show ∀ x, up M 1 2 x 1 2 = x from fun _ => rfl, e_r_fail0 (M := up M 1 2 (nI (sk (M 2) tl p))) h3, i10, Bool.false_eq_true, eq_self, true_or, or_true, if_true, if_false, gv_int, gv_ref, av_some, al_some, un_int, un_ref, un_mk, ok4_0, ok4_1, ok4_2, ok4_3, ok4_4, Kn_some, Kn_none, true_and, and_true]
    exact hq (by decide) _ (((Fc.u1 (by omega)).tr (Fc.u1 (by omega))).tr (Fc.u1 (by omega))) ⟨⟨h1, _, hl.2, rfl⟩, rfl, rfl⟩
/-- the number as the component counts it -/
def cn (tx : Nat → Int32) (s k : Nat) : Int32 := lp (fun j v => if j < 3 then v * 10 + tx (s + j) - 48 else v) k 0
theorem cn_s (tx : Nat → Int32) (s k : Nat) : cn tx s (k + 1) = if k < 3 then cn tx s k * 10 + tx (s + k) - 48 else cn tx s k := rfl
theorem isf_of {x : Int32} (h : isf x = true) : ∃ d, d ≤ 9 ∧ x = nI (48 + d) := by
  have h := of_decide_eq_true h
  obtain ⟨j, j1, j2⟩ := inb_of (k := x) (c := 58) (by rw [inb_iff]; omega) (by decide)
  rw [j2, nI_toInt (by omega)] at h
  exact ⟨j - 48, by omega, by rw [j2]; congr 1; omega⟩
theorem nv_b {tx : Nat → Int32} {s : Nat} : ∀ k, k ≤ 3 → (∀ j, j < k → isf (tx (s + j)) = true) → ∃ x, x < 10 ^ k ∧ nv tx s k = nI x ∧ cn tx s k = nI x
  | 0, _, _ => ⟨0, by decide, rfl, rfl⟩
  | k + 1, hk, hd => by
    obtain ⟨x, x1, x2, x3⟩ := nv_b (tx := tx) (s := s) k (by omega) (fun j hj => hd j (by omega))
    obtain ⟨d, d1, d2⟩ := isf_of (hd k (by omega))
    have hp : (10 : Nat) ^ k ≤ 10 ^ 3 := Nat.pow_le_pow_right (by decide) (by omega)
    have e1 : (10 : Int32) * nI x + nI (48 + d) - 48 = nI (10 * x + d) := by
      rw [show (10 : Int32) = nI 10 from rfl, show (48 : Int32) = nI 48 from rfl, pk_mul, nI_add, pk_sub (by omega), show 10 * x + (48 + d) - 48 = 10 * x + d by omega]
    have e2 : nI x * 10 + nI (48 + d) - 48 = nI (10 * x + d) := by
      rw [show (10 : Int32) = nI 10 from rfl, show (48 : Int32) = nI 48 from rfl, pk_mul, nI_add, pk_sub (by omega), show x * 10 + (48 + d) - 48 = 10 * x + d by omega]
    refine ⟨10 * x + d, by rw [Nat.pow_succ]; omega, ?_, ?_⟩
    · rw [nv_s, x2, if_neg (show ¬ (10000 : Int32) < nI x from nI_nlt (a := 10000) (by omega) (by decide)), d2, e1]
    · rw [cn_s, x3, if_pos (by omega), d2, e2]
theorem dn_fig {tx : Nat → Int32} {tl : Nat} : ∀ f s, s + f = tl → ∀ j, s + j < dn tx tl s → isf (tx (s + j)) = true
  | 0, s, h, j, hj => by
    have h : s = tl := h
    rw [h, dn_end] at hj; omega
  | f + 1, s, h, j, hj => by
    rw [dn_step (by omega)] at hj
    cases q : isf (tx s)
    · rw [q, if_neg (by decide)] at hj; omega
    · rw [q, if_pos rfl] at hj
      cases j with
      | zero => exact q
      | succ j =>
        have := dn_fig (tx := tx) (tl := tl) f (s + 1) (by omega) j (by omega)
        rw [show s + (j + 1) = s + 1 + j by omega]; exact this
theorem r_num {A B tl p : Nat} {M : Mm} {Q : Po} {most : Int32} (h : TC M tl p) (hq : numC (M 2) tl p most (fun e y => 0 < e → ∀ M', Fc M M' → BS M' tl e y → Q (some (.int 0)) (shw A B) M') (fun q v => rng v.toInt64 0 most.toInt64 = true → ∀ M', Fc M M' → TC M' tl q → M' 1 3 = nI (sk (M 2) tl p) → Q (some (.int v)) (shw A B) M')) : WP 66 0 [.ref 1, .int most, mk, mk] [] (shw A B) (0, 0) M Q := by
  obtain ⟨⟨h1, h2⟩, ⟨h3, h4⟩, h5, h6⟩ := h
  have hl := sk_le (tx := M 2) h6
  unfold numC at hq
  generalize hse : sk (M 2) tl p = s at hl hq
  have hdl := dn_le (tx := M 2) hl.2
  have hF : ∀ q, Fc M (up (up M 1 3 (nI s)) 1 2 (nI q)) := fun q => (Fc.u1 (by omega)).tr (Fc.u1 (by omega))
  -- behind the figures
  have fin : WP 66 80 [.ref 1, .int most, .int (cn (M 2) s (dn (M 2) tl s - s)), mk] [] (shw A B) (0, 0) (up (up M 1 3 (nI s)) 1 2 (nI (dn (M 2) tl s))) Q := by
    have e0 : nI (dn (M 2) tl s) - nI s = nI (dn (M 2) tl s - s) := pk_sub hdl.1
    cases hd : isf (lt (M 2) tl s)
    · rw [hd, if_neg (by decide)] at hq
      have en : dn (M 2) tl s = s := by
        by_cases z : s < tl
        · have el : lt (M 2) tl s = M 2 s := if_pos z
          rw [el] at hd
          rw [dn_step z, hd, if_neg (by decide)]
        · rw [show s = tl by omega, dn_end]
      rw [en] at e0 ⊢
      rw [Nat.sub_self] at e0 ⊢
      simp only [w_r_readNumber_0, w_r_readNumber_1, w_r_readNumber_4, w_r_readNumber_7, w_r_readNumber_8, w_r_readNumber_9, w_r_readNumber_10, w_r_readNumber_13, w_r_readNumber_14, w_r_readNumber_15, w_r_readNumber_18, w_r_readNumber_21, w_r_readNumber_22, w_r_readNumber_24, w_r_readNumber_27, w_r_readNumber_28, w_r_readNumber_31, w_r_readNumber_34, w_r_readNumber_35, w_r_readNumber_38, w_r_readNumber_41, w_r_readNumber_42, w_r_readNumber_45, w_r_readNumber_46, w_r_readNumber_49, w_r_readNumber_50, w_r_readNumber_51, w_r_readNumber_54, w_r_readNumber_55, w_r_readNumber_57, w_r_readNumber_58, w_r_readNumber_59, w_r_readNumber_62, w_r_readNumber_63, w_r_readNumber_65, w_r_readNumber_66, w_r_readNumber_67, w_r_readNumber_68, w_r_readNumber_69, w_r_readNumber_72, w_r_readNumber_73, w_r_readNumber_74, w_r_readNumber_77, w_r_readNumber_80, w_r_readNumber_81, w_r_readNumber_84, w_r_readNumber_85, w_r_readNumber_88, w_r_readNumber_89, w_r_readNumber_90, w_r_readNumber_91, w_r_readNumber_94, w_r_readNumber_95, w_r_readNumber_96, w_r_readNumber_97, w_r_readNumber_100, w_r_readNumber_103, w_r_readNumber_106, w_r_readNumber_107, w_r_readNumber_108, w_r_readNumber_111, w_r_readNumber_112, w_r_readNumber_113, w_r_readNumber_116, w_r_readNumber_117, w_r_readNumber_118, w_r_readNumber_119, w_r_readNumber_122, w_r_readNumber_125, w_r_readNumber_126, w_r_readNumber_129, w_r_readNumber_132, w_r_readNumber_133, w_r_readNumber_136, w_r_readNumber_137, xr_4, cl_1, xr_2, xr_3, xr_1, show ∀ X x, up X 1 2 x 1 2 = x from fun _ _ => rfl, show ∀ X x y, up (up X 1 3 x) 1 2 y 1 3 = x from fun _ _ _ => rfl, e0, show (nI 0 = 0) = True by decide, e_r_fail0 (M := up (up M 1 3 (nI s)) 1 2 (nI s)) h3, cl_1, show ∀ X : Mm, up (up X 1 4 1) 1 5 (nI s) 1 4 = 1 from fun _ => rfl, i10, Bool.false_eq_true, eq_self, true_or, or_true, if_true, if_false, gv_int, gv_ref, av_some, al_some, un_int, un_ref, un_mk, ok4_0, ok4_1, ok4_2, ok4_3, ok4_4, Kn_some, Kn_none, true_and, and_true]
      exact hq (by decide) _ (((hF s).tr (Fc.u1 (by omega))).tr (Fc.u1 (by omega))) ⟨⟨h1, s, hl.2, rfl⟩, rfl, rfl⟩
    · rw [hd, if_pos rfl] at hq
      have hst : s < tl := by
        by_cases z : s < tl
        · exact z
        · unfold lt at hd; rw [if_neg z] at hd; exact absurd hd (by decide)
      have en : s < dn (M 2) tl s := by
        have el : lt (M 2) tl s = M 2 s := if_pos hst
        rw [el] at hd
        rw [dn_step hst, hd, if_pos rfl]
        have := dn_le (tx := M 2) (show s + 1 ≤ tl from hst)
        omega
      have g0 : (nI (dn (M 2) tl s - s) = 0) = False := eq_false (nI_ne0 (by omega) (by omega))
      have bad2 : (fun (e : Int32) (y : Nat) => 0 < e → ∀ M', Fc M M' → BS M' tl e y → Q (some (.int 0)) (shw A B) M') 2 s → Q (some (.int 0)) (shw A B) (up (up (up (up M 1 3 (nI s)) 1 2 (nI (dn (M 2) tl s))) 1 4 2) 1 5 (nI s)) := fun z => z (by decide) _ (((hF _).tr (Fc.u1 (by omega))).tr (Fc.u1 (by omega))) ⟨⟨h1, _, hdl.2, rfl⟩, rfl, rfl⟩
      by_cases b : dn (M 2) tl s - s ≤ 3
      · have p3 : ((3 : Int32) < nI (dn (M 2) tl s - s)) = False := eq_false (nI_nlt (b := dn (M 2) tl s - s) (a := 3) b (by decide))
        obtain ⟨x, x1, x2, x3⟩ := nv_b (tx := M 2) (s := s) (dn (M 2) tl s - s) b (fun j hj => dn_fig (tx := M 2) (tl := tl) (tl - s) s (by omega) j (by omega))
        have hp : (10 : Nat) ^ (dn (M 2) tl s - s) ≤ 10 ^ 3 := Nat.pow_le_pow_right (by decide) b
        have er : rng (nI x).toInt64 0 most.toInt64 = decide (¬ most < nI x) := by
          rw [rng_c (l := 0) (h := most) (l' := 0) (show (0 : Int32).toInt64 = 0 by decide) rfl, decide_eq_decide, Int32.lt_iff_toInt_lt, nI_toInt (by omega), show (0 : Int32).toInt = 0 from rfl]
          omega
        unfold okN at hq
        rw [decide_eq_true b, Bool.true_and, x2, er] at hq
        rw [x3]
        by_cases c : most < nI x
        · rw [decide_eq_false (fun z => z c), if_neg (by decide)] at hq
          simp only [w_r_readNumber_0, w_r_readNumber_1, w_r_readNumber_4, w_r_readNumber_7, w_r_readNumber_8, w_r_readNumber_9, w_r_readNumber_10, w_r_readNumber_13, w_r_readNumber_14, w_r_readNumber_15, w_r_readNumber_18, w_r_readNumber_21, w_r_readNumber_22, w_r_readNumber_24, w_r_readNumber_27, w_r_readNumber_28, w_r_readNumber_31, w_r_readNumber_34, w_r_readNumber_35, w_r_readNumber_38, w_r_readNumber_41, w_r_readNumber_42, w_r_readNumber_45, w_r_readNumber_46, w_r_readNumber_49, w_r_readNumber_50, w_r_readNumber_51, w_r_readNumber_54, w_r_readNumber_55, w_r_readNumber_57, w_r_readNumber_58, w_r_readNumber_59, w_r_readNumber_62, w_r_readNumber_63, w_r_readNumber_65, w_r_readNumber_66, w_r_readNumber_67, w_r_readNumber_68, w_r_readNumber_69, w_r_readNumber_72, w_r_readNumber_73, w_r_readNumber_74, w_r_readNumber_77, w_r_readNumber_80, w_r_readNumber_81, w_r_readNumber_84, w_r_readNumber_85, w_r_readNumber_88, w_r_readNumber_89, w_r_readNumber_90, w_r_readNumber_91, w_r_readNumber_94, w_r_readNumber_95, w_r_readNumber_96, w_r_readNumber_97, w_r_readNumber_100, w_r_readNumber_103, w_r_readNumber_106, w_r_readNumber_107, w_r_readNumber_108, w_r_readNumber_111, w_r_readNumber_112, w_r_readNumber_113, w_r_readNumber_116, w_r_readNumber_117, w_r_readNumber_118, w_r_readNumber_119, w_r_readNumber_122, w_r_readNumber_125, w_r_readNumber_126, w_r_readNumber_129, w_r_readNumber_132, w_r_readNumber_133, w_r_readNumber_136, w_r_readNumber_137, xr_4, cl_1, xr_2, xr_3, xr_1, show ∀ X x, up X 1 2 x 1 2 = x from fun _ _ => rfl, show ∀ X x y, up (up X 1 3 x) 1 2 y 1 3 = x from fun _ _ _ => rfl, e0, g0, p3, eq_true c, e_r_fail0 (M := up (up M 1 3 (nI s)) 1 2 (nI (dn (M 2) tl s))) h3, cl_1, show ∀ X : Mm, up (up X 1 4 2) 1 5 (nI s) 1 4 = 2 from fun _ => rfl, show ((2 : Int32) = 0) = False by decide, i10, Bool.false_eq_true, eq_self, true_or, or_true, if_true, if_false, gv_int, gv_ref, av_some, al_some, un_int, un_ref, un_mk, ok4_0, ok4_1, ok4_2, ok4_3, ok4_4, Kn_some, Kn_none, true_and, and_true]
          exact bad2 hq
        · rw [decide_eq_true c, if_pos rfl] at hq
          simp only [w_r_readNumber_0, w_r_readNumber_1, w_r_readNumber_4, w_r_readNumber_7, w_r_readNumber_8, w_r_readNumber_9, w_r_readNumber_10, w_r_readNumber_13, w_r_readNumber_14, w_r_readNumber_15, w_r_readNumber_18, w_r_readNumber_21, w_r_readNumber_22, w_r_readNumber_24, w_r_readNumber_27, w_r_readNumber_28, w_r_readNumber_31, w_r_readNumber_34, w_r_readNumber_35, w_r_readNumber_38, w_r_readNumber_41, w_r_readNumber_42, w_r_readNumber_45, w_r_readNumber_46, w_r_readNumber_49, w_r_readNumber_50, w_r_readNumber_51, w_r_readNumber_54, w_r_readNumber_55, w_r_readNumber_57, w_r_readNumber_58, w_r_readNumber_59, w_r_readNumber_62, w_r_readNumber_63, w_r_readNumber_65, w_r_readNumber_66, w_r_readNumber_67, w_r_readNumber_68, w_r_readNumber_69, w_r_readNumber_72, w_r_readNumber_73, w_r_readNumber_74, w_r_readNumber_77, w_r_readNumber_80, w_r_readNumber_81, w_r_readNumber_84, w_r_readNumber_85, w_r_readNumber_88, w_r_readNumber_89, w_r_readNumber_90, w_r_readNumber_91, w_r_readNumber_94, w_r_readNumber_95, w_r_readNumber_96, w_r_readNumber_97, w_r_readNumber_100, w_r_readNumber_103, w_r_readNumber_106, w_r_readNumber_107, w_r_readNumber_108, w_r_readNumber_111, w_r_readNumber_112, w_r_readNumber_113, w_r_readNumber_116, w_r_readNumber_117, w_r_readNumber_118, w_r_readNumber_119, w_r_readNumber_122, w_r_readNumber_125, w_r_readNumber_126, w_r_readNumber_129, w_r_readNumber_132, w_r_readNumber_133, w_r_readNumber_136, w_r_readNumber_137, xr_4, cl_1, xr_2, xr_3, xr_1, show ∀ X x, up X 1 2 x 1 2 = x from fun _ _ => rfl, show ∀ X x y, up (up X 1 3 x) 1 2 y 1 3 = x from fun _ _ _ => rfl, e0, g0, p3, eq_false c, show ∀ x y, up (up M 1 3 x) 1 2 y 1 4 = 0 from fun _ _ => h3, i10, Bool.false_eq_true, eq_self, true_or, or_true, if_true, if_false, gv_int, gv_ref, av_some, al_some, un_int, un_ref, un_mk, ok4_0, ok4_1, ok4_2, ok4_3, ok4_4, Kn_some, Kn_none, true_and, and_true]
          exact hq (by rw [er]; exact decide_eq_true c) _ (hF _) ⟨⟨h1, rfl⟩, ⟨h3, h4⟩, h5, hdl.2⟩ rfl
      · have p3 : ((3 : Int32) < nI (dn (M 2) tl s - s)) = True := eq_true (nI_lt (a := 3) (by omega) (by omega))
        unfold okN at hq
        rw [decide_eq_false b, Bool.false_and, if_neg (by decide)] at hq
        simp only [w_r_readNumber_0, w_r_readNumber_1, w_r_readNumber_4, w_r_readNumber_7, w_r_readNumber_8, w_r_readNumber_9, w_r_readNumber_10, w_r_readNumber_13, w_r_readNumber_14, w_r_readNumber_15, w_r_readNumber_18, w_r_readNumber_21, w_r_readNumber_22, w_r_readNumber_24, w_r_readNumber_27, w_r_readNumber_28, w_r_readNumber_31, w_r_readNumber_34, w_r_readNumber_35, w_r_readNumber_38, w_r_readNumber_41, w_r_readNumber_42, w_r_readNumber_45, w_r_readNumber_46, w_r_readNumber_49, w_r_readNumber_50, w_r_readNumber_51, w_r_readNumber_54, w_r_readNumber_55, w_r_readNumber_57, w_r_readNumber_58, w_r_readNumber_59, w_r_readNumber_62, w_r_readNumber_63, w_r_readNumber_65, w_r_readNumber_66, w_r_readNumber_67, w_r_readNumber_68, w_r_readNumber_69, w_r_readNumber_72, w_r_readNumber_73, w_r_readNumber_74, w_r_readNumber_77, w_r_readNumber_80, w_r_readNumber_81, w_r_readNumber_84, w_r_readNumber_85, w_r_readNumber_88, w_r_readNumber_89, w_r_readNumber_90, w_r_readNumber_91, w_r_readNumber_94, w_r_readNumber_95, w_r_readNumber_96, w_r_readNumber_97, w_r_readNumber_100, w_r_readNumber_103, w_r_readNumber_106, w_r_readNumber_107, w_r_readNumber_108, w_r_readNumber_111, w_r_readNumber_112, w_r_readNumber_113, w_r_readNumber_116, w_r_readNumber_117, w_r_readNumber_118, w_r_readNumber_119, w_r_readNumber_122, w_r_readNumber_125, w_r_readNumber_126, w_r_readNumber_129, w_r_readNumber_132, w_r_readNumber_133, w_r_readNumber_136, w_r_readNumber_137, xr_4, cl_1, xr_2, xr_3, xr_1, show ∀ X x, up X 1 2 x 1 2 = x from fun _ _ => rfl, show ∀ X x y, up (up X 1 3 x) 1 2 y 1 3 = x from fun _ _ _ => rfl, e0, g0, p3, e_r_fail0 (M := up (up M 1 3 (nI s)) 1 2 (nI (dn (M 2) tl s))) h3, cl_1, show ∀ X : Mm, up (up X 1 4 2) 1 5 (nI s) 1 4 = 2 from fun _ => rfl, show ((2 : Int32) = 0) = False by decide, i10, Bool.false_eq_true, eq_self, true_or, or_true, if_true, if_false, gv_int, gv_ref, av_some, al_some, un_int, un_ref, un_mk, ok4_0, ok4_1, ok4_2, ok4_3, ok4_4, Kn_some, Kn_none, true_and, and_true]
        exact bad2 hq
  have key : ∀ f q, q + f = tl → s ≤ q → dn (M 2) tl q = dn (M 2) tl s → WP 66 23 [.ref 1, .int most, .int (cn (M 2) s (q - s)), mk] [] (shw A B) (0, 0) (up (up M 1 3 (nI s)) 1 2 (nI q)) Q := by
    intro f
    induction f with
    | zero =>
      intro q hq hsq e
      have hq : q = tl := hq
      subst hq
      rw [dn_end] at e
      rw [← e] at fin
      rw [w_r_readNumber_23]
      simp only [w_r_readNumber_0, w_r_readNumber_1, w_r_readNumber_4, w_r_readNumber_7, w_r_readNumber_8, w_r_readNumber_9, w_r_readNumber_10, w_r_readNumber_13, w_r_readNumber_14, w_r_readNumber_15, w_r_readNumber_18, w_r_readNumber_21, w_r_readNumber_22, w_r_readNumber_24, w_r_readNumber_27, w_r_readNumber_28, w_r_readNumber_31, w_r_readNumber_34, w_r_readNumber_35, w_r_readNumber_38, w_r_readNumber_41, w_r_readNumber_42, w_r_readNumber_45, w_r_readNumber_46, w_r_readNumber_49, w_r_readNumber_50, w_r_readNumber_51, w_r_readNumber_54, w_r_readNumber_55, w_r_readNumber_57, w_r_readNumber_58, w_r_readNumber_59, w_r_readNumber_62, w_r_readNumber_63, w_r_readNumber_65, w_r_readNumber_66, w_r_readNumber_67, w_r_readNumber_68, w_r_readNumber_69, w_r_readNumber_72, w_r_readNumber_73, w_r_readNumber_74, w_r_readNumber_77, w_r_readNumber_81, w_r_readNumber_84, w_r_readNumber_85, w_r_readNumber_88, w_r_readNumber_89, w_r_readNumber_90, w_r_readNumber_91, w_r_readNumber_94, w_r_readNumber_95, w_r_readNumber_96, w_r_readNumber_97, w_r_readNumber_100, w_r_readNumber_103, w_r_readNumber_106, w_r_readNumber_107, w_r_readNumber_108, w_r_readNumber_111, w_r_readNumber_112, w_r_readNumber_113, w_r_readNumber_116, w_r_readNumber_117, w_r_readNumber_118, w_r_readNumber_119, w_r_readNumber_122, w_r_readNumber_125, w_r_readNumber_126, w_r_readNumber_129, w_r_readNumber_132, w_r_readNumber_133, w_r_readNumber_136, w_r_readNumber_137, xr_4, cl_1, xr_2, xr_3, xr_1, show ∀ X x, up X 1 2 x 1 2 = x from fun _ _ => rfl, show ∀ x y, up (up M 1 3 x) 1 2 y 1 1 = nI q from fun _ _ => h1, lt_irr, i10, Bool.false_eq_true, eq_self, true_or, or_true, if_true, if_false, gv_int, gv_ref, av_some, al_some, un_int, un_ref, un_mk, ok4_0, ok4_1, ok4_2, ok4_3, ok4_4, Kn_some, Kn_none, true_and, and_true]
      exact fin
    | succ f ih =>
      intro q hq hsq e
      have g1 : nI q < nI tl := nI_lt (by omega) (by omega)
      have el : lt (M 2) tl q = M 2 q := if_pos (by omega)
      rw [dn_step (by omega)] at e
      rw [w_r_readNumber_23]
      have fg := fun (Q : Po) => e_r_isFigureHere (A := A) (B := B) (M := up (up M 1 3 (nI s)) 1 2 (nI q)) (Q := Q) h1 rfl h5 (show q ≤ tl by omega)
      have lh := fun (Q : Po) => e_r_letterHere (A := A) (B := B) (M := up (up M 1 3 (nI s)) 1 2 (nI q)) (Q := Q) h1 rfl h5 (show q ≤ tl by omega)
      have e2 : up (up M 1 3 (nI s)) 1 2 (nI q) 2 = M 2 := rfl
      rw [e2, el] at fg lh
      cases b : isf (M 2 q)
      · rw [b, if_neg (by decide)] at e
        rw [← e] at fin
        simp only [w_r_readNumber_0, w_r_readNumber_1, w_r_readNumber_4, w_r_readNumber_7, w_r_readNumber_8, w_r_readNumber_9, w_r_readNumber_10, w_r_readNumber_13, w_r_readNumber_14, w_r_readNumber_15, w_r_readNumber_18, w_r_readNumber_21, w_r_readNumber_22, w_r_readNumber_24, w_r_readNumber_27, w_r_readNumber_28, w_r_readNumber_31, w_r_readNumber_34, w_r_readNumber_35, w_r_readNumber_38, w_r_readNumber_41, w_r_readNumber_42, w_r_readNumber_45, w_r_readNumber_46, w_r_readNumber_49, w_r_readNumber_50, w_r_readNumber_51, w_r_readNumber_54, w_r_readNumber_55, w_r_readNumber_57, w_r_readNumber_58, w_r_readNumber_59, w_r_readNumber_62, w_r_readNumber_63, w_r_readNumber_65, w_r_readNumber_66, w_r_readNumber_67, w_r_readNumber_68, w_r_readNumber_69, w_r_readNumber_72, w_r_readNumber_73, w_r_readNumber_74, w_r_readNumber_77, w_r_readNumber_81, w_r_readNumber_84, w_r_readNumber_85, w_r_readNumber_88, w_r_readNumber_89, w_r_readNumber_90, w_r_readNumber_91, w_r_readNumber_94, w_r_readNumber_95, w_r_readNumber_96, w_r_readNumber_97, w_r_readNumber_100, w_r_readNumber_103, w_r_readNumber_106, w_r_readNumber_107, w_r_readNumber_108, w_r_readNumber_111, w_r_readNumber_112, w_r_readNumber_113, w_r_readNumber_116, w_r_readNumber_117, w_r_readNumber_118, w_r_readNumber_119, w_r_readNumber_122, w_r_readNumber_125, w_r_readNumber_126, w_r_readNumber_129, w_r_readNumber_132, w_r_readNumber_133, w_r_readNumber_136, w_r_readNumber_137, xr_4, cl_1, xr_2, xr_3, xr_1, show ∀ X x, up X 1 2 x 1 2 = x from fun _ _ => rfl, show ∀ x y, up (up M 1 3 x) 1 2 y 1 1 = nI tl from fun _ _ => h1, g1, fg, b, cl_1, i10, Bool.false_eq_true, eq_self, true_or, or_true, if_true, if_false, gv_int, gv_ref, av_some, al_some, un_int, un_ref, un_mk, ok4_0, ok4_1, ok4_2, ok4_3, ok4_4, Kn_some, Kn_none, true_and, and_true]
        exact fin
      · rw [b, if_pos rfl] at e
        have ih := ih (q + 1) (by omega) (by omega) e
        have ec := cn_s (M 2) s (q - s)
        rw [show q - s + 1 = q + 1 - s by omega, show s + (q - s) = q by omega] at ec
        rw [ec] at ih
        have e0 : nI q - nI s = nI (q - s) := pk_sub hsq
        by_cases z : q - s < 3
        · have z' : nI (q - s) < 3 := nI_lt (b := 3) z (by decide)
          rw [if_pos z] at ih
          simp only [w_r_readNumber_0, w_r_readNumber_1, w_r_readNumber_4, w_r_readNumber_7, w_r_readNumber_8, w_r_readNumber_9, w_r_readNumber_10, w_r_readNumber_13, w_r_readNumber_14, w_r_readNumber_15, w_r_readNumber_18, w_r_readNumber_21, w_r_readNumber_22, w_r_readNumber_24, w_r_readNumber_27, w_r_readNumber_28, w_r_readNumber_31, w_r_readNumber_34, w_r_readNumber_35, w_r_readNumber_38, w_r_readNumber_41, w_r_readNumber_42, w_r_readNumber_45, w_r_readNumber_46, w_r_readNumber_49, w_r_readNumber_50, w_r_readNumber_51, w_r_readNumber_54, w_r_readNumber_55, w_r_readNumber_57, w_r_readNumber_58, w_r_readNumber_59, w_r_readNumber_62, w_r_readNumber_63, w_r_readNumber_65, w_r_readNumber_66, w_r_readNumber_67, w_r_readNumber_68, w_r_readNumber_69, w_r_readNumber_72, w_r_readNumber_73, w_r_readNumber_74, w_r_readNumber_77, w_r_readNumber_81, w_r_readNumber_84, w_r_readNumber_85, w_r_readNumber_88, w_r_readNumber_89, w_r_readNumber_90, w_r_readNumber_91, w_r_readNumber_94, w_r_readNumber_95, w_r_readNumber_96, w_r_readNumber_97, w_r_readNumber_100, w_r_readNumber_103, w_r_readNumber_106, w_r_readNumber_107, w_r_readNumber_108, w_r_readNumber_111, w_r_readNumber_112, w_r_readNumber_113, w_r_readNumber_116, w_r_readNumber_117, w_r_readNumber_118, w_r_readNumber_119, w_r_readNumber_122, w_r_readNumber_125, w_r_readNumber_126, w_r_readNumber_129, w_r_readNumber_132, w_r_readNumber_133, w_r_readNumber_136, w_r_readNumber_137, xr_4, cl_1, xr_2, xr_3, xr_1, show ∀ X x, up X 1 2 x 1 2 = x from fun _ _ => rfl, show ∀ X x y, up (up X 1 3 x) 1 2 y 1 3 = x from fun _ _ _ => rfl, show ∀ x y, up (up M 1 3 x) 1 2 y 1 1 = nI tl from fun _ _ => h1, g1, fg, lh, b, e0, z', nI_1, up_up, cl_1, i10, Bool.false_eq_true, eq_self, true_or, or_true, if_true, if_false, gv_int, gv_ref, av_some, al_some, un_int, un_ref, un_mk, ok4_0, ok4_1, ok4_2, ok4_3, ok4_4, Kn_some, Kn_none, true_and, and_true]
          exact ih
        · have z' : (nI (q - s) < 3) = False := eq_false (nI_nlt (b := 3) (by omega) (by omega))
          rw [if_neg z] at ih
          simp only [w_r_readNumber_0, w_r_readNumber_1, w_r_readNumber_4, w_r_readNumber_7, w_r_readNumber_8, w_r_readNumber_9, w_r_readNumber_10, w_r_readNumber_13, w_r_readNumber_14, w_r_readNumber_15, w_r_readNumber_18, w_r_readNumber_21, w_r_readNumber_22, w_r_readNumber_24, w_r_readNumber_27, w_r_readNumber_28, w_r_readNumber_31, w_r_readNumber_34, w_r_readNumber_35, w_r_readNumber_38, w_r_readNumber_41, w_r_readNumber_42, w_r_readNumber_45, w_r_readNumber_46, w_r_readNumber_49, w_r_readNumber_50, w_r_readNumber_51, w_r_readNumber_54, w_r_readNumber_55, w_r_readNumber_57, w_r_readNumber_58, w_r_readNumber_59, w_r_readNumber_62, w_r_readNumber_63, w_r_readNumber_65, w_r_readNumber_66, w_r_readNumber_67, w_r_readNumber_68, w_r_readNumber_69, w_r_readNumber_72, w_r_readNumber_73, w_r_readNumber_74, w_r_readNumber_77, w_r_readNumber_81, w_r_readNumber_84, w_r_readNumber_85, w_r_readNumber_88, w_r_readNumber_89, w_r_readNumber_90, w_r_readNumber_91, w_r_readNumber_94, w_r_readNumber_95, w_r_readNumber_96, w_r_readNumber_97, w_r_readNumber_100, w_r_readNumber_103, w_r_readNumber_106, w_r_readNumber_107, w_r_readNumber_108, w_r_readNumber_111, w_r_readNumber_112, w_r_readNumber_113, w_r_readNumber_116, w_r_readNumber_117, w_r_readNumber_118, w_r_readNumber_119, w_r_readNumber_122, w_r_readNumber_125, w_r_readNumber_126, w_r_readNumber_129, w_r_readNumber_132, w_r_readNumber_133, w_r_readNumber_136, w_r_readNumber_137, xr_4, cl_1, xr_2, xr_3, xr_1, show ∀ X x, up X 1 2 x 1 2 = x from fun _ _ => rfl, show ∀ X x y, up (up X 1 3 x) 1 2 y 1 3 = x from fun _ _ _ => rfl, show ∀ x y, up (up M 1 3 x) 1 2 y 1 1 = nI tl from fun _ _ => h1, g1, fg, b, e0, z', nI_1, up_up, cl_1, i10, Bool.false_eq_true, eq_self, true_or, or_true, if_true, if_false, gv_int, gv_ref, av_some, al_some, un_int, un_ref, un_mk, ok4_0, ok4_1, ok4_2, ok4_3, ok4_4, Kn_some, Kn_none, true_and, and_true]
          exact ih
  simp only [w_r_readNumber_0, w_r_readNumber_1, w_r_readNumber_4, w_r_readNumber_7, w_r_readNumber_8, w_r_readNumber_9, w_r_readNumber_10, w_r_readNumber_13, w_r_readNumber_14, w_r_readNumber_15, w_r_readNumber_18, w_r_readNumber_21, w_r_readNumber_22, w_r_readNumber_24, w_r_readNumber_27, w_r_readNumber_28, w_r_readNumber_31, w_r_readNumber_34, w_r_readNumber_35, w_r_readNumber_38, w_r_readNumber_41, w_r_readNumber_42, w_r_readNumber_45, w_r_readNumber_46, w_r_readNumber_49, w_r_readNumber_50, w_r_readNumber_51, w_r_readNumber_54, w_r_readNumber_55, w_r_readNumber_57, w_r_readNumber_58, w_r_readNumber_59, w_r_readNumber_62, w_r_readNumber_63, w_r_readNumber_65, w_r_readNumber_66, w_r_readNumber_67, w_r_readNumber_68, w_r_readNumber_69, w_r_readNumber_72, w_r_readNumber_73, w_r_readNumber_74, w_r_readNumber_77, w_r_readNumber_80, w_r_readNumber_81, w_r_readNumber_84, w_r_readNumber_85, w_r_readNumber_88, w_r_readNumber_89, w_r_readNumber_90, w_r_readNumber_91, w_r_readNumber_94, w_r_readNumber_95, w_r_readNumber_96, w_r_readNumber_97, w_r_readNumber_100, w_r_readNumber_103, w_r_readNumber_106, w_r_readNumber_107, w_r_readNumber_108, w_r_readNumber_111, w_r_readNumber_112, w_r_readNumber_113, w_r_readNumber_116, w_r_readNumber_117, w_r_readNumber_118, w_r_readNumber_119, w_r_readNumber_122, w_r_readNumber_125, w_r_readNumber_126, w_r_readNumber_129, w_r_readNumber_132, w_r_readNumber_133, w_r_readNumber_136, w_r_readNumber_137, xr_4, cl_1, xr_2, xr_3, xr_1, h3, e_r_skipBlanks h1 h2 h5 h6, hse, cl_1, show ∀ x, up M 1 2 x 1 2 = x from fun _ => rfl, i10, Bool.false_eq_true, eq_self, true_or, or_true, if_true, if_false, gv_int, gv_ref, av_some, al_some, un_int, un_ref, un_mk, ok4_0, ok4_1, ok4_2, ok4_3, ok4_4, Kn_some, Kn_none, true_and, and_true]
  have em : up (up M 1 2 (nI s)) 1 3 (nI s) = up (up M 1 3 (nI s)) 1 2 (nI s) := by
    funext c j
    by_cases hc : c = 1
    · subst hc
      by_cases j1 : j = 2 <;> by_cases j2 : j = 3 <;> simp [up, upd, j1, j2]
    · simp [up, hc]
  rw [em]
  have := key (tl - s) s (by omega) (Nat.le_refl _) rfl
  rw [Nat.sub_self] at this
  exact this
