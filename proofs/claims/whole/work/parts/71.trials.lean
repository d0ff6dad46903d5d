/-! the component: swaps -/
theorem e_p_wT {A B p K C N i t : Nat} {M : Mm} {Q : Po} {kd : Nat → Nat} {W : Nat → Nat → Int32} {lk : Nat → Int32} (hp : isPP p) (hq : CQ M p K C N kd W lk) (hi : i < C) (ht : t < N) : WP 42 0 [.ref p, .int (nI i), .int (nI t)] [] (shw A B) (0, 0) M Q = Q (some (.int (W i t))) (shw A B) M := by
  obtain ⟨⟨h1, h4, h5, h6⟩, hk, hW, hl, -⟩ := hq
  rw [e_p_worthOfThing hp (show i < 4 by omega) (show t < 7 by omega) (hk t ht).2 (hk t ht).1, hW i t hi ht]
theorem e_t_agree {A B p o K C N a b : Nat} {M : Mm} {Q : Po} {kd : Nat → Nat} {W : Nat → Nat → Int32} {lk : Nat → Int32} (hp : isPP p) (ho : isHH o) (hq : CQ M p K C N kd W lk) (hv : HV (M (o + 1)) C) (ha : a < N) (hb : b < N) : WP 81 0 [.ref 15, .ref p, .ref o, .int (nI a), .int (nI b), mk, mk, mk, mk] [] (shw A B) (0, 0) M Q = if agP W (M (o + 1)) a b then Q (some (.int 1)) (shw A B) M else Q (some (.int 0)) (shw A B) M := by
  have h6 := hq.1.2.2.2
  have h5 := hq.1.2.2.1
  have n1 : ((-1 : Int32) < 0) = True := by decide
  rcases hv a (by omega) with qa | ⟨i, i1, qa⟩
  · have e : agP W (M (o + 1)) a b = false := by
      unfold agP csw; rw [qa]; simp
    rw [e]
    simp only [w_t_agree_0, w_t_agree_1, w_t_agree_2, w_t_agree_4, w_t_agree_7, w_t_agree_10, w_t_agree_11, w_t_agree_12, w_t_agree_13, w_t_agree_14, w_t_agree_17, w_t_agree_19, w_t_agree_20, w_t_agree_22, w_t_agree_25, w_t_agree_27, w_t_agree_28, w_t_agree_30, w_t_agree_32, w_t_agree_35, w_t_agree_36, w_t_agree_38, w_t_agree_39, w_t_agree_42, w_t_agree_43, w_t_agree_45, w_t_agree_46, w_t_agree_48, w_t_agree_49, w_t_agree_52, w_t_agree_53, w_t_agree_55, w_t_agree_57, w_t_agree_60, w_t_agree_61, w_t_agree_63, w_t_agree_65, w_t_agree_68, w_t_agree_70, w_t_agree_73, w_t_agree_75, w_t_agree_77, w_t_agree_78, w_t_agree_81, w_t_agree_82, w_t_agree_85, w_t_agree_86, e_h_canExchange ho (show a < 7 by omega) (show b < 7 by omega), qa, not_true_eq_false, false_and, zhh ho, i10, Bool.false_eq_true, eq_self, true_or, or_true, if_true, if_false, gv_int, gv_ref, av_some, al_some, un_int, un_ref, un_mk, ok4_0, ok4_1, ok4_2, ok4_3, ok4_4, Kn_some, Kn_none, true_and, and_true]
  · rcases hv b (by omega) with qb | ⟨j, j1, qb⟩
    · have e : agP W (M (o + 1)) a b = false := by
        unfold agP csw; rw [qb]; simp
      rw [e]
      simp only [w_t_agree_0, w_t_agree_1, w_t_agree_2, w_t_agree_4, w_t_agree_7, w_t_agree_10, w_t_agree_11, w_t_agree_12, w_t_agree_13, w_t_agree_14, w_t_agree_17, w_t_agree_19, w_t_agree_20, w_t_agree_22, w_t_agree_25, w_t_agree_27, w_t_agree_28, w_t_agree_30, w_t_agree_32, w_t_agree_35, w_t_agree_36, w_t_agree_38, w_t_agree_39, w_t_agree_42, w_t_agree_43, w_t_agree_45, w_t_agree_46, w_t_agree_48, w_t_agree_49, w_t_agree_52, w_t_agree_53, w_t_agree_55, w_t_agree_57, w_t_agree_60, w_t_agree_61, w_t_agree_63, w_t_agree_65, w_t_agree_68, w_t_agree_70, w_t_agree_73, w_t_agree_75, w_t_agree_77, w_t_agree_78, w_t_agree_81, w_t_agree_82, w_t_agree_85, w_t_agree_86, e_h_canExchange ho (show a < 7 by omega) (show b < 7 by omega), qb, not_true_eq_false, false_and, and_false, zhh ho, i10, Bool.false_eq_true, eq_self, true_or, or_true, if_true, if_false, gv_int, gv_ref, av_some, al_some, un_int, un_ref, un_mk, ok4_0, ok4_1, ok4_2, ok4_3, ok4_4, Kn_some, Kn_none, true_and, and_true]
    · have na : (nI i = -1) = False := eq_false (nI_ne_m1 (by omega))
      have nb : (nI j = -1) = False := eq_false (nI_ne_m1 (by omega))
      have la : (nI i < 0) = False := eq_false (nI_pos (by omega))
      have lb : (nI j < 0) = False := eq_false (nI_pos (by omega))
      by_cases r : nI i = nI j
      · have e : agP W (M (o + 1)) a b = false := by
          unfold agP csw; rw [qa, qb]; simp [r]
        rw [e]
        simp only [w_t_agree_0, w_t_agree_1, w_t_agree_2, w_t_agree_4, w_t_agree_7, w_t_agree_10, w_t_agree_11, w_t_agree_12, w_t_agree_13, w_t_agree_14, w_t_agree_17, w_t_agree_19, w_t_agree_20, w_t_agree_22, w_t_agree_25, w_t_agree_27, w_t_agree_28, w_t_agree_30, w_t_agree_32, w_t_agree_35, w_t_agree_36, w_t_agree_38, w_t_agree_39, w_t_agree_42, w_t_agree_43, w_t_agree_45, w_t_agree_46, w_t_agree_48, w_t_agree_49, w_t_agree_52, w_t_agree_53, w_t_agree_55, w_t_agree_57, w_t_agree_60, w_t_agree_61, w_t_agree_63, w_t_agree_65, w_t_agree_68, w_t_agree_70, w_t_agree_73, w_t_agree_75, w_t_agree_77, w_t_agree_78, w_t_agree_81, w_t_agree_82, w_t_agree_85, w_t_agree_86, e_h_canExchange ho (show a < 7 by omega) (show b < 7 by omega), qa, qb, na, nb, r, not_true_eq_false, not_false_eq_true, and_false, zhh ho, i10, Bool.false_eq_true, eq_self, true_or, or_true, if_true, if_false, gv_int, gv_ref, av_some, al_some, un_int, un_ref, un_mk, ok4_0, ok4_1, ok4_2, ok4_3, ok4_4, Kn_some, Kn_none, true_and, and_true]
      · have e : agP W (M (o + 1)) a b = agE (W i b - W i a) (W j a - W j b) := by
          unfold agP csw; rw [qa, qb, nI_clamp (show i < 2 ^ 31 by omega), nI_clamp (show j < 2 ^ 31 by omega)]; simp [la, lb, r]
        rw [e]
        simp only [w_t_agree_0, w_t_agree_1, w_t_agree_2, w_t_agree_4, w_t_agree_7, w_t_agree_10, w_t_agree_11, w_t_agree_12, w_t_agree_13, w_t_agree_14, w_t_agree_17, w_t_agree_19, w_t_agree_20, w_t_agree_22, w_t_agree_25, w_t_agree_27, w_t_agree_28, w_t_agree_30, w_t_agree_32, w_t_agree_35, w_t_agree_36, w_t_agree_38, w_t_agree_39, w_t_agree_42, w_t_agree_43, w_t_agree_45, w_t_agree_46, w_t_agree_48, w_t_agree_49, w_t_agree_52, w_t_agree_53, w_t_agree_55, w_t_agree_57, w_t_agree_60, w_t_agree_61, w_t_agree_63, w_t_agree_65, w_t_agree_68, w_t_agree_70, w_t_agree_73, w_t_agree_75, w_t_agree_77, w_t_agree_78, w_t_agree_81, w_t_agree_82, w_t_agree_85, w_t_agree_86, e_h_canExchange ho (show a < 7 by omega) (show b < 7 by omega), e_h_holderOf ho (show a < 7 by omega), e_h_holderOf ho (show b < 7 by omega), qa, qb, na, nb, eq_false r, not_false_eq_true, zhh ho, zpp hp, e_p_wT hp hq i1 ha, e_p_wT hp hq i1 hb, e_p_wT hp hq j1 ha, e_p_wT hp hq j1 hb, i10, Bool.false_eq_true, eq_self, true_or, or_true, if_true, if_false, gv_int, gv_ref, av_some, al_some, un_int, un_ref, un_mk, ok4_0, ok4_1, ok4_2, ok4_3, ok4_4, Kn_some, Kn_none, true_and, and_true]
        unfold agE
        simp only [decide_eq_true_eq]
        by_cases q1 : W i b - W i a < 0 <;> by_cases q2 : W j a - W j b < 0 <;> by_cases q3 : 0 < W i b - W i a + (W j a - W j b) <;> simp only [q1, q2, q3, if_true, if_false, not_true_eq_false, not_false_eq_true, true_and, false_and, and_true, and_false]
theorem swL_skip {W : Nat → Nat → Int32} {h : Nat → Int32} {n a : Nat} : ∀ d, (∀ k, a ≤ k → k < a + d → okS W h n k = false) → swL W h n (a + d) = swL W h n a
  | 0, _ => rfl
  | d + 1, hd => by
    rw [← Nat.add_assoc, swL_s, hd (a + d) (by omega) (by omega), if_neg (by decide)]
    exact swL_skip d (fun k h1 h2 => hd k h1 (by omega))
theorem okS_lo {W : Nat → Nat → Int32} {h : Nat → Int32} {n k : Nat} (hk : ¬ (k / 7 < k % 7 ∧ k % 7 < n)) : okS W h n k = false := by
  unfold okS
  by_cases q : k / 7 < k % 7
  · rw [decide_eq_true q, decide_eq_false (fun e => hk ⟨q, e⟩)]; rfl
  · rw [decide_eq_false q]; rfl
theorem swL_row {W : Nat → Nat → Int32} {h : Nat → Int32} {n t : Nat} (ht : t < n) (hn : n ≤ 7) : swL W h n (7 * t + (t + 1)) = swL W h n (7 * t) :=
  swL_skip (t + 1) (fun k h1 h2 => okS_lo (by omega))
theorem swL_end {W : Nat → Nat → Int32} {h : Nat → Int32} {n t : Nat} (ht : t < n) (hn : n ≤ 7) : swL W h n (7 * (t + 1)) = swL W h n (7 * t + n) := by
  rw [show 7 * (t + 1) = 7 * t + n + (7 - n) by omega]
  exact swL_skip (7 - n) (fun k h1 h2 => okS_lo (by omega))
theorem swL_49 {W : Nat → Nat → Int32} {h : Nat → Int32} {n : Nat} (hn : n ≤ 7) : swL W h n 49 = swL W h n (7 * n) := by
  rw [show 49 = 7 * n + (49 - 7 * n) by omega]
  exact swL_skip (49 - 7 * n) (fun k h1 h2 => okS_lo (by omega))
theorem okS_at {W : Nat → Nat → Int32} {h : Nat → Int32} {n t u : Nat} (htu : t < u) (hu : u < n) (hn : n ≤ 7) : okS W h n (7 * t + u) = agP W h t u := by
  unfold okS
  rw [show (7 * t + u) / 7 = t by omega, show (7 * t + u) % 7 = u by omega, decide_eq_true htu, decide_eq_true hu]; rfl
theorem swL_at {W : Nat → Nat → Int32} {h : Nat → Int32} {n t u : Nat} (htu : t < u) (hu : u < n) (hn : n ≤ 7) : swL W h n (7 * t + (u + 1)) = if agP W h t u then swL W h n (7 * t + u) ++ [10 * t + u] else swL W h n (7 * t + u) := by
  rw [show 7 * t + (u + 1) = 7 * t + u + 1 by omega, swL_s, okS_at htu hu hn, show (7 * t + u) / 7 = t by omega, show (7 * t + u) % 7 = u by omega]
theorem e_t_countOfSwaps {A B p o K C N : Nat} {M : Mm} {Q : Po} {kd : Nat → Nat} {W : Nat → Nat → Int32} {lk : Nat → Int32} (hp : isPP p) (ho : isHH o) (hq : CQ M p K C N kd W lk) (hv : HV (M (o + 1)) C) : WP 82 0 [.ref 15, .ref p, .ref o, mk, mk, mk] [] (shw A B) (0, 0) M Q = Q (some (.int (nI (swL W (M (o + 1)) N 49).length))) (shw A B) M := by
  obtain ⟨⟨h1, h2, h3⟩, h4, h5, h6⟩ := hq.1
  refine WP.is (fun Q hQ => ?_)
  rw [swL_49 h6] at hQ
  simp only [w_t_countOfSwaps_0, w_t_countOfSwaps_1, w_t_countOfSwaps_2, w_t_countOfSwaps_3, w_t_countOfSwaps_7, w_t_countOfSwaps_8, w_t_countOfSwaps_11, w_t_countOfSwaps_14, w_t_countOfSwaps_16, w_t_countOfSwaps_17, w_t_countOfSwaps_18, w_t_countOfSwaps_22, w_t_countOfSwaps_23, w_t_countOfSwaps_26, w_t_countOfSwaps_29, w_t_countOfSwaps_30, w_t_countOfSwaps_31, w_t_countOfSwaps_32, w_t_countOfSwaps_34, w_t_countOfSwaps_36, w_t_countOfSwaps_39, w_t_countOfSwaps_42, w_t_countOfSwaps_45, w_t_countOfSwaps_48, w_t_countOfSwaps_51, w_t_countOfSwaps_54, w_t_countOfSwaps_57, w_t_countOfSwaps_58, cl_15, i10, Bool.false_eq_true, eq_self, true_or, or_true, if_true, if_false, gv_int, gv_ref, av_some, al_some, un_int, un_ref, un_mk, ok4_0, ok4_1, ok4_2, ok4_3, ok4_4, Kn_some, Kn_none, true_and, and_true]
  refine for_up (n := N) (P := fun t => ∀ j5, WP 82 5 [.ref 15, .ref p, .ref o, .int (nI (swL W (M (o + 1)) N (7 * t)).length), .int (nI t), j5] [] (shw A B) (0, 0) M Q) ?_ ?_ _
  · intro j5
    rw [w_t_countOfSwaps_5]
    simp only [w_t_countOfSwaps_0, w_t_countOfSwaps_1, w_t_countOfSwaps_2, w_t_countOfSwaps_3, w_t_countOfSwaps_7, w_t_countOfSwaps_8, w_t_countOfSwaps_11, w_t_countOfSwaps_14, w_t_countOfSwaps_16, w_t_countOfSwaps_17, w_t_countOfSwaps_18, w_t_countOfSwaps_22, w_t_countOfSwaps_23, w_t_countOfSwaps_26, w_t_countOfSwaps_29, w_t_countOfSwaps_30, w_t_countOfSwaps_31, w_t_countOfSwaps_32, w_t_countOfSwaps_34, w_t_countOfSwaps_36, w_t_countOfSwaps_39, w_t_countOfSwaps_42, w_t_countOfSwaps_45, w_t_countOfSwaps_48, w_t_countOfSwaps_51, w_t_countOfSwaps_54, w_t_countOfSwaps_57, w_t_countOfSwaps_58, cl_15, xpp_2 hp, h3, lt_irr, i10, Bool.false_eq_true, eq_self, true_or, or_true, if_true, if_false, gv_int, gv_ref, av_some, al_some, un_int, un_ref, un_mk, ok4_0, ok4_1, ok4_2, ok4_3, ok4_4, Kn_some, Kn_none, true_and, and_true]
    exact hQ
  · intro t ht ih j5
    have g1 : nI t < nI N := nI_lt ht (by omega)
    rw [w_t_countOfSwaps_5]
    simp only [w_t_countOfSwaps_0, w_t_countOfSwaps_1, w_t_countOfSwaps_2, w_t_countOfSwaps_3, w_t_countOfSwaps_7, w_t_countOfSwaps_8, w_t_countOfSwaps_11, w_t_countOfSwaps_14, w_t_countOfSwaps_16, w_t_countOfSwaps_17, w_t_countOfSwaps_18, w_t_countOfSwaps_22, w_t_countOfSwaps_23, w_t_countOfSwaps_26, w_t_countOfSwaps_29, w_t_countOfSwaps_30, w_t_countOfSwaps_31, w_t_countOfSwaps_32, w_t_countOfSwaps_34, w_t_countOfSwaps_36, w_t_countOfSwaps_39, w_t_countOfSwaps_42, w_t_countOfSwaps_45, w_t_countOfSwaps_48, w_t_countOfSwaps_51, w_t_countOfSwaps_54, w_t_countOfSwaps_57, w_t_countOfSwaps_58, cl_15, xpp_2 hp, h3, g1, nI_1, i10, Bool.false_eq_true, eq_self, true_or, or_true, if_true, if_false, gv_int, gv_ref, av_some, al_some, un_int, un_ref, un_mk, ok4_0, ok4_1, ok4_2, ok4_3, ok4_4, Kn_some, Kn_none, true_and, and_true]
    rw [← swL_row ht h6]
    rw [swL_end ht h6] at ih
    have := for_up (n := N - (t + 1)) (P := fun d => WP 82 20 [.ref 15, .ref p, .ref o, .int (nI (swL W (M (o + 1)) N (7 * t + (t + 1 + d))).length), .int (nI t), .int (nI (t + 1 + d))] [] (shw A B) (0, 0) M Q) ?_ ?_
    · exact this
    · rw [show t + 1 + (N - (t + 1)) = N by omega, w_t_countOfSwaps_20]
      simp only [w_t_countOfSwaps_0, w_t_countOfSwaps_1, w_t_countOfSwaps_2, w_t_countOfSwaps_3, w_t_countOfSwaps_7, w_t_countOfSwaps_8, w_t_countOfSwaps_11, w_t_countOfSwaps_14, w_t_countOfSwaps_16, w_t_countOfSwaps_17, w_t_countOfSwaps_18, w_t_countOfSwaps_22, w_t_countOfSwaps_23, w_t_countOfSwaps_26, w_t_countOfSwaps_29, w_t_countOfSwaps_30, w_t_countOfSwaps_31, w_t_countOfSwaps_32, w_t_countOfSwaps_34, w_t_countOfSwaps_36, w_t_countOfSwaps_39, w_t_countOfSwaps_42, w_t_countOfSwaps_45, w_t_countOfSwaps_48, w_t_countOfSwaps_51, w_t_countOfSwaps_54, w_t_countOfSwaps_57, w_t_countOfSwaps_58, cl_15, xpp_2 hp, h3, lt_irr, nI_1, i10, Bool.false_eq_true, eq_self, true_or, or_true, if_true, if_false, gv_int, gv_ref, av_some, al_some, un_int, un_ref, un_mk, ok4_0, ok4_1, ok4_2, ok4_3, ok4_4, Kn_some, Kn_none, true_and, and_true]
      exact ih _
    · intro d hd ih2
      have g2 : nI (t + 1 + d) < nI N := nI_lt (by omega) (by omega)
      rw [w_t_countOfSwaps_20]
      rw [show t + 1 + (d + 1) = t + 1 + d + 1 by omega, swL_at (by omega) (by omega) h6] at ih2
      cases r : agP W (M (o + 1)) t (t + 1 + d)
      · rw [r, if_neg (by decide)] at ih2
        simp only [w_t_countOfSwaps_0, w_t_countOfSwaps_1, w_t_countOfSwaps_2, w_t_countOfSwaps_3, w_t_countOfSwaps_7, w_t_countOfSwaps_8, w_t_countOfSwaps_11, w_t_countOfSwaps_14, w_t_countOfSwaps_16, w_t_countOfSwaps_17, w_t_countOfSwaps_18, w_t_countOfSwaps_22, w_t_countOfSwaps_23, w_t_countOfSwaps_26, w_t_countOfSwaps_29, w_t_countOfSwaps_30, w_t_countOfSwaps_31, w_t_countOfSwaps_32, w_t_countOfSwaps_34, w_t_countOfSwaps_36, w_t_countOfSwaps_39, w_t_countOfSwaps_42, w_t_countOfSwaps_45, w_t_countOfSwaps_48, w_t_countOfSwaps_51, w_t_countOfSwaps_54, w_t_countOfSwaps_57, w_t_countOfSwaps_58, cl_15, xpp_2 hp, h3, g2, e_t_agree hp ho hq hv ht (show t + 1 + d < N by omega), r, nI_1, cl_15, i10, Bool.false_eq_true, eq_self, true_or, or_true, if_true, if_false, gv_int, gv_ref, av_some, al_some, un_int, un_ref, un_mk, ok4_0, ok4_1, ok4_2, ok4_3, ok4_4, Kn_some, Kn_none, true_and, and_true]
        exact ih2
      · rw [r, if_pos rfl, List.length_append, List.length_cons, List.length_nil] at ih2
        simp only [w_t_countOfSwaps_0, w_t_countOfSwaps_1, w_t_countOfSwaps_2, w_t_countOfSwaps_3, w_t_countOfSwaps_7, w_t_countOfSwaps_8, w_t_countOfSwaps_11, w_t_countOfSwaps_14, w_t_countOfSwaps_16, w_t_countOfSwaps_17, w_t_countOfSwaps_18, w_t_countOfSwaps_22, w_t_countOfSwaps_23, w_t_countOfSwaps_26, w_t_countOfSwaps_29, w_t_countOfSwaps_30, w_t_countOfSwaps_31, w_t_countOfSwaps_32, w_t_countOfSwaps_34, w_t_countOfSwaps_36, w_t_countOfSwaps_39, w_t_countOfSwaps_42, w_t_countOfSwaps_45, w_t_countOfSwaps_48, w_t_countOfSwaps_51, w_t_countOfSwaps_54, w_t_countOfSwaps_57, w_t_countOfSwaps_58, cl_15, xpp_2 hp, h3, g2, e_t_agree hp ho hq hv ht (show t + 1 + d < N by omega), r, nI_1, cl_15, i10, Bool.false_eq_true, eq_self, true_or, or_true, if_true, if_false, gv_int, gv_ref, av_some, al_some, un_int, un_ref, un_mk, ok4_0, ok4_1, ok4_2, ok4_3, ok4_4, Kn_some, Kn_none, true_and, and_true]
        exact ih2
/-- the i-th of the swaps -/
def swA (l : List Nat) (i : Int32) : Int32 := if inb i l.length then nI (l.getD i.toNatClampNeg 0) else -1
theorem e_t_swapAt {A B p o K C N : Nat} {M : Mm} {Q : Po} {i : Int32} {kd : Nat → Nat} {W : Nat → Nat → Int32} {lk : Nat → Int32} (hp : isPP p) (ho : isHH o) (hq : CQ M p K C N kd W lk) (hv : HV (M (o + 1)) C) : WP 83 0 [.ref 15, .ref p, .ref o, .int i, mk, mk, mk] [] (shw A B) (0, 0) M Q = Q (some (.int (swA (swL W (M (o + 1)) N 49) i))) (shw A B) M := by
  obtain ⟨⟨h1, h2, h3⟩, h4, h5, h6⟩ := hq.1
  refine WP.is (fun Q hQ => ?_)
  simp only [w_t_swapAt_0, w_t_swapAt_1, w_t_swapAt_3, w_t_swapAt_4, w_t_swapAt_8, w_t_swapAt_9, w_t_swapAt_12, w_t_swapAt_15, w_t_swapAt_17, w_t_swapAt_18, w_t_swapAt_19, w_t_swapAt_23, w_t_swapAt_24, w_t_swapAt_27, w_t_swapAt_30, w_t_swapAt_31, w_t_swapAt_32, w_t_swapAt_33, w_t_swapAt_35, w_t_swapAt_37, w_t_swapAt_40, w_t_swapAt_43, w_t_swapAt_45, w_t_swapAt_46, w_t_swapAt_49, w_t_swapAt_51, w_t_swapAt_53, w_t_swapAt_54, w_t_swapAt_56, w_t_swapAt_57, w_t_swapAt_58, w_t_swapAt_61, w_t_swapAt_64, w_t_swapAt_67, w_t_swapAt_70, w_t_swapAt_73, w_t_swapAt_74, cl_15, i10, Bool.false_eq_true, eq_self, true_or, or_true, if_true, if_false, gv_int, gv_ref, av_some, al_some, un_int, un_ref, un_mk, ok4_0, ok4_1, ok4_2, ok4_3, ok4_4, Kn_some, Kn_none, true_and, and_true]
  refine for_up (n := N) (P := fun t => (∀ j, j < (swL W (M (o + 1)) N (7 * t)).length → ¬ i = nI j) → ∀ j6, WP 83 6 [.ref 15, .ref p, .ref o, .int i, .int (nI (swL W (M (o + 1)) N (7 * t)).length), .int (nI t), j6] [] (shw A B) (0, 0) M Q) ?_ ?_ (fun j hj => absurd hj (by simp [swL, lp])) _
  · intro hi j6
    have hl := swL_len W (M (o + 1)) N (7 * N)
    rw [w_t_swapAt_6]
    simp only [w_t_swapAt_0, w_t_swapAt_1, w_t_swapAt_3, w_t_swapAt_4, w_t_swapAt_8, w_t_swapAt_9, w_t_swapAt_12, w_t_swapAt_15, w_t_swapAt_17, w_t_swapAt_18, w_t_swapAt_19, w_t_swapAt_23, w_t_swapAt_24, w_t_swapAt_27, w_t_swapAt_30, w_t_swapAt_31, w_t_swapAt_32, w_t_swapAt_33, w_t_swapAt_35, w_t_swapAt_37, w_t_swapAt_40, w_t_swapAt_43, w_t_swapAt_45, w_t_swapAt_46, w_t_swapAt_49, w_t_swapAt_51, w_t_swapAt_53, w_t_swapAt_54, w_t_swapAt_56, w_t_swapAt_57, w_t_swapAt_58, w_t_swapAt_61, w_t_swapAt_64, w_t_swapAt_67, w_t_swapAt_70, w_t_swapAt_73, w_t_swapAt_74, cl_15, xpp_2 hp, h3, lt_irr, i10, Bool.false_eq_true, eq_self, true_or, or_true, if_true, if_false, gv_int, gv_ref, av_some, al_some, un_int, un_ref, un_mk, ok4_0, ok4_1, ok4_2, ok4_3, ok4_4, Kn_some, Kn_none, true_and, and_true]
    unfold swA at hQ
    rw [swL_49 h6, if_neg (fun hb => by obtain ⟨j, j1, j2⟩ := inb_of hb (by omega); exact hi j j1 j2)] at hQ
    exact hQ
  · intro t ht ih hi j6
    have g1 : nI t < nI N := nI_lt ht (by omega)
    rw [w_t_swapAt_6]
    simp only [w_t_swapAt_0, w_t_swapAt_1, w_t_swapAt_3, w_t_swapAt_4, w_t_swapAt_8, w_t_swapAt_9, w_t_swapAt_12, w_t_swapAt_15, w_t_swapAt_17, w_t_swapAt_18, w_t_swapAt_19, w_t_swapAt_23, w_t_swapAt_24, w_t_swapAt_27, w_t_swapAt_30, w_t_swapAt_31, w_t_swapAt_32, w_t_swapAt_33, w_t_swapAt_35, w_t_swapAt_37, w_t_swapAt_40, w_t_swapAt_43, w_t_swapAt_45, w_t_swapAt_46, w_t_swapAt_49, w_t_swapAt_51, w_t_swapAt_53, w_t_swapAt_54, w_t_swapAt_56, w_t_swapAt_57, w_t_swapAt_58, w_t_swapAt_61, w_t_swapAt_64, w_t_swapAt_67, w_t_swapAt_70, w_t_swapAt_73, w_t_swapAt_74, cl_15, xpp_2 hp, h3, g1, nI_1, i10, Bool.false_eq_true, eq_self, true_or, or_true, if_true, if_false, gv_int, gv_ref, av_some, al_some, un_int, un_ref, un_mk, ok4_0, ok4_1, ok4_2, ok4_3, ok4_4, Kn_some, Kn_none, true_and, and_true]
    rw [← swL_row ht h6] at hi ⊢
    rw [swL_end ht h6] at ih
    have := for_up (n := N - (t + 1)) (P := fun d => (∀ j, j < (swL W (M (o + 1)) N (7 * t + (t + 1 + d))).length → ¬ i = nI j) → WP 83 21 [.ref 15, .ref p, .ref o, .int i, .int (nI (swL W (M (o + 1)) N (7 * t + (t + 1 + d))).length), .int (nI t), .int (nI (t + 1 + d))] [] (shw A B) (0, 0) M Q) ?_ ?_
    · exact this hi
    · intro hi
      rw [show t + 1 + (N - (t + 1)) = N by omega] at hi ⊢
      rw [w_t_swapAt_21]
      simp only [w_t_swapAt_0, w_t_swapAt_1, w_t_swapAt_3, w_t_swapAt_4, w_t_swapAt_8, w_t_swapAt_9, w_t_swapAt_12, w_t_swapAt_15, w_t_swapAt_17, w_t_swapAt_18, w_t_swapAt_19, w_t_swapAt_23, w_t_swapAt_24, w_t_swapAt_27, w_t_swapAt_30, w_t_swapAt_31, w_t_swapAt_32, w_t_swapAt_33, w_t_swapAt_35, w_t_swapAt_37, w_t_swapAt_40, w_t_swapAt_43, w_t_swapAt_45, w_t_swapAt_46, w_t_swapAt_49, w_t_swapAt_51, w_t_swapAt_53, w_t_swapAt_54, w_t_swapAt_56, w_t_swapAt_57, w_t_swapAt_58, w_t_swapAt_61, w_t_swapAt_64, w_t_swapAt_67, w_t_swapAt_70, w_t_swapAt_73, w_t_swapAt_74, cl_15, xpp_2 hp, h3, lt_irr, nI_1, i10, Bool.false_eq_true, eq_self, true_or, or_true, if_true, if_false, gv_int, gv_ref, av_some, al_some, un_int, un_ref, un_mk, ok4_0, ok4_1, ok4_2, ok4_3, ok4_4, Kn_some, Kn_none, true_and, and_true]
      exact ih hi _
    · intro d hd ih2 hi
      have g2 : nI (t + 1 + d) < nI N := nI_lt (by omega) (by omega)
      have hl := swL_len W (M (o + 1)) N (7 * t + (t + 1 + d))
      rw [w_t_swapAt_21]
      rw [show t + 1 + (d + 1) = t + 1 + d + 1 by omega, swL_at (by omega) (by omega) h6] at ih2
      cases r : agP W (M (o + 1)) t (t + 1 + d)
      · rw [r, if_neg (by decide)] at ih2
        simp only [w_t_swapAt_0, w_t_swapAt_1, w_t_swapAt_3, w_t_swapAt_4, w_t_swapAt_8, w_t_swapAt_9, w_t_swapAt_12, w_t_swapAt_15, w_t_swapAt_17, w_t_swapAt_18, w_t_swapAt_19, w_t_swapAt_23, w_t_swapAt_24, w_t_swapAt_27, w_t_swapAt_30, w_t_swapAt_31, w_t_swapAt_32, w_t_swapAt_33, w_t_swapAt_35, w_t_swapAt_37, w_t_swapAt_40, w_t_swapAt_43, w_t_swapAt_45, w_t_swapAt_46, w_t_swapAt_49, w_t_swapAt_51, w_t_swapAt_53, w_t_swapAt_54, w_t_swapAt_56, w_t_swapAt_57, w_t_swapAt_58, w_t_swapAt_61, w_t_swapAt_64, w_t_swapAt_67, w_t_swapAt_70, w_t_swapAt_73, w_t_swapAt_74, cl_15, xpp_2 hp, h3, g2, e_t_agree hp ho hq hv ht (show t + 1 + d < N by omega), r, nI_1, cl_15, i10, Bool.false_eq_true, eq_self, true_or, or_true, if_true, if_false, gv_int, gv_ref, av_some, al_some, un_int, un_ref, un_mk, ok4_0, ok4_1, ok4_2, ok4_3, ok4_4, Kn_some, Kn_none, true_and, and_true]
        exact ih2 hi
      · rw [r, if_pos rfl] at ih2
        have e10 : (10 : Int32) * nI t + nI (t + 1 + d) = nI (10 * t + (t + 1 + d)) := by rw [show (10 : Int32) = nI 10 from rfl, pk_mul, nI_add]
        by_cases q5 : nI (swL W (M (o + 1)) N (7 * t + (t + 1 + d))).length = i
        · simp only [w_t_swapAt_0, w_t_swapAt_1, w_t_swapAt_3, w_t_swapAt_4, w_t_swapAt_8, w_t_swapAt_9, w_t_swapAt_12, w_t_swapAt_15, w_t_swapAt_17, w_t_swapAt_18, w_t_swapAt_19, w_t_swapAt_23, w_t_swapAt_24, w_t_swapAt_27, w_t_swapAt_30, w_t_swapAt_31, w_t_swapAt_32, w_t_swapAt_33, w_t_swapAt_35, w_t_swapAt_37, w_t_swapAt_40, w_t_swapAt_43, w_t_swapAt_45, w_t_swapAt_46, w_t_swapAt_49, w_t_swapAt_51, w_t_swapAt_53, w_t_swapAt_54, w_t_swapAt_56, w_t_swapAt_57, w_t_swapAt_58, w_t_swapAt_61, w_t_swapAt_64, w_t_swapAt_67, w_t_swapAt_70, w_t_swapAt_73, w_t_swapAt_74, cl_15, xpp_2 hp, h3, g2, e_t_agree hp ho hq hv ht (show t + 1 + d < N by omega), r, nI_1, cl_15, q5, e10, i10, Bool.false_eq_true, eq_self, true_or, or_true, if_true, if_false, gv_int, gv_ref, av_some, al_some, un_int, un_ref, un_mk, ok4_0, ok4_1, ok4_2, ok4_3, ok4_4, Kn_some, Kn_none, true_and, and_true]
          obtain ⟨r2, hr⟩ := swL_pre W (M (o + 1)) N (7 * t + (t + 1 + d + 1)) (49 - (7 * t + (t + 1 + d + 1)))
          rw [show 7 * t + (t + 1 + d + 1) + (49 - (7 * t + (t + 1 + d + 1))) = 49 by omega, swL_at (by omega) (by omega) h6, r, if_pos rfl] at hr
          unfold swA at hQ
          have hl2 := swL_len W (M (o + 1)) N 49
          rw [hr] at hl2
          rw [← q5, hr, if_pos (inb_nI (by simp) (by omega)), nI_clamp (by omega)] at hQ
          simpa using hQ
        · simp only [w_t_swapAt_0, w_t_swapAt_1, w_t_swapAt_3, w_t_swapAt_4, w_t_swapAt_8, w_t_swapAt_9, w_t_swapAt_12, w_t_swapAt_15, w_t_swapAt_17, w_t_swapAt_18, w_t_swapAt_19, w_t_swapAt_23, w_t_swapAt_24, w_t_swapAt_27, w_t_swapAt_30, w_t_swapAt_31, w_t_swapAt_32, w_t_swapAt_33, w_t_swapAt_35, w_t_swapAt_37, w_t_swapAt_40, w_t_swapAt_43, w_t_swapAt_45, w_t_swapAt_46, w_t_swapAt_49, w_t_swapAt_51, w_t_swapAt_53, w_t_swapAt_54, w_t_swapAt_56, w_t_swapAt_57, w_t_swapAt_58, w_t_swapAt_61, w_t_swapAt_64, w_t_swapAt_67, w_t_swapAt_70, w_t_swapAt_73, w_t_swapAt_74, cl_15, xpp_2 hp, h3, g2, e_t_agree hp ho hq hv ht (show t + 1 + d < N by omega), r, nI_1, cl_15, eq_false q5, i10, Bool.false_eq_true, eq_self, true_or, or_true, if_true, if_false, gv_int, gv_ref, av_some, al_some, un_int, un_ref, un_mk, ok4_0, ok4_1, ok4_2, ok4_3, ok4_4, Kn_some, Kn_none, true_and, and_true]
          have := ih2 (fun j hj e => ?_)
          · simp only [List.length_append, List.length_cons, List.length_nil] at this
            exact this
          · simp only [List.length_append, List.length_cons, List.length_nil] at hj
            by_cases ej : j < (swL W (M (o + 1)) N (7 * t + (t + 1 + d))).length
            · exact hi j ej e
            · rw [show j = (swL W (M (o + 1)) N (7 * t + (t + 1 + d))).length by omega] at e
              exact q5 e.symm
theorem swR_A {l : List Nat} {i : Int32} (h : ¬ i = -1) : swR l i = swA l i := by
  unfold swR swA; rw [if_neg h]
theorem cpF_eq {f g : Nat → Int32} (h : ∀ j, ¬ j < 7 → g j = f j) : cpF f g = f := by
  funext j; unfold cpF
  by_cases q : j < 7
  · rw [if_pos q]
  · rw [if_neg q, h j q]
theorem T_ne {p k : Nat} (hp : isPP p) : ¬ (p ≤ 15 ∧ 15 ≤ p + 9) ∧ ¬ (p ≤ 17 ∧ 17 ≤ p + 9) ∧ ¬ (p ≤ 19 ∧ 19 ≤ p + 9) ∧ ¬ (p ≤ 20 ∧ 20 ≤ p + 9) := by
  unfold isPP at hp; omega
theorem e_t_settle {A B p o K C N : Nat} {M : Mm} {Q : Po} {kd : Nat → Nat} {W : Nat → Nat → Int32} {lk : Nat → Int32} (hp : isPP p) (ho : isHH o) (hq : CQ M p K C N kd W lk) (hv : HV (M (o + 1)) C) (ht : ∀ j, ¬ j < 7 → M 17 j = M (o + 1) j) : WP 84 0 [.ref 15, .ref p, .ref o, mk, mk] [] (shw A B) (0, 0) M Q = Q (some (.int (nI (setE W N 50 (M (o + 1))).1))) (shw A B) (st M 17 (setE W N 50 (M (o + 1))).2) := by
  refine WP.is (fun Q hQ => ?_)
  have key : ∀ f d (g : Nat → Int32), d + f = 50 → HV g C → Q (some (.int (nI (d + (setE W N f g).1)))) (shw A B) (st M 17 (setE W N f g).2) → ∀ j4, WP 84 10 [.ref 15, .ref p, .ref o, .int (nI d), j4] [] (shw A B) (0, 0) (st M 17 g) Q := by
    intro f
    induction f with
    | zero =>
      intro d g hd hg hQ j4
      have hd : d = 50 := hd
      subst hd
      rw [w_t_settle_10]
      simp only [w_t_settle_0, w_t_settle_1, w_t_settle_4, w_t_settle_5, w_t_settle_8, w_t_settle_9, w_t_settle_11, w_t_settle_13, w_t_settle_16, w_t_settle_17, w_t_settle_18, w_t_settle_19, w_t_settle_22, w_t_settle_23, w_t_settle_26, w_t_settle_28, w_t_settle_30, w_t_settle_31, w_t_settle_34, w_t_settle_35, w_t_settle_36, w_t_settle_37, w_t_settle_40, w_t_settle_42, w_t_settle_44, w_t_settle_45, w_t_settle_47, w_t_settle_49, w_t_settle_50, w_t_settle_53, w_t_settle_56, w_t_settle_59, w_t_settle_61, xt_0, cl_15, (show (nI 50 < 50) = False by decide), i10, Bool.false_eq_true, eq_self, true_or, or_true, if_true, if_false, gv_int, gv_ref, av_some, al_some, un_int, un_ref, un_mk, ok4_0, ok4_1, ok4_2, ok4_3, ok4_4, Kn_some, Kn_none, true_and, and_true]
      exact hQ
    | succ f ih =>
      intro d g hd hg hQ j4
      have g1 : nI d < 50 := nI_lt (b := 50) (by omega) (by decide)
      have hq2 : CQ (st M 17 g) p K C N kd W lk := hq.st (T_ne (k := 0) hp).2.1
      have hv2 : HV (st M 17 g (16 + 1)) C := hg
      have e17 : st M 17 g (16 + 1) = g := rfl
      rw [w_t_settle_10]
      have first := first_of W g N
      rw [swR_A (show ¬ (0 : Int32) = -1 by decide)] at first
      rcases first with ⟨e, -⟩ | ⟨a, b, a1, a2, a3, a4, a5, a6⟩
      · rw [setE_no (by rw [swR_A (by decide)]; exact e)] at hQ
        simp only [w_t_settle_0, w_t_settle_1, w_t_settle_4, w_t_settle_5, w_t_settle_8, w_t_settle_9, w_t_settle_11, w_t_settle_13, w_t_settle_16, w_t_settle_17, w_t_settle_18, w_t_settle_19, w_t_settle_22, w_t_settle_23, w_t_settle_26, w_t_settle_28, w_t_settle_30, w_t_settle_31, w_t_settle_34, w_t_settle_35, w_t_settle_36, w_t_settle_37, w_t_settle_40, w_t_settle_42, w_t_settle_44, w_t_settle_45, w_t_settle_47, w_t_settle_49, w_t_settle_50, w_t_settle_53, w_t_settle_56, w_t_settle_59, w_t_settle_61, xt_0, cl_15, g1, e_t_swapAt (i := 0) hp isHH_16 hq2 hv2, e17, e, cl_15, i10, Bool.false_eq_true, eq_self, true_or, or_true, if_true, if_false, gv_int, gv_ref, av_some, al_some, un_int, un_ref, un_mk, ok4_0, ok4_1, ok4_2, ok4_3, ok4_4, Kn_some, Kn_none, true_and, and_true]
        exact hQ
      · rw [setE_yes (by rw [swR_A (by decide)]; exact a6) a3 a4] at hQ
        have p3 : nI (10 * a + b) - nI a * 10 = nI b := by
          have := r10 (10 * a + b)
          rwa [show (10 * a + b) / 10 = a by omega, show (10 * a + b) % 10 = b by omega] at this
        have p0 : (nI (10 * a + b) = -1) = False := eq_false (nI_ne_m1 (by omega))
        have p2 : ¬ (10 : Int32) = 0 := by decide
        have hm : up (up (st M 17 g) (16 + 1) a (g b)) (16 + 1) b (g a) = st M 17 (swp g a b) := by
          show up (up (st M 17 g) 17 a (g b)) 17 b (g a) = _
          rw [up_st, up_st]; rfl
        simp only [w_t_settle_0, w_t_settle_1, w_t_settle_4, w_t_settle_5, w_t_settle_8, w_t_settle_9, w_t_settle_11, w_t_settle_13, w_t_settle_16, w_t_settle_17, w_t_settle_18, w_t_settle_19, w_t_settle_22, w_t_settle_23, w_t_settle_26, w_t_settle_28, w_t_settle_30, w_t_settle_31, w_t_settle_34, w_t_settle_35, w_t_settle_36, w_t_settle_37, w_t_settle_40, w_t_settle_42, w_t_settle_44, w_t_settle_45, w_t_settle_47, w_t_settle_49, w_t_settle_50, w_t_settle_53, w_t_settle_56, w_t_settle_59, w_t_settle_61, xt_0, cl_15, g1, e_t_swapAt (i := 0) hp isHH_16 hq2 hv2, e17, a6, p0, p2, not_false_eq_true, d10 (show 10 * a + b < 2 ^ 31 by omega), p3, show (10 * a + b) / 10 = a by omega, e_h_exchange isHH_16 a3 a4, hm, nI_1, cl_15, cl_16, i10, Bool.false_eq_true, eq_self, true_or, or_true, if_true, if_false, gv_int, gv_ref, av_some, al_some, un_int, un_ref, un_mk, ok4_0, ok4_1, ok4_2, ok4_3, ok4_4, Kn_some, Kn_none, true_and, and_true]
        refine ih (d + 1) (swp g a b) (by omega) (HV_swp hg a3 a4) ?_ _
        rw [show d + 1 + (setE W N f (swp g a b)).1 = d + ((setE W N f (swp g a b)).1 + 1) by omega]
        exact hQ
  simp only [w_t_settle_0, w_t_settle_1, w_t_settle_4, w_t_settle_5, w_t_settle_8, w_t_settle_9, w_t_settle_11, w_t_settle_13, w_t_settle_16, w_t_settle_17, w_t_settle_18, w_t_settle_19, w_t_settle_22, w_t_settle_23, w_t_settle_26, w_t_settle_28, w_t_settle_30, w_t_settle_31, w_t_settle_34, w_t_settle_35, w_t_settle_36, w_t_settle_37, w_t_settle_40, w_t_settle_42, w_t_settle_44, w_t_settle_45, w_t_settle_47, w_t_settle_49, w_t_settle_50, w_t_settle_53, w_t_settle_56, w_t_settle_59, w_t_settle_61, xt_0, cl_15, e_h_copy isHH_16 ho, show (16 + 1 : Nat) = 17 from rfl, cpF_eq ht, cl_16, i10, Bool.false_eq_true, eq_self, true_or, or_true, if_true, if_false, gv_int, gv_ref, av_some, al_some, un_int, un_ref, un_mk, ok4_0, ok4_1, ok4_2, ok4_3, ok4_4, Kn_some, Kn_none, true_and, and_true]
  exact key 50 0 (M (o + 1)) rfl hv (by rw [Nat.zero_add]; exact hQ) _
