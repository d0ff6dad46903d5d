/-! swaps: the list of them, and what comes of them -/
def agP (W : Nat → Nat → Int32) (h : Nat → Int32) (a b : Nat) : Bool := csw (h a) (h b) && agE (W (h a).toNatClampNeg b - W (h a).toNatClampNeg a) (W (h b).toNatClampNeg a - W (h b).toNatClampNeg b)
def okS (W : Nat → Nat → Int32) (h : Nat → Int32) (n k : Nat) : Bool := decide (k / 7 < k % 7) && decide (k % 7 < n) && agP W h (k / 7) (k % 7)
def swL (W : Nat → Nat → Int32) (h : Nat → Int32) (n k : Nat) : List Nat := lp (fun k l => if okS W h n k then l ++ [10 * (k / 7) + k % 7] else l) k []
def swR (l : List Nat) (i : Int32) : Int32 := if i = -1 then nI l.length else if inb i l.length then nI (l.getD i.toNatClampNeg 0) else -1
theorem swL_s (W : Nat → Nat → Int32) (h : Nat → Int32) (n k : Nat) : swL W h n (k + 1) = if okS W h n k then swL W h n k ++ [10 * (k / 7) + k % 7] else swL W h n k := rfl
theorem swL_pre (W : Nat → Nat → Int32) (h : Nat → Int32) (n k : Nat) : ∀ j, ∃ r, swL W h n (k + j) = swL W h n k ++ r
  | 0 => ⟨[], by simp⟩
  | j + 1 => by
    obtain ⟨r, hr⟩ := swL_pre W h n k j
    rw [← Nat.add_assoc, swL_s, hr]
    split
    · exact ⟨r ++ [10 * ((k + j) / 7) + (k + j) % 7], by rw [List.append_assoc]⟩
    · exact ⟨r, rfl⟩
theorem swL_len (W : Nat → Nat → Int32) (h : Nat → Int32) (n : Nat) : ∀ k, (swL W h n k).length ≤ k
  | 0 => Nat.le_refl _
  | k + 1 => by
    have := swL_len W h n k
    rw [swL_s]
    split
    · simp; omega
    · omega
theorem d7 {k : Nat} (h : k < 2 ^ 31) : nI k / 7 = nI (k / 7) := pk_div h (by decide) (by decide)
theorem r7 (k : Nat) : nI k - nI (k / 7) * 7 = nI (k % 7) := rem_nI k 7
theorem nI_ne_m1 {k : Nat} (h : k < 2 ^ 31) : ¬ nI k = -1 := fun e => nI_pos h (by rw [e]; decide)
theorem e_m_swapsNow {A B : Nat} {M : Mm} {Q : Po} {K c n : Nat} {i : Int32} (h : MD M K c n) (hv : HV (M 65) c) : WP 190 0 [.ref 58, .int i, mk, mk, mk, mk] [] (shw A B) (0, 0) M Q = Q (some (.int (swR (swL (wT M) (M 65) n 49) i))) (shw A B) M := by
  refine WP.is (fun Q hQ => ?_)
  obtain ⟨h1, h2, h3, h4, h5, h6, h7⟩ := id h
  simp only [w_m_swapsNow_0, w_m_swapsNow_1, w_m_swapsNow_2, w_m_swapsNow_3, w_m_swapsNow_5, w_m_swapsNow_7, w_m_swapsNow_10, w_m_swapsNow_11, w_m_swapsNow_13, w_m_swapsNow_14, w_m_swapsNow_16, w_m_swapsNow_17, w_m_swapsNow_19, w_m_swapsNow_20, w_m_swapsNow_22, w_m_swapsNow_24, w_m_swapsNow_26, w_m_swapsNow_29, w_m_swapsNow_31, w_m_swapsNow_32, w_m_swapsNow_35, w_m_swapsNow_38, w_m_swapsNow_39, w_m_swapsNow_41, w_m_swapsNow_43, w_m_swapsNow_46, w_m_swapsNow_49, w_m_swapsNow_50, w_m_swapsNow_52, w_m_swapsNow_54, w_m_swapsNow_57, w_m_swapsNow_60, w_m_swapsNow_61, w_m_swapsNow_62, w_m_swapsNow_65, w_m_swapsNow_67, w_m_swapsNow_69, w_m_swapsNow_70, w_m_swapsNow_72, w_m_swapsNow_73, w_m_swapsNow_74, w_m_swapsNow_77, w_m_swapsNow_80, w_m_swapsNow_83, w_m_swapsNow_84, w_m_swapsNow_85, w_m_swapsNow_88, w_m_swapsNow_89, w_m_swapsNow_92, w_m_swapsNow_93, xm_7, cl_58, i10, Bool.false_eq_true, eq_self, true_or, or_true, if_true, if_false, gv_int, gv_ref, av_some, al_some, un_int, un_ref, un_mk, ok4_0, ok4_1, ok4_2, ok4_3, ok4_4, Kn_some, Kn_none, true_and, and_true]
  refine for_up (n := 49) (P := fun k => (∀ j, j < (swL (wT M) (M 65) n k).length → ¬ i = nI j) → ∀ j4 j5, WP 190 4 [.ref 58, .int i, .int (nI (swL (wT M) (M 65) n k).length), .int (nI k), j4, j5] [] (shw A B) (0, 0) M Q) ?_ ?_ (fun j hj => absurd hj (by simp [swL, lp])) mk mk
  · intro hi j4 j5
    have hl := swL_len (wT M) (M 65) n 49
    rw [w_m_swapsNow_4]
    simp only [w_m_swapsNow_0, w_m_swapsNow_1, w_m_swapsNow_2, w_m_swapsNow_3, w_m_swapsNow_5, w_m_swapsNow_7, w_m_swapsNow_10, w_m_swapsNow_11, w_m_swapsNow_13, w_m_swapsNow_14, w_m_swapsNow_16, w_m_swapsNow_17, w_m_swapsNow_19, w_m_swapsNow_20, w_m_swapsNow_22, w_m_swapsNow_24, w_m_swapsNow_26, w_m_swapsNow_29, w_m_swapsNow_31, w_m_swapsNow_32, w_m_swapsNow_35, w_m_swapsNow_38, w_m_swapsNow_39, w_m_swapsNow_41, w_m_swapsNow_43, w_m_swapsNow_46, w_m_swapsNow_49, w_m_swapsNow_50, w_m_swapsNow_52, w_m_swapsNow_54, w_m_swapsNow_57, w_m_swapsNow_60, w_m_swapsNow_61, w_m_swapsNow_62, w_m_swapsNow_65, w_m_swapsNow_67, w_m_swapsNow_69, w_m_swapsNow_70, w_m_swapsNow_72, w_m_swapsNow_73, w_m_swapsNow_74, w_m_swapsNow_77, w_m_swapsNow_80, w_m_swapsNow_83, w_m_swapsNow_84, w_m_swapsNow_85, w_m_swapsNow_88, w_m_swapsNow_89, w_m_swapsNow_92, w_m_swapsNow_93, xm_7, cl_58, (show (nI 49 < 49) = False by decide), i10, Bool.false_eq_true, eq_self, true_or, or_true, if_true, if_false, gv_int, gv_ref, av_some, al_some, un_int, un_ref, un_mk, ok4_0, ok4_1, ok4_2, ok4_3, ok4_4, Kn_some, Kn_none, true_and, and_true]
    unfold swR at hQ
    by_cases q : i = -1
    · rw [if_pos q] at hQ ⊢; exact hQ
    · rw [if_neg q] at hQ ⊢
      rw [if_neg (fun hb => ?_)] at hQ
      · exact hQ
      · obtain ⟨j, j1, j2⟩ := inb_of hb (by omega)
        exact hi j j1 j2
  · intro k hk ih hi j4 j5
    have g1 : (nI k < 49) = True := eq_true (nI_lt hk (by decide))
    have hl := swL_len (wT M) (M 65) n k
    have g2 : ¬ (7 : Int32) = 0 := by decide
    rw [w_m_swapsNow_4]
    by_cases q1 : k / 7 < k % 7
    · have p1 : (nI (k / 7) < nI (k % 7)) = True := eq_true (nI_lt q1 (by omega))
      by_cases q2 : k % 7 < n
      · have p2 : (nI (k % 7) < nI n) = True := eq_true (nI_lt q2 (by omega))
        cases q3 : csw (M 65 (k / 7)) (M 65 (k % 7))
        · simp only [w_m_swapsNow_0, w_m_swapsNow_1, w_m_swapsNow_2, w_m_swapsNow_3, w_m_swapsNow_5, w_m_swapsNow_7, w_m_swapsNow_10, w_m_swapsNow_11, w_m_swapsNow_13, w_m_swapsNow_14, w_m_swapsNow_16, w_m_swapsNow_17, w_m_swapsNow_19, w_m_swapsNow_20, w_m_swapsNow_22, w_m_swapsNow_24, w_m_swapsNow_26, w_m_swapsNow_29, w_m_swapsNow_31, w_m_swapsNow_32, w_m_swapsNow_35, w_m_swapsNow_38, w_m_swapsNow_39, w_m_swapsNow_41, w_m_swapsNow_43, w_m_swapsNow_46, w_m_swapsNow_49, w_m_swapsNow_50, w_m_swapsNow_52, w_m_swapsNow_54, w_m_swapsNow_57, w_m_swapsNow_60, w_m_swapsNow_61, w_m_swapsNow_62, w_m_swapsNow_65, w_m_swapsNow_67, w_m_swapsNow_69, w_m_swapsNow_70, w_m_swapsNow_72, w_m_swapsNow_73, w_m_swapsNow_74, w_m_swapsNow_77, w_m_swapsNow_80, w_m_swapsNow_83, w_m_swapsNow_84, w_m_swapsNow_85, w_m_swapsNow_88, w_m_swapsNow_89, w_m_swapsNow_92, w_m_swapsNow_93, xm_7, cl_58, g1, g2, not_false_eq_true, d7 (show k < 2 ^ 31 by omega), r7, p1, p2, h3, e_m_canSwap (show k / 7 < 7 by omega) (show k % 7 < 7 by omega), q3, cl_58, nI_1, i10, Bool.false_eq_true, eq_self, true_or, or_true, if_true, if_false, gv_int, gv_ref, av_some, al_some, un_int, un_ref, un_mk, ok4_0, ok4_1, ok4_2, ok4_3, ok4_4, Kn_some, Kn_none, true_and, and_true]
          rw [swL_s, okS, agP, q3, Bool.false_and, Bool.and_false, if_neg (by decide)] at ih
          exact ih hi _ _
        · have hc := q3
          unfold csw at hc
          have hc := of_decide_eq_true hc
          obtain ⟨a, a1, a2⟩ : ∃ a, a < c ∧ M 65 (k / 7) = nI a := by
            rcases hv (k / 7) (by omega) with e | e
            · rw [e] at hc; exact absurd (by decide) hc.1
            · exact e
          obtain ⟨b, b1, b2⟩ : ∃ b, b < c ∧ M 65 (k % 7) = nI b := by
            rcases hv (k % 7) (by omega) with e | e
            · rw [e] at hc; exact absurd (by decide) hc.2.1
            · exact e
          have ea : agP (wT M) (M 65) (k / 7) (k % 7) = agE (wT M a (k % 7) - wT M a (k / 7)) (wT M b (k / 7) - wT M b (k % 7)) := by
            unfold agP
            rw [q3, a2, b2, nI_clamp (show a < 2 ^ 31 by omega), nI_clamp (show b < 2 ^ 31 by omega), Bool.true_and]
          cases q4 : agE (wT M a (k % 7) - wT M a (k / 7)) (wT M b (k / 7) - wT M b (k % 7))
          · simp only [w_m_swapsNow_0, w_m_swapsNow_1, w_m_swapsNow_2, w_m_swapsNow_3, w_m_swapsNow_5, w_m_swapsNow_7, w_m_swapsNow_10, w_m_swapsNow_11, w_m_swapsNow_13, w_m_swapsNow_14, w_m_swapsNow_16, w_m_swapsNow_17, w_m_swapsNow_19, w_m_swapsNow_20, w_m_swapsNow_22, w_m_swapsNow_24, w_m_swapsNow_26, w_m_swapsNow_29, w_m_swapsNow_31, w_m_swapsNow_32, w_m_swapsNow_35, w_m_swapsNow_38, w_m_swapsNow_39, w_m_swapsNow_41, w_m_swapsNow_43, w_m_swapsNow_46, w_m_swapsNow_49, w_m_swapsNow_50, w_m_swapsNow_52, w_m_swapsNow_54, w_m_swapsNow_57, w_m_swapsNow_60, w_m_swapsNow_61, w_m_swapsNow_62, w_m_swapsNow_65, w_m_swapsNow_67, w_m_swapsNow_69, w_m_swapsNow_70, w_m_swapsNow_72, w_m_swapsNow_73, w_m_swapsNow_74, w_m_swapsNow_77, w_m_swapsNow_80, w_m_swapsNow_83, w_m_swapsNow_84, w_m_swapsNow_85, w_m_swapsNow_88, w_m_swapsNow_89, w_m_swapsNow_92, w_m_swapsNow_93, xm_7, cl_58, g1, g2, not_false_eq_true, d7 (show k < 2 ^ 31 by omega), r7, p1, p2, h3, e_m_canSwap (show k / 7 < 7 by omega) (show k % 7 < 7 by omega), q3, cl_58, nI_1, e_m_agree h (show k / 7 < 7 by omega) (show k % 7 < 7 by omega) (show a < 4 by omega) a2 (show b < 4 by omega) b2, q4, i10, Bool.false_eq_true, eq_self, true_or, or_true, if_true, if_false, gv_int, gv_ref, av_some, al_some, un_int, un_ref, un_mk, ok4_0, ok4_1, ok4_2, ok4_3, ok4_4, Kn_some, Kn_none, true_and, and_true]
            rw [swL_s, okS, ea, q4, Bool.and_false, if_neg (by decide)] at ih
            exact ih hi _ _
          · have eo : okS (wT M) (M 65) n k = true := by
              rw [okS, ea, q4, decide_eq_true q1, decide_eq_true q2]; rfl
            have g5 : (10 : Int32) * nI (k / 7) + nI (k % 7) = nI (10 * (k / 7) + k % 7) := by rw [show (10 : Int32) = nI 10 from rfl, pk_mul, nI_add]
            rw [swL_s, if_pos eo] at ih
            simp only [w_m_swapsNow_0, w_m_swapsNow_1, w_m_swapsNow_2, w_m_swapsNow_3, w_m_swapsNow_5, w_m_swapsNow_7, w_m_swapsNow_10, w_m_swapsNow_11, w_m_swapsNow_13, w_m_swapsNow_14, w_m_swapsNow_16, w_m_swapsNow_17, w_m_swapsNow_19, w_m_swapsNow_20, w_m_swapsNow_22, w_m_swapsNow_24, w_m_swapsNow_26, w_m_swapsNow_29, w_m_swapsNow_31, w_m_swapsNow_32, w_m_swapsNow_35, w_m_swapsNow_38, w_m_swapsNow_39, w_m_swapsNow_41, w_m_swapsNow_43, w_m_swapsNow_46, w_m_swapsNow_49, w_m_swapsNow_50, w_m_swapsNow_52, w_m_swapsNow_54, w_m_swapsNow_57, w_m_swapsNow_60, w_m_swapsNow_61, w_m_swapsNow_62, w_m_swapsNow_65, w_m_swapsNow_67, w_m_swapsNow_69, w_m_swapsNow_70, w_m_swapsNow_72, w_m_swapsNow_73, w_m_swapsNow_74, w_m_swapsNow_77, w_m_swapsNow_80, w_m_swapsNow_83, w_m_swapsNow_84, w_m_swapsNow_85, w_m_swapsNow_88, w_m_swapsNow_89, w_m_swapsNow_92, w_m_swapsNow_93, xm_7, cl_58, g1, g2, not_false_eq_true, d7 (show k < 2 ^ 31 by omega), r7, p1, p2, h3, e_m_canSwap (show k / 7 < 7 by omega) (show k % 7 < 7 by omega), q3, cl_58, nI_1, e_m_agree h (show k / 7 < 7 by omega) (show k % 7 < 7 by omega) (show a < 4 by omega) a2 (show b < 4 by omega) b2, q4, g5, i10, Bool.false_eq_true, eq_self, true_or, or_true, if_true, if_false, gv_int, gv_ref, av_some, al_some, un_int, un_ref, un_mk, ok4_0, ok4_1, ok4_2, ok4_3, ok4_4, Kn_some, Kn_none, true_and, and_true]
            by_cases q5 : nI (swL (wT M) (M 65) n k).length = i
            · rw [if_pos q5]
              obtain ⟨r, hr⟩ := swL_pre (wT M) (M 65) n (k + 1) (48 - k)
              rw [show k + 1 + (48 - k) = 49 by omega, swL_s (wT M) (M 65) n k, if_pos eo] at hr
              unfold swR at hQ
              rw [← q5, if_neg (nI_ne_m1 (by omega)), hr, if_pos (inb_nI (by simp) (by have := swL_len (wT M) (M 65) n 49; rw [hr] at this; omega)), nI_clamp (by omega)] at hQ
              simpa using hQ
            · rw [if_neg q5]
              have := ih (fun j hj e => ?_)
              · simp only [List.length_append, List.length_cons, List.length_nil] at this
                exact this _ _
              · simp only [List.length_append, List.length_cons, List.length_nil] at hj
                by_cases ej : j < (swL (wT M) (M 65) n k).length
                · exact hi j ej e
                · rw [show j = (swL (wT M) (M 65) n k).length by omega] at e
                  exact q5 e.symm
      · have p2 : (nI (k % 7) < nI n) = False := eq_false (nI_nlt (by omega) (by omega))
        simp only [w_m_swapsNow_0, w_m_swapsNow_1, w_m_swapsNow_2, w_m_swapsNow_3, w_m_swapsNow_5, w_m_swapsNow_7, w_m_swapsNow_10, w_m_swapsNow_11, w_m_swapsNow_13, w_m_swapsNow_14, w_m_swapsNow_16, w_m_swapsNow_17, w_m_swapsNow_19, w_m_swapsNow_20, w_m_swapsNow_22, w_m_swapsNow_24, w_m_swapsNow_26, w_m_swapsNow_29, w_m_swapsNow_31, w_m_swapsNow_32, w_m_swapsNow_35, w_m_swapsNow_38, w_m_swapsNow_39, w_m_swapsNow_41, w_m_swapsNow_43, w_m_swapsNow_46, w_m_swapsNow_49, w_m_swapsNow_50, w_m_swapsNow_52, w_m_swapsNow_54, w_m_swapsNow_57, w_m_swapsNow_60, w_m_swapsNow_61, w_m_swapsNow_62, w_m_swapsNow_65, w_m_swapsNow_67, w_m_swapsNow_69, w_m_swapsNow_70, w_m_swapsNow_72, w_m_swapsNow_73, w_m_swapsNow_74, w_m_swapsNow_77, w_m_swapsNow_80, w_m_swapsNow_83, w_m_swapsNow_84, w_m_swapsNow_85, w_m_swapsNow_88, w_m_swapsNow_89, w_m_swapsNow_92, w_m_swapsNow_93, xm_7, cl_58, g1, g2, not_false_eq_true, d7 (show k < 2 ^ 31 by omega), r7, p1, p2, h3, nI_1, i10, Bool.false_eq_true, eq_self, true_or, or_true, if_true, if_false, gv_int, gv_ref, av_some, al_some, un_int, un_ref, un_mk, ok4_0, ok4_1, ok4_2, ok4_3, ok4_4, Kn_some, Kn_none, true_and, and_true]
        rw [swL_s, okS, decide_eq_false q2, Bool.and_false, Bool.false_and, if_neg (by decide)] at ih
        exact ih hi _ _
    · have p1 : (nI (k / 7) < nI (k % 7)) = False := eq_false (nI_nlt (by omega) (by omega))
      simp only [w_m_swapsNow_0, w_m_swapsNow_1, w_m_swapsNow_2, w_m_swapsNow_3, w_m_swapsNow_5, w_m_swapsNow_7, w_m_swapsNow_10, w_m_swapsNow_11, w_m_swapsNow_13, w_m_swapsNow_14, w_m_swapsNow_16, w_m_swapsNow_17, w_m_swapsNow_19, w_m_swapsNow_20, w_m_swapsNow_22, w_m_swapsNow_24, w_m_swapsNow_26, w_m_swapsNow_29, w_m_swapsNow_31, w_m_swapsNow_32, w_m_swapsNow_35, w_m_swapsNow_38, w_m_swapsNow_39, w_m_swapsNow_41, w_m_swapsNow_43, w_m_swapsNow_46, w_m_swapsNow_49, w_m_swapsNow_50, w_m_swapsNow_52, w_m_swapsNow_54, w_m_swapsNow_57, w_m_swapsNow_60, w_m_swapsNow_61, w_m_swapsNow_62, w_m_swapsNow_65, w_m_swapsNow_67, w_m_swapsNow_69, w_m_swapsNow_70, w_m_swapsNow_72, w_m_swapsNow_73, w_m_swapsNow_74, w_m_swapsNow_77, w_m_swapsNow_80, w_m_swapsNow_83, w_m_swapsNow_84, w_m_swapsNow_85, w_m_swapsNow_88, w_m_swapsNow_89, w_m_swapsNow_92, w_m_swapsNow_93, xm_7, cl_58, g1, g2, not_false_eq_true, d7 (show k < 2 ^ 31 by omega), r7, p1, nI_1, i10, Bool.false_eq_true, eq_self, true_or, or_true, if_true, if_false, gv_int, gv_ref, av_some, al_some, un_int, un_ref, un_mk, ok4_0, ok4_1, ok4_2, ok4_3, ok4_4, Kn_some, Kn_none, true_and, and_true]
      rw [swL_s, okS, decide_eq_false q1, Bool.false_and, Bool.false_and, if_neg (by decide)] at ih
      exact ih hi _ _
