/-! the reference's public methods: what is done -/
/-- the memory behind remember() -/
def RM (M : Mm) (u : Nat) : Mm := up (st M 73 (rmF (M 73) (M 65) u)) 58 26 (nI (rmU u))
theorem RM_md {M : Mm} {u K c n : Nat} (h : MD M K c n) : MD (RM M u) K c n := h
theorem e_m_give {A B : Nat} {M : Mm} {Q : Po} {K c n u : Nat} {t k : Int32} (h : MD M K c n) (hu : M 58 26 = nI u) (h20 : u ≤ 20) : WP 177 0 [.ref 58, .int t, .int k, mk] [] (shw A B) (0, 0) M Q = if inb t n && inb k c then Q (some (.int (M 65 t.toNatClampNeg))) (shw A B) (up (RM M u) 65 t.toNatClampNeg k) else Q (some (.int (-1000000001))) (shw A B) M := by
  cases ht : inb t n
  · simp only [w_m_give_0, w_m_give_1, w_m_give_2, w_m_give_5, w_m_give_8, w_m_give_9, w_m_give_10, w_m_give_13, w_m_give_16, w_m_give_18, w_m_give_19, w_m_give_20, w_m_give_23, w_m_give_24, w_m_give_27, w_m_give_28, w_m_give_29, w_m_give_30, w_m_give_31, w_m_give_34, w_m_give_35, w_m_give_36, w_m_give_37, w_m_give_38, cl_58, xm_9, al_65, e_m_isThing h, ht, cl_58, Bool.false_and, i10, Bool.false_eq_true, eq_self, true_or, or_true, if_true, if_false, gv_int, gv_ref, av_some, al_some, un_int, un_ref, un_mk, ok4_0, ok4_1, ok4_2, ok4_3, ok4_4, Kn_some, Kn_none, true_and, and_true]
  · cases hk : inb k c
    · simp only [w_m_give_0, w_m_give_1, w_m_give_2, w_m_give_5, w_m_give_8, w_m_give_9, w_m_give_10, w_m_give_13, w_m_give_16, w_m_give_18, w_m_give_19, w_m_give_20, w_m_give_23, w_m_give_24, w_m_give_27, w_m_give_28, w_m_give_29, w_m_give_30, w_m_give_31, w_m_give_34, w_m_give_35, w_m_give_36, w_m_give_37, w_m_give_38, cl_58, xm_9, al_65, e_m_isThing h, e_m_isChild h, ht, hk, cl_58, Bool.and_false, i10, Bool.false_eq_true, eq_self, true_or, or_true, if_true, if_false, gv_int, gv_ref, av_some, al_some, un_int, un_ref, un_mk, ok4_0, ok4_1, ok4_2, ok4_3, ok4_4, Kn_some, Kn_none, true_and, and_true]
    · have hn := h.2.2.2.2.2.1
      obtain ⟨j, j1, rfl⟩ := inb_of ht (by omega)
      have g : vp_in (nI j) 7 := vp_in_nI (by omega) (by decide)
      simp only [w_m_give_0, w_m_give_1, w_m_give_2, w_m_give_5, w_m_give_8, w_m_give_9, w_m_give_10, w_m_give_13, w_m_give_16, w_m_give_18, w_m_give_19, w_m_give_20, w_m_give_23, w_m_give_24, w_m_give_27, w_m_give_28, w_m_give_29, w_m_give_30, w_m_give_31, w_m_give_34, w_m_give_35, w_m_give_36, w_m_give_37, w_m_give_38, cl_58, xm_9, al_65, e_m_isThing h, e_m_isChild h, ht, hk, cl_58, Bool.and_self, e_m_remember hu h20, g, i10, Bool.false_eq_true, eq_self, true_or, or_true, if_true, if_false, gv_int, gv_ref, av_some, al_some, un_int, un_ref, un_mk, ok4_0, ok4_1, ok4_2, ok4_3, ok4_4, Kn_some, Kn_none, true_and, and_true]
      rfl
theorem e_m_take {A B : Nat} {M : Mm} {Q : Po} {K c n u : Nat} {t : Int32} (h : MD M K c n) (hu : M 58 26 = nI u) (h20 : u ≤ 20) : WP 178 0 [.ref 58, .int t, mk] [] (shw A B) (0, 0) M Q = if inb t n then (if M 65 t.toNatClampNeg < 0 then Q (some (.int (-1000000003))) (shw A B) M else Q (some (.int (M 65 t.toNatClampNeg))) (shw A B) (up (RM M u) 65 t.toNatClampNeg (-1))) else Q (some (.int (-1000000001))) (shw A B) M := by
  cases ht : inb t n
  · simp only [w_m_take_0, w_m_take_1, w_m_take_2, w_m_take_5, w_m_take_8, w_m_take_10, w_m_take_11, w_m_take_12, w_m_take_15, w_m_take_16, w_m_take_17, w_m_take_20, w_m_take_22, w_m_take_23, w_m_take_24, w_m_take_27, w_m_take_28, w_m_take_31, w_m_take_32, w_m_take_33, w_m_take_34, w_m_take_35, w_m_take_38, w_m_take_39, w_m_take_40, w_m_take_41, w_m_take_42, cl_58, xm_9, al_65, e_m_isThing h, ht, cl_58, i10, Bool.false_eq_true, eq_self, true_or, or_true, if_true, if_false, gv_int, gv_ref, av_some, al_some, un_int, un_ref, un_mk, ok4_0, ok4_1, ok4_2, ok4_3, ok4_4, Kn_some, Kn_none, true_and, and_true]
  · have hn := h.2.2.2.2.2.1
    obtain ⟨j, j1, rfl⟩ := inb_of ht (by omega)
    have g : vp_in (nI j) 7 := vp_in_nI (by omega) (by decide)
    simp only [w_m_take_0, w_m_take_1, w_m_take_2, w_m_take_5, w_m_take_8, w_m_take_10, w_m_take_11, w_m_take_12, w_m_take_15, w_m_take_16, w_m_take_17, w_m_take_20, w_m_take_22, w_m_take_23, w_m_take_24, w_m_take_27, w_m_take_28, w_m_take_31, w_m_take_32, w_m_take_33, w_m_take_34, w_m_take_35, w_m_take_38, w_m_take_39, w_m_take_40, w_m_take_41, w_m_take_42, cl_58, xm_9, al_65, e_m_isThing h, ht, cl_58, e_m_remember hu h20, g, i10, Bool.false_eq_true, eq_self, true_or, or_true, if_true, if_false, gv_int, gv_ref, av_some, al_some, un_int, un_ref, un_mk, ok4_0, ok4_1, ok4_2, ok4_3, ok4_4, Kn_some, Kn_none, true_and, and_true]
    rfl
theorem e_m_swap {A B : Nat} {M : Mm} {Q : Po} {K c n u : Nat} {t v : Int32} (h : MD M K c n) (hv : HV (M 65) c) (hu : M 58 26 = nI u) (h20 : u ≤ 20) : WP 183 0 [.ref 58, .int t, .int v, mk] [] (shw A B) (0, 0) M Q = if inb t n = true ∧ inb v n = true ∧ ¬ t = v then (if csw (M 65 t.toNatClampNeg) (M 65 v.toNatClampNeg) then Q (some (.int (if agP (wT M) (M 65) t.toNatClampNeg v.toNatClampNeg then 1 else 0))) (shw A B) (st (RM M u) 65 (swp (M 65) t.toNatClampNeg v.toNatClampNeg)) else Q (some (.int (-1000000003))) (shw A B) M) else Q (some (.int (-1000000001))) (shw A B) M := by
  cases ht : inb t n
  · simp only [w_m_swap_0, w_m_swap_1, w_m_swap_2, w_m_swap_5, w_m_swap_8, w_m_swap_9, w_m_swap_10, w_m_swap_13, w_m_swap_16, w_m_swap_17, w_m_swap_18, w_m_swap_21, w_m_swap_23, w_m_swap_24, w_m_swap_25, w_m_swap_26, w_m_swap_27, w_m_swap_30, w_m_swap_33, w_m_swap_35, w_m_swap_36, w_m_swap_37, w_m_swap_40, w_m_swap_41, w_m_swap_42, w_m_swap_43, w_m_swap_46, w_m_swap_47, w_m_swap_48, w_m_swap_49, w_m_swap_50, w_m_swap_53, w_m_swap_54, w_m_swap_57, w_m_swap_58, w_m_swap_61, w_m_swap_62, cl_58, e_m_isThing h, ht, cl_58, false_and, i10, Bool.false_eq_true, eq_self, true_or, or_true, if_true, if_false, gv_int, gv_ref, av_some, al_some, un_int, un_ref, un_mk, ok4_0, ok4_1, ok4_2, ok4_3, ok4_4, Kn_some, Kn_none, true_and, and_true]
  · cases hk : inb v n
    · simp only [w_m_swap_0, w_m_swap_1, w_m_swap_2, w_m_swap_5, w_m_swap_8, w_m_swap_9, w_m_swap_10, w_m_swap_13, w_m_swap_16, w_m_swap_17, w_m_swap_18, w_m_swap_21, w_m_swap_23, w_m_swap_24, w_m_swap_25, w_m_swap_26, w_m_swap_27, w_m_swap_30, w_m_swap_33, w_m_swap_35, w_m_swap_36, w_m_swap_37, w_m_swap_40, w_m_swap_41, w_m_swap_42, w_m_swap_43, w_m_swap_46, w_m_swap_47, w_m_swap_48, w_m_swap_49, w_m_swap_50, w_m_swap_53, w_m_swap_54, w_m_swap_57, w_m_swap_58, w_m_swap_61, w_m_swap_62, cl_58, e_m_isThing h, ht, hk, cl_58, false_and, and_false, i10, Bool.false_eq_true, eq_self, true_or, or_true, if_true, if_false, gv_int, gv_ref, av_some, al_some, un_int, un_ref, un_mk, ok4_0, ok4_1, ok4_2, ok4_3, ok4_4, Kn_some, Kn_none, true_and, and_true]
    · by_cases q : t = v
      · simp only [w_m_swap_0, w_m_swap_1, w_m_swap_2, w_m_swap_5, w_m_swap_8, w_m_swap_9, w_m_swap_10, w_m_swap_13, w_m_swap_16, w_m_swap_17, w_m_swap_18, w_m_swap_21, w_m_swap_23, w_m_swap_24, w_m_swap_25, w_m_swap_26, w_m_swap_27, w_m_swap_30, w_m_swap_33, w_m_swap_35, w_m_swap_36, w_m_swap_37, w_m_swap_40, w_m_swap_41, w_m_swap_42, w_m_swap_43, w_m_swap_46, w_m_swap_47, w_m_swap_48, w_m_swap_49, w_m_swap_50, w_m_swap_53, w_m_swap_54, w_m_swap_57, w_m_swap_58, w_m_swap_61, w_m_swap_62, cl_58, e_m_isThing h, ht, hk, cl_58, eq_true q, not_true_eq_false, and_false, i10, Bool.false_eq_true, eq_self, true_or, or_true, if_true, if_false, gv_int, gv_ref, av_some, al_some, un_int, un_ref, un_mk, ok4_0, ok4_1, ok4_2, ok4_3, ok4_4, Kn_some, Kn_none, true_and, and_true]
      · have hn := h.2.2.2.2.2.1
        have hc4 := h.2.2.2.2.1
        obtain ⟨a, a1, rfl⟩ := inb_of ht (by omega)
        obtain ⟨b, b1, rfl⟩ := inb_of hk (by omega)
        rw [nI_clamp (show a < 2 ^ 31 by omega), nI_clamp (show b < 2 ^ 31 by omega)]
        cases hc : csw (M 65 a) (M 65 b)
        · simp only [w_m_swap_0, w_m_swap_1, w_m_swap_2, w_m_swap_5, w_m_swap_8, w_m_swap_9, w_m_swap_10, w_m_swap_13, w_m_swap_16, w_m_swap_17, w_m_swap_18, w_m_swap_21, w_m_swap_23, w_m_swap_24, w_m_swap_25, w_m_swap_26, w_m_swap_27, w_m_swap_30, w_m_swap_33, w_m_swap_35, w_m_swap_36, w_m_swap_37, w_m_swap_40, w_m_swap_41, w_m_swap_42, w_m_swap_43, w_m_swap_46, w_m_swap_47, w_m_swap_48, w_m_swap_49, w_m_swap_50, w_m_swap_53, w_m_swap_54, w_m_swap_57, w_m_swap_58, w_m_swap_61, w_m_swap_62, cl_58, e_m_isThing h, ht, hk, cl_58, eq_false q, not_false_eq_true, e_m_canSwap (show a < 7 by omega) (show b < 7 by omega), hc, i10, Bool.false_eq_true, eq_self, true_or, or_true, if_true, if_false, gv_int, gv_ref, av_some, al_some, un_int, un_ref, un_mk, ok4_0, ok4_1, ok4_2, ok4_3, ok4_4, Kn_some, Kn_none, true_and, and_true]
        · have hc2 := of_decide_eq_true hc
          obtain ⟨i, i1, i2⟩ : ∃ i, i < c ∧ M 65 a = nI i := by
            rcases hv a (by omega) with e | e
            · rw [e] at hc2; exact absurd (by decide) hc2.1
            · exact e
          obtain ⟨j, j1, j2⟩ : ∃ j, j < c ∧ M 65 b = nI j := by
            rcases hv b (by omega) with e | e
            · rw [e] at hc2; exact absurd (by decide) hc2.2.1
            · exact e
          have ea : agP (wT M) (M 65) a b = agE (wT M i b - wT M i a) (wT M j a - wT M j b) := by
            unfold agP
            rw [hc, i2, j2, nI_clamp (show i < 2 ^ 31 by omega), nI_clamp (show j < 2 ^ 31 by omega), Bool.true_and]
          have em : up (up (up (st M 73 (rmF (M 73) (M 65) u)) 58 26 (nI (rmU u))) 65 a (M 65 b)) 65 b (M 65 a) = st (RM M u) 65 (swp (M 65) a b) := by
            rw [up_eq_st, up_eq_st, st_st]; rfl
          rw [ea]
          simp only [w_m_swap_0, w_m_swap_1, w_m_swap_2, w_m_swap_5, w_m_swap_8, w_m_swap_9, w_m_swap_10, w_m_swap_13, w_m_swap_16, w_m_swap_17, w_m_swap_18, w_m_swap_21, w_m_swap_23, w_m_swap_24, w_m_swap_25, w_m_swap_26, w_m_swap_27, w_m_swap_30, w_m_swap_33, w_m_swap_35, w_m_swap_36, w_m_swap_37, w_m_swap_40, w_m_swap_41, w_m_swap_42, w_m_swap_43, w_m_swap_46, w_m_swap_47, w_m_swap_48, w_m_swap_49, w_m_swap_50, w_m_swap_53, w_m_swap_54, w_m_swap_57, w_m_swap_58, w_m_swap_61, w_m_swap_62, cl_58, e_m_isThing h, ht, hk, cl_58, eq_false q, not_false_eq_true, e_m_canSwap (show a < 7 by omega) (show b < 7 by omega), hc, e_m_remember hu h20, e_m_agree (show MD (up (st M 73 (rmF (M 73) (M 65) u)) 58 26 (nI (rmU u))) K c n from h) (show a < 7 by omega) (show b < 7 by omega) (show i < 4 by omega) (show up (st M 73 (rmF (M 73) (M 65) u)) 58 26 (nI (rmU u)) 65 a = nI i from i2) (show j < 4 by omega) (show up (st M 73 (rmF (M 73) (M 65) u)) 58 26 (nI (rmU u)) 65 b = nI j from j2), e_m_swapNow (show a < 7 by omega) (show b < 7 by omega), show wT (up (st M 73 (rmF (M 73) (M 65) u)) 58 26 (nI (rmU u))) = wT M from rfl, show up (st M 73 (rmF (M 73) (M 65) u)) 58 26 (nI (rmU u)) 65 = M 65 from rfl, em, i10, Bool.false_eq_true, eq_self, true_or, or_true, if_true, if_false, gv_int, gv_ref, av_some, al_some, un_int, un_ref, un_mk, ok4_0, ok4_1, ok4_2, ok4_3, ok4_4, Kn_some, Kn_none, true_and, and_true]
          cases agE (wT M i b - wT M i a) (wT M j a - wT M j b) <;> rfl
theorem e_m_undo {A B : Nat} {M : Mm} {Q : Po} {u : Nat} (hu : M 58 26 = nI u) (h20 : u ≤ 20) : WP 187 0 [.ref 58, mk] [] (shw A B) (0, 0) M Q = if u = 0 then Q (some (.int (-1000000003))) (shw A B) M else Q (some (.int (nI (u - 1)))) (shw A B) (st (up M 58 26 (nI (u - 1))) 65 (fun j => if j < 7 then M 73 (7 * (u - 1) + j) else M 65 j)) := by
  by_cases q : u = 0
  · simp only [w_m_undo_0, w_m_undo_1, w_m_undo_4, w_m_undo_7, w_m_undo_9, w_m_undo_10, w_m_undo_11, w_m_undo_12, w_m_undo_15, w_m_undo_16, w_m_undo_17, w_m_undo_20, w_m_undo_21, w_m_undo_23, w_m_undo_25, w_m_undo_28, w_m_undo_29, w_m_undo_32, w_m_undo_33, w_m_undo_34, w_m_undo_37, w_m_undo_39, w_m_undo_40, w_m_undo_43, w_m_undo_44, w_m_undo_45, w_m_undo_46, w_m_undo_47, w_m_undo_48, w_m_undo_51, w_m_undo_54, w_m_undo_55, w_m_undo_58, xm_26, xm_9, al_65, xm_27, al_73, hu, q, (show (nI 0 = 0) = True by decide), i10, Bool.false_eq_true, eq_self, true_or, or_true, if_true, if_false, gv_int, gv_ref, av_some, al_some, un_int, un_ref, un_mk, ok4_0, ok4_1, ok4_2, ok4_3, ok4_4, Kn_some, Kn_none, true_and, and_true]
  · rw [if_neg q]
    refine WP.is (fun Q hQ => ?_)
    obtain ⟨v, rfl⟩ : ∃ v, u = v + 1 := ⟨u - 1, by omega⟩
    rw [Nat.add_sub_cancel] at hQ
    have g0 : (nI (v + 1) = 0) = False := eq_false (nI_ne0 (by omega) (by omega))
    simp only [w_m_undo_0, w_m_undo_1, w_m_undo_4, w_m_undo_7, w_m_undo_9, w_m_undo_10, w_m_undo_11, w_m_undo_12, w_m_undo_15, w_m_undo_16, w_m_undo_17, w_m_undo_20, w_m_undo_21, w_m_undo_23, w_m_undo_25, w_m_undo_28, w_m_undo_29, w_m_undo_32, w_m_undo_33, w_m_undo_34, w_m_undo_37, w_m_undo_39, w_m_undo_40, w_m_undo_43, w_m_undo_44, w_m_undo_45, w_m_undo_46, w_m_undo_47, w_m_undo_48, w_m_undo_51, w_m_undo_54, w_m_undo_55, w_m_undo_58, xm_26, xm_9, al_65, xm_27, al_73, hu, g0, nI_pred, i10, Bool.false_eq_true, eq_self, true_or, or_true, if_true, if_false, gv_int, gv_ref, av_some, al_some, un_int, un_ref, un_mk, ok4_0, ok4_1, ok4_2, ok4_3, ok4_4, Kn_some, Kn_none, true_and, and_true]
    have := for_up (n := 7) (P := fun k => WP 187 22 [.ref 58, .int (nI k)] [] (shw A B) (0, 0) (st (up M 58 26 (nI v)) 65 (ov (fun j => M 73 (7 * v + j)) (M 65) k)) Q) ?_ ?_
    · rw [ov_0, show st (up M 58 26 (nI v)) 65 (M 65) = up M 58 26 (nI v) from st_self _ 65] at this
      exact this
    · rw [w_m_undo_22]
      simp only [w_m_undo_0, w_m_undo_1, w_m_undo_4, w_m_undo_7, w_m_undo_9, w_m_undo_10, w_m_undo_11, w_m_undo_12, w_m_undo_15, w_m_undo_16, w_m_undo_17, w_m_undo_20, w_m_undo_21, w_m_undo_23, w_m_undo_25, w_m_undo_28, w_m_undo_29, w_m_undo_32, w_m_undo_33, w_m_undo_34, w_m_undo_37, w_m_undo_39, w_m_undo_40, w_m_undo_43, w_m_undo_44, w_m_undo_45, w_m_undo_46, w_m_undo_47, w_m_undo_48, w_m_undo_51, w_m_undo_54, w_m_undo_55, w_m_undo_58, xm_26, xm_9, al_65, xm_27, al_73, (show (nI 7 < 7) = False by decide), up_c, st_at, upd_at, Nat.reduceEqDiff, reduceIte, i10, Bool.false_eq_true, eq_self, true_or, or_true, if_true, if_false, gv_int, gv_ref, av_some, al_some, un_int, un_ref, un_mk, ok4_0, ok4_1, ok4_2, ok4_3, ok4_4, Kn_some, Kn_none, true_and, and_true]
      exact hQ
    · intro k hk ih
      have g1 : (nI k < 7) = True := eq_true (nI_lt hk (by decide))
      have g2 : vp_in (nI k) 7 := vp_in_nI (by omega) (by decide)
      have g3 : vp_in (nI (7 * v + k)) 140 := vp_in_nI (by omega) (by decide)
      have g4 : (7 : Int32) * nI v + nI k = nI (7 * v + k) := by rw [show (7 : Int32) = nI 7 from rfl, pk_mul, nI_add]
      rw [w_m_undo_22]
      simp only [w_m_undo_0, w_m_undo_1, w_m_undo_4, w_m_undo_7, w_m_undo_9, w_m_undo_10, w_m_undo_11, w_m_undo_12, w_m_undo_15, w_m_undo_16, w_m_undo_17, w_m_undo_20, w_m_undo_21, w_m_undo_23, w_m_undo_25, w_m_undo_28, w_m_undo_29, w_m_undo_32, w_m_undo_33, w_m_undo_34, w_m_undo_37, w_m_undo_39, w_m_undo_40, w_m_undo_43, w_m_undo_44, w_m_undo_45, w_m_undo_46, w_m_undo_47, w_m_undo_48, w_m_undo_51, w_m_undo_54, w_m_undo_55, w_m_undo_58, xm_26, xm_9, al_65, xm_27, al_73, g1, g2, g3, g4, nI_clamp (show k < 2 ^ 31 by omega), nI_clamp (show 7 * v + k < 2 ^ 31 by omega), nI_1, show ∀ f, st (up M 58 26 (nI v)) 65 f 58 26 = nI v from fun _ => rfl, show ∀ f, st (up M 58 26 (nI v)) 65 f 73 = M 73 from fun _ => rfl, i10, Bool.false_eq_true, eq_self, true_or, or_true, if_true, if_false, gv_int, gv_ref, av_some, al_some, un_int, un_ref, un_mk, ok4_0, ok4_1, ok4_2, ok4_3, ok4_4, Kn_some, Kn_none, true_and, and_true]
      rw [up_st, show M 73 (7 * v + k) = (fun j => M 73 (7 * v + j)) k from rfl, ov_s]
      exact ih
theorem e_m_swaps {A B : Nat} {M : Mm} {Q : Po} {K c n : Nat} {i : Int32} (h : MD M K c n) (hv : HV (M 65) c) : WP 191 0 [.ref 58, .int i] [] (shw A B) (0, 0) M Q = Q (some (.int (swR (swL (wT M) (M 65) n 49) i))) (shw A B) M := by
  simp only [w_m_swaps_0, w_m_swaps_1, w_m_swaps_2, w_m_swaps_5, cl_58, e_m_swapsNow h hv, cl_58, i10, Bool.false_eq_true, eq_self, true_or, or_true, if_true, if_false, gv_int, gv_ref, av_some, al_some, un_int, un_ref, un_mk, ok4_0, ok4_1, ok4_2, ok4_3, ok4_4, Kn_some, Kn_none, true_and, and_true]
def lastE (da : Nat → Int32) (kd : Nat → Nat) (n : Nat) (d : Int32) : Int32 := lp (fun t s => s ||| (if da (kd t) < d then (0 : Int32) else 1 <<< (nI t &&& 31))) n 0
theorem e_m_lasts {A B : Nat} {M : Mm} {Q : Po} {K c n : Nat} {d : Int32} (h : MD M K c n) : WP 203 0 [.ref 58, .int d, mk, mk] [] (shw A B) (0, 0) M Q = if inb d 100 then Q (some (.int (lastE (M 60) (kN M) n d))) (shw A B) M else Q (some (.int (-1000000002))) (shw A B) M := by
  cases hd : inb d 100
  · simp only [w_m_lasts_0, w_m_lasts_1, w_m_lasts_2, w_m_lasts_3, w_m_lasts_6, w_m_lasts_9, w_m_lasts_12, w_m_lasts_14, w_m_lasts_15, w_m_lasts_16, w_m_lasts_17, w_m_lasts_18, w_m_lasts_20, w_m_lasts_21, w_m_lasts_24, w_m_lasts_27, w_m_lasts_28, w_m_lasts_29, w_m_lasts_32, w_m_lasts_33, w_m_lasts_36, w_m_lasts_37, w_m_lasts_38, w_m_lasts_39, w_m_lasts_40, w_m_lasts_43, w_m_lasts_44, w_m_lasts_45, w_m_lasts_46, w_m_lasts_49, w_m_lasts_50, w_m_lasts_51, w_m_lasts_52, w_m_lasts_55, w_m_lasts_58, w_m_lasts_59, xm_7, xm_2, al_60, xm_8, al_64, e_m_in, rng_k 100 (show 100 < 100000 by decide) (show (nI 100 - 1).toInt64 = 99 by decide), hd, i10, Bool.false_eq_true, eq_self, true_or, or_true, if_true, if_false, gv_int, gv_ref, av_some, al_some, un_int, un_ref, un_mk, ok4_0, ok4_1, ok4_2, ok4_3, ok4_4, Kn_some, Kn_none, true_and, and_true]
  · refine WP.is (fun Q hQ => ?_)
    obtain ⟨h1, h2, h3, h4, h5, h6, h7⟩ := id h
    simp only [w_m_lasts_0, w_m_lasts_1, w_m_lasts_2, w_m_lasts_3, w_m_lasts_6, w_m_lasts_9, w_m_lasts_12, w_m_lasts_14, w_m_lasts_15, w_m_lasts_16, w_m_lasts_17, w_m_lasts_18, w_m_lasts_20, w_m_lasts_21, w_m_lasts_24, w_m_lasts_27, w_m_lasts_28, w_m_lasts_29, w_m_lasts_32, w_m_lasts_33, w_m_lasts_36, w_m_lasts_37, w_m_lasts_38, w_m_lasts_39, w_m_lasts_40, w_m_lasts_43, w_m_lasts_44, w_m_lasts_45, w_m_lasts_46, w_m_lasts_49, w_m_lasts_50, w_m_lasts_51, w_m_lasts_52, w_m_lasts_55, w_m_lasts_58, w_m_lasts_59, xm_7, xm_2, al_60, xm_8, al_64, e_m_in, rng_k 100 (show 100 < 100000 by decide) (show (nI 100 - 1).toInt64 = 99 by decide), hd, i10, Bool.false_eq_true, eq_self, true_or, or_true, if_true, if_false, gv_int, gv_ref, av_some, al_some, un_int, un_ref, un_mk, ok4_0, ok4_1, ok4_2, ok4_3, ok4_4, Kn_some, Kn_none, true_and, and_true]
    refine for_up (n := n) (P := fun k => WP 203 19 [.ref 58, .int d, .int (lastE (M 60) (kN M) k d), .int (nI k)] [] (shw A B) (0, 0) M Q) ?_ ?_
    · rw [w_m_lasts_19]
      simp only [w_m_lasts_0, w_m_lasts_1, w_m_lasts_2, w_m_lasts_3, w_m_lasts_6, w_m_lasts_9, w_m_lasts_12, w_m_lasts_14, w_m_lasts_15, w_m_lasts_16, w_m_lasts_17, w_m_lasts_18, w_m_lasts_20, w_m_lasts_21, w_m_lasts_24, w_m_lasts_27, w_m_lasts_28, w_m_lasts_29, w_m_lasts_32, w_m_lasts_33, w_m_lasts_36, w_m_lasts_37, w_m_lasts_38, w_m_lasts_39, w_m_lasts_40, w_m_lasts_43, w_m_lasts_44, w_m_lasts_45, w_m_lasts_46, w_m_lasts_49, w_m_lasts_50, w_m_lasts_51, w_m_lasts_52, w_m_lasts_55, w_m_lasts_58, w_m_lasts_59, xm_7, xm_2, al_60, xm_8, al_64, h3, lt_irr, i10, Bool.false_eq_true, eq_self, true_or, or_true, if_true, if_false, gv_int, gv_ref, av_some, al_some, un_int, un_ref, un_mk, ok4_0, ok4_1, ok4_2, ok4_3, ok4_4, Kn_some, Kn_none, true_and, and_true]
      exact hQ
    · intro k hk ih
      have g1 : nI k < nI n := nI_lt hk (by omega)
      have g2 : vp_in (nI k) 7 := vp_in_nI (by omega) (by decide)
      have g4 := kN_ok h (show k < 7 by omega)
      have g5 : vp_in (nI (kN M k)) 5 := vp_in_nI g4.1 (by decide)
      rw [w_m_lasts_19]
      simp only [w_m_lasts_0, w_m_lasts_1, w_m_lasts_2, w_m_lasts_3, w_m_lasts_6, w_m_lasts_9, w_m_lasts_12, w_m_lasts_14, w_m_lasts_15, w_m_lasts_16, w_m_lasts_17, w_m_lasts_18, w_m_lasts_20, w_m_lasts_21, w_m_lasts_24, w_m_lasts_27, w_m_lasts_28, w_m_lasts_29, w_m_lasts_32, w_m_lasts_33, w_m_lasts_36, w_m_lasts_37, w_m_lasts_38, w_m_lasts_39, w_m_lasts_40, w_m_lasts_43, w_m_lasts_44, w_m_lasts_45, w_m_lasts_46, w_m_lasts_49, w_m_lasts_50, w_m_lasts_51, w_m_lasts_52, w_m_lasts_55, w_m_lasts_58, w_m_lasts_59, xm_7, xm_2, al_60, xm_8, al_64, h3, g1, g2, nI_clamp (show k < 2 ^ 31 by omega), nI_1, g4.2, g5, nI_clamp (show kN M k < 2 ^ 31 by omega), i10, Bool.false_eq_true, eq_self, true_or, or_true, if_true, if_false, gv_int, gv_ref, av_some, al_some, un_int, un_ref, un_mk, ok4_0, ok4_1, ok4_2, ok4_3, ok4_4, Kn_some, Kn_none, true_and, and_true]
      simp only [lastE, lp_s] at ih ⊢
      by_cases q : M 60 (kN M k) < d
      · simp only [q, if_true] at ih ⊢; exact ih
      · simp only [q, if_false] at ih ⊢; exact ih
def riseE (v : Int32) (k : Nat) : Int32 := lp (fun _ s => if s + s / 10 < 999999 then s + s / 10 else 999999) k v
theorem e_m_rises {A B : Nat} {M : Mm} {Q : Po} {K c n : Nat} {d : Int32} (h : MD M K c n) : WP 204 0 [.ref 58, .int d, mk, mk] [] (shw A B) (0, 0) M Q = if inb d 31 then Q (some (.int (riseE (costE (M 59) (kN M) n) d.toNatClampNeg))) (shw A B) M else Q (some (.int (-1000000002))) (shw A B) M := by
  cases hd : inb d 31
  · simp only [w_m_rises_0, w_m_rises_1, w_m_rises_2, w_m_rises_3, w_m_rises_6, w_m_rises_9, w_m_rises_12, w_m_rises_14, w_m_rises_15, w_m_rises_16, w_m_rises_19, w_m_rises_20, w_m_rises_21, w_m_rises_23, w_m_rises_24, w_m_rises_27, w_m_rises_28, w_m_rises_29, w_m_rises_31, w_m_rises_32, w_m_rises_33, w_m_rises_34, w_m_rises_35, w_m_rises_38, w_m_rises_41, w_m_rises_42, w_m_rises_45, w_m_rises_48, w_m_rises_49, w_m_rises_52, w_m_rises_55, w_m_rises_56, cl_58, e_m_in, rng_k 31 (show 31 < 100000 by decide) (show (nI 31 - 1).toInt64 = 30 by decide), hd, i10, Bool.false_eq_true, eq_self, true_or, or_true, if_true, if_false, gv_int, gv_ref, av_some, al_some, un_int, un_ref, un_mk, ok4_0, ok4_1, ok4_2, ok4_3, ok4_4, Kn_some, Kn_none, true_and, and_true]
  · refine WP.is (fun Q hQ => ?_)
    obtain ⟨m, m1, rfl⟩ := inb_of hd (by decide)
    rw [nI_clamp (show m < 2 ^ 31 by omega)] at hQ
    simp only [w_m_rises_0, w_m_rises_1, w_m_rises_2, w_m_rises_3, w_m_rises_6, w_m_rises_9, w_m_rises_12, w_m_rises_14, w_m_rises_15, w_m_rises_16, w_m_rises_19, w_m_rises_20, w_m_rises_21, w_m_rises_23, w_m_rises_24, w_m_rises_27, w_m_rises_28, w_m_rises_29, w_m_rises_31, w_m_rises_32, w_m_rises_33, w_m_rises_34, w_m_rises_35, w_m_rises_38, w_m_rises_41, w_m_rises_42, w_m_rises_45, w_m_rises_48, w_m_rises_49, w_m_rises_52, w_m_rises_55, w_m_rises_56, cl_58, e_m_in, rng_k 31 (show 31 < 100000 by decide) (show (nI 31 - 1).toInt64 = 30 by decide), hd, e_m_costs h, cl_58, i10, Bool.false_eq_true, eq_self, true_or, or_true, if_true, if_false, gv_int, gv_ref, av_some, al_some, un_int, un_ref, un_mk, ok4_0, ok4_1, ok4_2, ok4_3, ok4_4, Kn_some, Kn_none, true_and, and_true]
    have g3 : ¬ (10 : Int32) = 0 := by decide
    refine for_up (n := m) (P := fun k => WP 204 22 [.ref 58, .int (nI m), .int (riseE (costE (M 59) (kN M) n) k), .int (nI k)] [] (shw A B) (0, 0) M Q) ?_ ?_
    · rw [w_m_rises_22]
      simp only [w_m_rises_0, w_m_rises_1, w_m_rises_2, w_m_rises_3, w_m_rises_6, w_m_rises_9, w_m_rises_12, w_m_rises_14, w_m_rises_15, w_m_rises_16, w_m_rises_19, w_m_rises_20, w_m_rises_21, w_m_rises_23, w_m_rises_24, w_m_rises_27, w_m_rises_28, w_m_rises_29, w_m_rises_31, w_m_rises_32, w_m_rises_33, w_m_rises_34, w_m_rises_35, w_m_rises_38, w_m_rises_41, w_m_rises_42, w_m_rises_45, w_m_rises_48, w_m_rises_49, w_m_rises_52, w_m_rises_55, w_m_rises_56, cl_58, lt_irr, i10, Bool.false_eq_true, eq_self, true_or, or_true, if_true, if_false, gv_int, gv_ref, av_some, al_some, un_int, un_ref, un_mk, ok4_0, ok4_1, ok4_2, ok4_3, ok4_4, Kn_some, Kn_none, true_and, and_true]
      exact hQ
    · intro k hk ih
      have g1 : nI k < nI m := nI_lt hk (by omega)
      rw [w_m_rises_22]
      simp only [riseE, lp_s] at ih ⊢
      generalize lp (fun _ s => if s + s / 10 < 999999 then s + s / 10 else 999999) k (costE (M 59) (kN M) n) = s0 at ih ⊢
      simp only [w_m_rises_0, w_m_rises_1, w_m_rises_2, w_m_rises_3, w_m_rises_6, w_m_rises_9, w_m_rises_12, w_m_rises_14, w_m_rises_15, w_m_rises_16, w_m_rises_19, w_m_rises_20, w_m_rises_21, w_m_rises_23, w_m_rises_24, w_m_rises_27, w_m_rises_28, w_m_rises_29, w_m_rises_31, w_m_rises_32, w_m_rises_33, w_m_rises_34, w_m_rises_35, w_m_rises_38, w_m_rises_41, w_m_rises_42, w_m_rises_45, w_m_rises_48, w_m_rises_49, w_m_rises_52, w_m_rises_55, w_m_rises_56, cl_58, g1, g3, not_false_eq_true, nI_1, i10, Bool.false_eq_true, eq_self, true_or, or_true, if_true, if_false, gv_int, gv_ref, av_some, al_some, un_int, un_ref, un_mk, ok4_0, ok4_1, ok4_2, ok4_3, ok4_4, Kn_some, Kn_none, true_and, and_true]
      by_cases q : s0 + s0 / 10 < 999999
      · simp only [q, if_true] at ih ⊢; exact ih
      · simp only [q, if_false] at ih ⊢; exact ih
