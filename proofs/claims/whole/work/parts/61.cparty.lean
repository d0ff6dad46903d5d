/-! the component: more of a party's answers -/
theorem and1 (y : Int32) : y &&& 1 = 0 ∨ y &&& 1 = 1 := by
  have h : (y &&& 1).toBitVec = y.toBitVec &&& 1#32 := rfl
  rw [BitVec.and_one_eq_setWidth_ofBool_getLsbD] at h
  cases q : y.toBitVec.getLsbD 0
  · left; apply Int32.toBitVec_inj.mp; rw [h, q]; rfl
  · right; apply Int32.toBitVec_inj.mp; rw [h, q]; rfl
theorem bt0 {s k : Int32} : ((s >>> (k &&& 31)) &&& 1 = 0) = (bt s k = false) := by
  apply propext
  unfold bt
  rcases and1 (s >>> (k &&& 31)) with h | h
  · rw [h]; exact ⟨fun _ => by decide, fun _ => rfl⟩
  · rw [h]; exact ⟨fun e => absurd e (by decide), fun e => absurd e (by decide)⟩
theorem e_p_hasPair {A B o K C N : Nat} {M : Mm} {Q : Po} {c d : Int32} (ho : isPP o) (h : CP M o K C N) : WP 37 0 [.ref o, .int c, .int d] [] (shw A B) (0, 0) M Q = if inb c C = true ∧ inb d C = true ∧ ¬ c = d then Q (some (.int 1)) (shw A B) M else Q (some (.int 0)) (shw A B) M := by
  simp only [w_p_hasPair_0, w_p_hasPair_1, w_p_hasPair_2, w_p_hasPair_5, w_p_hasPair_8, w_p_hasPair_9, w_p_hasPair_10, w_p_hasPair_13, w_p_hasPair_16, w_p_hasPair_17, w_p_hasPair_18, w_p_hasPair_21, w_p_hasPair_22, w_p_hasPair_25, w_p_hasPair_26, e_p_hasChild ho h, zpp ho, i10, Bool.false_eq_true, eq_self, true_or, or_true, if_true, if_false, gv_int, gv_ref, av_some, al_some, un_int, un_ref, un_mk, ok4_0, ok4_1, ok4_2, ok4_3, ok4_4, Kn_some, Kn_none, true_and, and_true]
  cases q : inb c C <;> cases r : inb d C <;> by_cases s : c = d <;> simp [s, w_p_hasPair_5, w_p_hasPair_25, w_p_hasPair_26]
theorem e_p_looksAt {A B o K C N : Nat} {M : Mm} {Q : Po} {c d : Int32} (ho : isPP o) (h : CP M o K C N) : WP 38 0 [.ref o, .int c, .int d] [] (shw A B) (0, 0) M Q = if inb c C = true ∧ inb d C = true ∧ bt (M (o + 4) c.toNatClampNeg) d = true then Q (some (.int 1)) (shw A B) M else Q (some (.int 0)) (shw A B) M := by
  obtain ⟨h1, h4, h5, h6⟩ := id h
  cases q : inb c C
  · simp only [w_p_looksAt_0, w_p_looksAt_1, w_p_looksAt_2, w_p_looksAt_5, w_p_looksAt_8, w_p_looksAt_9, w_p_looksAt_10, w_p_looksAt_13, w_p_looksAt_16, w_p_looksAt_17, w_p_looksAt_20, w_p_looksAt_21, w_p_looksAt_22, w_p_looksAt_23, w_p_looksAt_24, w_p_looksAt_25, w_p_looksAt_26, w_p_looksAt_29, w_p_looksAt_30, w_p_looksAt_33, w_p_looksAt_34, e_p_hasChild ho h, zpp ho, q, false_and, i10, Bool.false_eq_true, eq_self, true_or, or_true, if_true, if_false, gv_int, gv_ref, av_some, al_some, un_int, un_ref, un_mk, ok4_0, ok4_1, ok4_2, ok4_3, ok4_4, Kn_some, Kn_none, true_and, and_true]
  · cases r : inb d C
    · simp only [w_p_looksAt_0, w_p_looksAt_1, w_p_looksAt_2, w_p_looksAt_5, w_p_looksAt_8, w_p_looksAt_9, w_p_looksAt_10, w_p_looksAt_13, w_p_looksAt_16, w_p_looksAt_17, w_p_looksAt_20, w_p_looksAt_21, w_p_looksAt_22, w_p_looksAt_23, w_p_looksAt_24, w_p_looksAt_25, w_p_looksAt_26, w_p_looksAt_29, w_p_looksAt_30, w_p_looksAt_33, w_p_looksAt_34, e_p_hasChild ho h, zpp ho, q, r, false_and, i10, Bool.false_eq_true, eq_self, true_or, or_true, if_true, if_false, gv_int, gv_ref, av_some, al_some, un_int, un_ref, un_mk, ok4_0, ok4_1, ok4_2, ok4_3, ok4_4, Kn_some, Kn_none, true_and, and_true]
    · obtain ⟨i, i1, rfl⟩ := inb_of q (by omega)
      have g : vp_in (nI i) 4 := vp_in_nI (by omega) (by decide)
      cases s : bt (M (o + 4) i) d
      · simp only [w_p_looksAt_0, w_p_looksAt_1, w_p_looksAt_2, w_p_looksAt_5, w_p_looksAt_8, w_p_looksAt_9, w_p_looksAt_10, w_p_looksAt_13, w_p_looksAt_16, w_p_looksAt_17, w_p_looksAt_20, w_p_looksAt_21, w_p_looksAt_22, w_p_looksAt_23, w_p_looksAt_24, w_p_looksAt_25, w_p_looksAt_26, w_p_looksAt_29, w_p_looksAt_30, w_p_looksAt_33, w_p_looksAt_34, e_p_hasChild ho h, zpp ho, q, r, xpp_7 ho, ypp_4 ho, g, nI_clamp (show i < 2 ^ 31 by omega), bt0, s, i10, Bool.false_eq_true, eq_self, true_or, or_true, if_true, if_false, gv_int, gv_ref, av_some, al_some, un_int, un_ref, un_mk, ok4_0, ok4_1, ok4_2, ok4_3, ok4_4, Kn_some, Kn_none, true_and, and_true]
      · simp only [w_p_looksAt_0, w_p_looksAt_1, w_p_looksAt_2, w_p_looksAt_5, w_p_looksAt_8, w_p_looksAt_9, w_p_looksAt_10, w_p_looksAt_13, w_p_looksAt_16, w_p_looksAt_17, w_p_looksAt_20, w_p_looksAt_21, w_p_looksAt_22, w_p_looksAt_23, w_p_looksAt_24, w_p_looksAt_25, w_p_looksAt_26, w_p_looksAt_29, w_p_looksAt_30, w_p_looksAt_33, w_p_looksAt_34, e_p_hasChild ho h, zpp ho, q, r, xpp_7 ho, ypp_4 ho, g, nI_clamp (show i < 2 ^ 31 by omega), bt0, s, Bool.true_eq_false, i10, Bool.false_eq_true, eq_self, true_or, or_true, if_true, if_false, gv_int, gv_ref, av_some, al_some, un_int, un_ref, un_mk, ok4_0, ok4_1, ok4_2, ok4_3, ok4_4, Kn_some, Kn_none, true_and, and_true]
theorem e_p_isBanned {A B o i : Nat} {M : Mm} {Q : Po} {k : Int32} (ho : isPP o) (hi : i < 4) : WP 39 0 [.ref o, .int (nI i), .int k] [] (shw A B) (0, 0) M Q = if bt (M (o + 3) i) k then Q (some (.int 1)) (shw A B) M else Q (some (.int 0)) (shw A B) M := by
  have g : vp_in (nI i) 4 := vp_in_nI (by omega) (by decide)
  cases s : bt (M (o + 3) i) k
  · simp only [w_p_isBanned_0, w_p_isBanned_1, w_p_isBanned_4, w_p_isBanned_5, w_p_isBanned_6, w_p_isBanned_7, w_p_isBanned_8, w_p_isBanned_9, w_p_isBanned_10, w_p_isBanned_13, w_p_isBanned_14, w_p_isBanned_17, w_p_isBanned_18, xpp_6 ho, ypp_3 ho, g, nI_clamp (show i < 2 ^ 31 by omega), bt0, s, i10, Bool.false_eq_true, eq_self, true_or, or_true, if_true, if_false, gv_int, gv_ref, av_some, al_some, un_int, un_ref, un_mk, ok4_0, ok4_1, ok4_2, ok4_3, ok4_4, Kn_some, Kn_none, true_and, and_true]
  · simp only [w_p_isBanned_0, w_p_isBanned_1, w_p_isBanned_4, w_p_isBanned_5, w_p_isBanned_6, w_p_isBanned_7, w_p_isBanned_8, w_p_isBanned_9, w_p_isBanned_10, w_p_isBanned_13, w_p_isBanned_14, w_p_isBanned_17, w_p_isBanned_18, xpp_6 ho, ypp_3 ho, g, nI_clamp (show i < 2 ^ 31 by omega), bt0, s, Bool.true_eq_false, i10, Bool.false_eq_true, eq_self, true_or, or_true, if_true, if_false, gv_int, gv_ref, av_some, al_some, un_int, un_ref, un_mk, ok4_0, ok4_1, ok4_2, ok4_3, ok4_4, Kn_some, Kn_none, true_and, and_true]
theorem e_p_priceOf {A B o i k : Nat} {M : Mm} {Q : Po} (ho : isPP o) (hi : i < 4) (hk : k < 5) : WP 40 0 [.ref o, .int (nI i), .int (nI k)] [] (shw A B) (0, 0) M Q = Q (some (.int (M (o + 5) (i * 5 + k)))) (shw A B) M := by
  have g : vp_in (nI (i * 5 + k)) 20 := vp_in_nI (by omega) (by decide)
  have e5 : nI i * 5 + nI k = nI (i * 5 + k) := by rw [show (5 : Int32) = nI 5 from rfl, pk_mul, nI_add]
  simp only [w_p_priceOf_0, w_p_priceOf_1, w_p_priceOf_4, w_p_priceOf_5, w_p_priceOf_6, w_p_priceOf_7, w_p_priceOf_8, w_p_priceOf_9, w_p_priceOf_10, xpp_8 ho, ypp_5 ho, e5, g, nI_clamp (show i * 5 + k < 2 ^ 31 by omega), i10, Bool.false_eq_true, eq_self, true_or, or_true, if_true, if_false, gv_int, gv_ref, av_some, al_some, un_int, un_ref, un_mk, ok4_0, ok4_1, ok4_2, ok4_3, ok4_4, Kn_some, Kn_none, true_and, and_true]
theorem e_p_worthOfKind {A B o i k : Nat} {M : Mm} {Q : Po} (ho : isPP o) (hi : i < 4) (hk : k < 5) : WP 41 0 [.ref o, .int (nI i), .int (nI k)] [] (shw A B) (0, 0) M Q = Q (some (.int (M (o + 6) (i * 5 + k)))) (shw A B) M := by
  have g : vp_in (nI (i * 5 + k)) 20 := vp_in_nI (by omega) (by decide)
  have e5 : nI i * 5 + nI k = nI (i * 5 + k) := by rw [show (5 : Int32) = nI 5 from rfl, pk_mul, nI_add]
  simp only [w_p_worthOfKind_0, w_p_worthOfKind_1, w_p_worthOfKind_4, w_p_worthOfKind_5, w_p_worthOfKind_6, w_p_worthOfKind_7, w_p_worthOfKind_8, w_p_worthOfKind_9, w_p_worthOfKind_10, xpp_9 ho, ypp_6 ho, e5, g, nI_clamp (show i * 5 + k < 2 ^ 31 by omega), i10, Bool.false_eq_true, eq_self, true_or, or_true, if_true, if_false, gv_int, gv_ref, av_some, al_some, un_int, un_ref, un_mk, ok4_0, ok4_1, ok4_2, ok4_3, ok4_4, Kn_some, Kn_none, true_and, and_true]
theorem e_p_worthOfThing {A B o i t k : Nat} {M : Mm} {Q : Po} (ho : isPP o) (hi : i < 4) (ht : t < 7) (hk : k < 5) (hkt : M (o + 9) t = nI k) : WP 42 0 [.ref o, .int (nI i), .int (nI t)] [] (shw A B) (0, 0) M Q = Q (some (.int (M (o + 6) (i * 5 + k)))) (shw A B) M := by
  have g : vp_in (nI t) 7 := vp_in_nI ht (by decide)
  simp only [w_p_worthOfThing_0, w_p_worthOfThing_1, w_p_worthOfThing_2, w_p_worthOfThing_3, w_p_worthOfThing_6, w_p_worthOfThing_7, w_p_worthOfThing_8, w_p_worthOfThing_11, xpp_12 ho, ypp_9 ho, g, nI_clamp (show t < 2 ^ 31 by omega), hkt, e_p_worthOfKind ho hi hk, zpp ho, i10, Bool.false_eq_true, eq_self, true_or, or_true, if_true, if_false, gv_int, gv_ref, av_some, al_some, un_int, un_ref, un_mk, ok4_0, ok4_1, ok4_2, ok4_3, ok4_4, Kn_some, Kn_none, true_and, and_true]
theorem e_h_bagOf {A B o n : Nat} {M : Mm} {Q : Po} {c : Int32} (ho : isHH o) (hn : n ≤ 7) : WP 14 0 [.ref o, .int c, .int (nI n), mk, mk] [] (shw A B) (0, 0) M Q = Q (some (.int (bagE (M (o + 1)) n c))) (shw A B) M := by
  refine WP.is (fun Q hQ => ?_)
  simp only [w_h_bagOf_0, w_h_bagOf_1, w_h_bagOf_2, w_h_bagOf_3, w_h_bagOf_7, w_h_bagOf_8, w_h_bagOf_11, w_h_bagOf_13, w_h_bagOf_15, w_h_bagOf_18, w_h_bagOf_19, w_h_bagOf_22, w_h_bagOf_24, w_h_bagOf_25, w_h_bagOf_26, w_h_bagOf_29, w_h_bagOf_30, w_h_bagOf_31, w_h_bagOf_33, w_h_bagOf_34, w_h_bagOf_35, w_h_bagOf_36, w_h_bagOf_39, w_h_bagOf_42, w_h_bagOf_43, i10, Bool.false_eq_true, eq_self, true_or, or_true, if_true, if_false, gv_int, gv_ref, av_some, al_some, un_int, un_ref, un_mk, ok4_0, ok4_1, ok4_2, ok4_3, ok4_4, Kn_some, Kn_none, true_and, and_true]
  refine for_up (n := n) (P := fun k => WP 14 5 [.ref o, .int c, .int (nI n), .int (bagE (M (o + 1)) k c), .int (nI k)] [] (shw A B) (0, 0) M Q) ?_ ?_
  · rw [w_h_bagOf_5]
    simp only [w_h_bagOf_0, w_h_bagOf_1, w_h_bagOf_2, w_h_bagOf_3, w_h_bagOf_7, w_h_bagOf_8, w_h_bagOf_11, w_h_bagOf_13, w_h_bagOf_15, w_h_bagOf_18, w_h_bagOf_19, w_h_bagOf_22, w_h_bagOf_24, w_h_bagOf_25, w_h_bagOf_26, w_h_bagOf_29, w_h_bagOf_30, w_h_bagOf_31, w_h_bagOf_33, w_h_bagOf_34, w_h_bagOf_35, w_h_bagOf_36, w_h_bagOf_39, w_h_bagOf_42, w_h_bagOf_43, lt_irr, i10, Bool.false_eq_true, eq_self, true_or, or_true, if_true, if_false, gv_int, gv_ref, av_some, al_some, un_int, un_ref, un_mk, ok4_0, ok4_1, ok4_2, ok4_3, ok4_4, Kn_some, Kn_none, true_and, and_true]
    exact hQ
  · intro k hk ih
    have g1 : nI k < nI n := nI_lt hk (by omega)
    have g2 : nI k < 7 := nI_lt (b := 7) (by omega) (by decide)
    have g3 : vp_in (nI k) 7 := vp_in_nI (by omega) (by decide)
    have e : bagE (M (o + 1)) (k + 1) c = bagE (M (o + 1)) k c ||| (if M (o + 1) k = c then 1 <<< (nI k &&& 31) else 0) := rfl
    rw [e] at ih
    generalize bagE (M (o + 1)) k c = b0 at ih ⊢
    rw [w_h_bagOf_5]
    by_cases q : M (o + 1) k = c
    · rw [if_pos q] at ih
      simp only [w_h_bagOf_0, w_h_bagOf_1, w_h_bagOf_2, w_h_bagOf_3, w_h_bagOf_7, w_h_bagOf_8, w_h_bagOf_11, w_h_bagOf_13, w_h_bagOf_15, w_h_bagOf_18, w_h_bagOf_19, w_h_bagOf_22, w_h_bagOf_24, w_h_bagOf_25, w_h_bagOf_26, w_h_bagOf_29, w_h_bagOf_30, w_h_bagOf_31, w_h_bagOf_33, w_h_bagOf_34, w_h_bagOf_35, w_h_bagOf_36, w_h_bagOf_39, w_h_bagOf_42, w_h_bagOf_43, g1, g2, g3, xhh_0 ho, yhh_1 ho, nI_clamp (show k < 2 ^ 31 by omega), q, nI_1, i10, Bool.false_eq_true, eq_self, true_or, or_true, if_true, if_false, gv_int, gv_ref, av_some, al_some, un_int, un_ref, un_mk, ok4_0, ok4_1, ok4_2, ok4_3, ok4_4, Kn_some, Kn_none, true_and, and_true]
      exact ih
    · rw [if_neg q, Int32.or_zero] at ih
      simp only [w_h_bagOf_0, w_h_bagOf_1, w_h_bagOf_2, w_h_bagOf_3, w_h_bagOf_7, w_h_bagOf_8, w_h_bagOf_11, w_h_bagOf_13, w_h_bagOf_15, w_h_bagOf_18, w_h_bagOf_19, w_h_bagOf_22, w_h_bagOf_24, w_h_bagOf_25, w_h_bagOf_26, w_h_bagOf_29, w_h_bagOf_30, w_h_bagOf_31, w_h_bagOf_33, w_h_bagOf_34, w_h_bagOf_35, w_h_bagOf_36, w_h_bagOf_39, w_h_bagOf_42, w_h_bagOf_43, g1, g2, g3, xhh_0 ho, yhh_1 ho, nI_clamp (show k < 2 ^ 31 by omega), eq_false q, nI_1, i10, Bool.false_eq_true, eq_self, true_or, or_true, if_true, if_false, gv_int, gv_ref, av_some, al_some, un_int, un_ref, un_mk, ok4_0, ok4_1, ok4_2, ok4_3, ok4_4, Kn_some, Kn_none, true_and, and_true]
      exact ih
