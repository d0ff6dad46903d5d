/-! the component: a party's answers -/
def CP (M : Mm) (o K C N : Nat) : Prop := (M o 0 = nI K ∧ M o 1 = nI C ∧ M o 2 = nI N) ∧ K ≤ 5 ∧ C ≤ 4 ∧ N ≤ 7
theorem inb_i {k : Int32} {c : Nat} (hc : c < 2 ^ 31) : inb k c = decide (¬ k < 0 ∧ k < nI c) := by
  have h1 : (k < 0) ↔ k.toInt < 0 := Int32.lt_iff_toInt_lt
  have h2 : (k < nI c) ↔ k.toInt < (nI c).toInt := Int32.lt_iff_toInt_lt
  rw [nI_toInt hc] at h2
  unfold inb
  exact decide_eq_decide.mpr ⟨fun h => ⟨fun e => by have := h1.mp e; omega, h2.mpr h.2⟩, fun h => ⟨by have := mt h1.mpr h.1; omega, h2.mp h.2⟩⟩
theorem e_p_hasKind {A B o K C N : Nat} {M : Mm} {Q : Po} {k : Int32} (ho : isPP o) (h : CP M o K C N) : WP 34 0 [.ref o, .int k] [] (shw A B) (0, 0) M Q = if inb k K then Q (some (.int 1)) (shw A B) M else Q (some (.int 0)) (shw A B) M := by
  obtain ⟨⟨h1, h2, h3⟩, h4, h5, h6⟩ := h
  simp only [w_p_hasKind_0, w_p_hasKind_1, w_p_hasKind_4, w_p_hasKind_5, w_p_hasKind_6, w_p_hasKind_9, w_p_hasKind_12, w_p_hasKind_13, w_p_hasKind_16, w_p_hasKind_17, xpp_0 ho, h1, inb_i (k := k) (show K < 2 ^ 31 by omega), decide_eq_true_eq, i10, Bool.false_eq_true, eq_self, true_or, or_true, if_true, if_false, gv_int, gv_ref, av_some, al_some, un_int, un_ref, un_mk, ok4_0, ok4_1, ok4_2, ok4_3, ok4_4, Kn_some, Kn_none, true_and, and_true]
  by_cases q : k < 0 <;> by_cases r : k < nI K <;> simp [q, r]
theorem e_p_hasChild {A B o K C N : Nat} {M : Mm} {Q : Po} {k : Int32} (ho : isPP o) (h : CP M o K C N) : WP 35 0 [.ref o, .int k] [] (shw A B) (0, 0) M Q = if inb k C then Q (some (.int 1)) (shw A B) M else Q (some (.int 0)) (shw A B) M := by
  obtain ⟨⟨h1, h2, h3⟩, h4, h5, h6⟩ := h
  simp only [w_p_hasChild_0, w_p_hasChild_1, w_p_hasChild_4, w_p_hasChild_5, w_p_hasChild_6, w_p_hasChild_9, w_p_hasChild_12, w_p_hasChild_13, w_p_hasChild_16, w_p_hasChild_17, xpp_1 ho, h2, inb_i (k := k) (show C < 2 ^ 31 by omega), decide_eq_true_eq, i10, Bool.false_eq_true, eq_self, true_or, or_true, if_true, if_false, gv_int, gv_ref, av_some, al_some, un_int, un_ref, un_mk, ok4_0, ok4_1, ok4_2, ok4_3, ok4_4, Kn_some, Kn_none, true_and, and_true]
  by_cases q : k < 0 <;> by_cases r : k < nI C <;> simp [q, r]
theorem e_p_hasThing {A B o K C N : Nat} {M : Mm} {Q : Po} {k : Int32} (ho : isPP o) (h : CP M o K C N) : WP 36 0 [.ref o, .int k] [] (shw A B) (0, 0) M Q = if inb k N then Q (some (.int 1)) (shw A B) M else Q (some (.int 0)) (shw A B) M := by
  obtain ⟨⟨h1, h2, h3⟩, h4, h5, h6⟩ := h
  simp only [w_p_hasThing_0, w_p_hasThing_1, w_p_hasThing_4, w_p_hasThing_5, w_p_hasThing_6, w_p_hasThing_9, w_p_hasThing_12, w_p_hasThing_13, w_p_hasThing_16, w_p_hasThing_17, xpp_2 ho, h3, inb_i (k := k) (show N < 2 ^ 31 by omega), decide_eq_true_eq, i10, Bool.false_eq_true, eq_self, true_or, or_true, if_true, if_false, gv_int, gv_ref, av_some, al_some, un_int, un_ref, un_mk, ok4_0, ok4_1, ok4_2, ok4_3, ok4_4, Kn_some, Kn_none, true_and, and_true]
  by_cases q : k < 0 <;> by_cases r : k < nI N <;> simp [q, r]
theorem e_h_holderOf {A B o t : Nat} {M : Mm} {Q : Po} (ho : isHH o) (ht : t < 7) : WP 10 0 [.ref o, .int (nI t)] [] (shw A B) (0, 0) M Q = Q (some (.int (M (o + 1) t))) (shw A B) M := by
  have g : vp_in (nI t) 7 := vp_in_nI ht (by decide)
  simp only [w_h_holderOf_0, w_h_holderOf_1, w_h_holderOf_4, w_h_holderOf_5, w_h_holderOf_6, xhh_0 ho, yhh_1 ho, g, nI_clamp (show t < 2 ^ 31 by omega), i10, Bool.false_eq_true, eq_self, true_or, or_true, if_true, if_false, gv_int, gv_ref, av_some, al_some, un_int, un_ref, un_mk, ok4_0, ok4_1, ok4_2, ok4_3, ok4_4, Kn_some, Kn_none, true_and, and_true]
theorem e_h_canExchange {A B o t u : Nat} {M : Mm} {Q : Po} (ho : isHH o) (ht : t < 7) (hu : u < 7) : WP 12 0 [.ref o, .int (nI t), .int (nI u)] [] (shw A B) (0, 0) M Q = if ¬ M (o + 1) t = -1 ∧ ¬ M (o + 1) u = -1 ∧ ¬ M (o + 1) t = M (o + 1) u then Q (some (.int 1)) (shw A B) M else Q (some (.int 0)) (shw A B) M := by
  have g : vp_in (nI t) 7 := vp_in_nI ht (by decide)
  have g2 : vp_in (nI u) 7 := vp_in_nI hu (by decide)
  simp only [w_h_canExchange_0, w_h_canExchange_1, w_h_canExchange_4, w_h_canExchange_5, w_h_canExchange_6, w_h_canExchange_7, w_h_canExchange_10, w_h_canExchange_11, w_h_canExchange_14, w_h_canExchange_15, w_h_canExchange_16, w_h_canExchange_17, w_h_canExchange_20, w_h_canExchange_21, w_h_canExchange_24, w_h_canExchange_25, w_h_canExchange_26, w_h_canExchange_27, w_h_canExchange_30, w_h_canExchange_31, w_h_canExchange_32, w_h_canExchange_35, w_h_canExchange_36, w_h_canExchange_39, w_h_canExchange_40, xhh_0 ho, yhh_1 ho, g, g2, nI_clamp (show t < 2 ^ 31 by omega), nI_clamp (show u < 2 ^ 31 by omega), i10, Bool.false_eq_true, eq_self, true_or, or_true, if_true, if_false, gv_int, gv_ref, av_some, al_some, un_int, un_ref, un_mk, ok4_0, ok4_1, ok4_2, ok4_3, ok4_4, Kn_some, Kn_none, true_and, and_true]
  by_cases q : M (o + 1) t = -1 <;> by_cases r : M (o + 1) u = -1 <;> by_cases s : M (o + 1) t = M (o + 1) u <;> simp [q, r, s]
