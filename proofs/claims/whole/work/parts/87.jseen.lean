/-! both see alike -/
theorem bS_or1 (b : Nat → Bool) {k0 : Nat} (h : k0 < 16) : bS b 16 ||| 1 <<< (nI k0 &&& 31) = bS (fun k => b k || decide (k = k0)) 16 := by
  apply gb_ext
  intro i hi
  rw [gb_or, gb_bS b hi 16 (by decide), gb_b1 k0 (by omega) i hi, gb_bS _ hi 16 (by decide)]
  by_cases q : i = k0
  · subst q; simp [h]
  · simp [q]
theorem seB_s (so sa si : Nat → Int32) (v : Int32) (s k : Nat) : seB so sa si v (s + 1) k = (seB so sa si v s k || (decide (si s = v) && decide (so s = nI (k / 4) ∧ sa s = nI (k % 4)))) := rfl
theorem seB_congr {so sa si so' sa' si' : Nat → Int32} {v : Int32} {k : Nat} : ∀ s, (∀ q, q < s → so q = so' q ∧ sa q = sa' q ∧ si q = si' q) → seB so sa si v s k = seB so' sa' si' v s k
  | 0, _ => rfl
  | s + 1, h => by
    have e := h s (by omega)
    rw [seB_s, seB_s, seB_congr s (fun q hq => h q (by omega)), e.1, e.2.1, e.2.2]
theorem seB_iff {so sa si : Nat → Int32} {v : Int32} {k : Nat} : ∀ s, seB so sa si v s k = true ↔ ∃ q, q < s ∧ si q = v ∧ so q = nI (k / 4) ∧ sa q = nI (k % 4)
  | 0 => ⟨fun h => (by have h2 : seB so sa si v 0 k = false := rfl; rw [h2] at h; cases h), fun h => by obtain ⟨q, hq, -⟩ := h; exact absurd hq (Nat.not_lt_zero _)⟩
  | s + 1 => by
    rw [seB_s, Bool.or_eq_true, seB_iff s]
    simp only [Bool.and_eq_true, decide_eq_true_eq]
    constructor
    · rintro (⟨q, a, b⟩ | h)
      · exact ⟨q, by omega, b⟩
      · exact ⟨s, by omega, h⟩
    · rintro ⟨q, a, b⟩
      by_cases e : q = s
      · subst e; exact Or.inr b
      · exact Or.inl ⟨q, by omega, b⟩
theorem asE_iff {E : Nat → Nat → Int32} {so sa si : Nat → Int32} : ∀ s, asE E so sa si s = true ↔ ∀ q, q < s → okK E so sa si q = true
  | 0 => ⟨fun _ q hq => absurd hq (Nat.not_lt_zero _), fun _ => rfl⟩
  | s + 1 => by
    rw [asE_s, Bool.and_eq_true, asE_iff s]
    constructor
    · rintro ⟨a, b⟩ q hq
      by_cases e : q = s
      · subst e; exact b
      · exact a q (by omega)
    · intro h
      exact ⟨fun q hq => h q (by omega), h s (by omega)⟩
theorem enB_iff {E : Nat → Nat → Int32} {C k : Nat} : enB E C k = true ↔ k / 4 < C ∧ k % 4 < C ∧ 0 < E (k / 4) (k % 4) := by
  unfold enB
  simp only [Bool.and_eq_true, decide_eq_true_eq]
theorem and_sub (a b : Nat → Bool) : bS a 16 &&& bS b 16 = bS b 16 ↔ ∀ k, k < 16 → b k = true → a k = true := by
  constructor
  · intro h k hk hb
    have e : gb (bS a 16 &&& bS b 16) k = gb (bS b 16) k := by rw [h]
    rw [gb_and, gb_bS a (by omega) 16 (by decide), gb_bS b (by omega) 16 (by decide), decide_eq_true hk, hb] at e
    simpa using e
  · intro h
    apply gb_ext
    intro i hi
    rw [gb_and, gb_bS a hi 16 (by decide), gb_bS b hi 16 (by decide)]
    by_cases q : i < 16
    · rw [decide_eq_true q]
      cases r : b i
      · simp
      · rw [h i q r]; rfl
    · rw [decide_eq_false q]; rfl
theorem and_no (a b : Nat → Bool) : bS a 16 &&& bS b 16 = 0 ↔ ∀ k, k < 16 → b k = true → a k = false := by
  constructor
  · intro h k hk hb
    have e : gb (bS a 16 &&& bS b 16) k = gb 0 k := by rw [h]
    rw [gb_and, gb_bS a (by omega) 16 (by decide), gb_bS b (by omega) 16 (by decide), decide_eq_true hk, hb, gb_0] at e
    simpa using e
  · intro h
    apply gb_ext
    intro i hi
    rw [gb_and, gb_bS a hi 16 (by decide), gb_bS b hi 16 (by decide), gb_0]
    by_cases q : i < 16
    · rw [decide_eq_true q]
      cases r : b i
      · simp
      · rw [h i q r]; rfl
    · rw [decide_eq_false q]; rfl
theorem fit_iff {so sa si : Nat → Int32} {s C : Nat} (hC : C ≤ 4) (hs : ∀ q, q < s → (∃ i, i < C ∧ so q = nI i) ∧ (∃ j, j < C ∧ sa q = nI j) ∧ (si q = 0 ∨ si q = 1)) (E : Nat → Nat → Int32) : (bS (enB E C) 16 &&& bS (seB so sa si 1 s) 16 = bS (seB so sa si 1 s) 16 ∧ bS (enB E C) 16 &&& bS (seB so sa si 0 s) 16 = 0) ↔ asE E so sa si s = true := by
  rw [and_sub, and_no, asE_iff]
  constructor
  · rintro ⟨h1, h0⟩ q hq
    obtain ⟨⟨i, i1, i2⟩, ⟨j, j1, j2⟩, hsi⟩ := hs q hq
    have e1 : (4 * i + j) / 4 = i := by omega
    have e2 : (4 * i + j) % 4 = j := by omega
    unfold okK
    rw [i2, j2, nI_clamp (show i < 2 ^ 31 by omega), nI_clamp (show j < 2 ^ 31 by omega)]
    rcases hsi with z | z
    · have := h0 (4 * i + j) (by omega) ((seB_iff s).mpr ⟨q, hq, z, by rw [e1]; exact i2, by rw [e2]; exact j2⟩)
      have hn : ¬ 0 < E i j := fun hp => by
        have t := enB_iff.mpr (show (4 * i + j) / 4 < C ∧ (4 * i + j) % 4 < C ∧ 0 < E ((4 * i + j) / 4) ((4 * i + j) % 4) by rw [e1, e2]; exact ⟨i1, j1, hp⟩)
        rw [this] at t; cases t
      rw [if_neg hn, z]; rfl
    · have := h1 (4 * i + j) (by omega) ((seB_iff s).mpr ⟨q, hq, z, by rw [e1]; exact i2, by rw [e2]; exact j2⟩)
      have t := (enB_iff.mp this).2.2
      rw [e1, e2] at t
      rw [if_pos t, z]; rfl
  · intro h
    refine ⟨fun k hk hb => ?_, fun k hk hb => ?_⟩
    · obtain ⟨q, q1, q2, q3, q4⟩ := (seB_iff s).mp hb
      obtain ⟨⟨i, i1, i2⟩, ⟨j, j1, j2⟩, -⟩ := hs q q1
      have ei : k / 4 = i := nI_iq (by omega) (by omega) (q3.symm.trans i2)
      have ej : k % 4 = j := nI_iq (by omega) (by omega) (q4.symm.trans j2)
      have o := h q q1
      unfold okK at o
      rw [i2, j2, nI_clamp (show i < 2 ^ 31 by omega), nI_clamp (show j < 2 ^ 31 by omega), q2] at o
      have o := of_decide_eq_true o
      rw [enB_iff, ei, ej]
      refine ⟨i1, j1, ?_⟩
      by_cases z : 0 < E i j
      · exact z
      · rw [if_neg z] at o; exact absurd o (by decide)
    · obtain ⟨q, q1, q2, q3, q4⟩ := (seB_iff s).mp hb
      obtain ⟨⟨i, i1, i2⟩, ⟨j, j1, j2⟩, -⟩ := hs q q1
      have ei : k / 4 = i := nI_iq (by omega) (by omega) (q3.symm.trans i2)
      have ej : k % 4 = j := nI_iq (by omega) (by omega) (q4.symm.trans j2)
      have o := h q q1
      unfold okK at o
      rw [i2, j2, nI_clamp (show i < 2 ^ 31 by omega), nI_clamp (show j < 2 ^ 31 by omega), q2] at o
      have o := of_decide_eq_true o
      cases t : enB E C k with
      | false => rfl
      | true =>
        exfalso
        have t := (enB_iff.mp t).2.2
        rw [ei, ej] at t
        rw [if_pos t] at o; exact absurd o (by decide)
theorem e_g_forget {A B : Nat} {M : Mm} {Q : Po} : WP 2 0 [.ref 29] [] (shw A B) (0, 0) M Q = Q none (shw A B) (up M 29 4 0) := by
  simp only [w_g_forget_0, w_g_forget_1, w_g_forget_2, w_g_forget_5, xg_4, i10, Bool.false_eq_true, eq_self, true_or, or_true, if_true, if_false, gv_int, gv_ref, av_some, al_some, un_int, un_ref, un_mk, ok4_0, ok4_1, ok4_2, ok4_3, ok4_4, Kn_some, Kn_none, true_and, and_true]
theorem e_g_fitting {A B : Nat} {M : Mm} {Q : Po} : WP 5 0 [.ref 29] [] (shw A B) (0, 0) M Q = Q (some (.int (M 29 3))) (shw A B) M := by
  simp only [w_g_fitting_0, w_g_fitting_1, w_g_fitting_4, xg_3, i10, Bool.false_eq_true, eq_self, true_or, or_true, if_true, if_false, gv_int, gv_ref, av_some, al_some, un_int, un_ref, un_mk, ok4_0, ok4_1, ok4_2, ok4_3, ok4_4, Kn_some, Kn_none, true_and, and_true]
theorem e_g_sureHolderOf {A B t : Nat} {M : Mm} {Q : Po} (ht : t < 7) : WP 6 0 [.ref 29, .int (nI t)] [] (shw A B) (0, 0) M Q = Q (some (.int (M 36 t))) (shw A B) M := by
  simp only [w_g_sureHolderOf_0, w_g_sureHolderOf_1, w_g_sureHolderOf_4, w_g_sureHolderOf_5, w_g_sureHolderOf_8, xg_1, e_h_holderOf isHH_35 ht, cl_35, i10, Bool.false_eq_true, eq_self, true_or, or_true, if_true, if_false, gv_int, gv_ref, av_some, al_some, un_int, un_ref, un_mk, ok4_0, ok4_1, ok4_2, ok4_3, ok4_4, Kn_some, Kn_none, true_and, and_true]
/-- a sight more -/
theorem JN_add {x1 x2 : Int32} {so sa si : Nat → Int32} {s C i j : Nat} {e : Int32} (hC : C ≤ 4) (he : e = 0 ∨ e = 1) (h6 : s < 6) (hs : ∀ q, q < s → (∃ i, i < C ∧ so q = nI i) ∧ (∃ j, j < C ∧ sa q = nI j) ∧ (si q = 0 ∨ si q = 1)) (h1 : x1 = bS (seB so sa si 1 s) 16) (h2 : x2 = bS (seB so sa si 0 s) 16) (hi : i < C) (hj : j < C) : JN (nI (s + 1)) (if e = 0 then x1 else x1 ||| ptB i j) (if e = 0 then x2 ||| ptB i j else x2) (nI (s + 1)) (upd so s (nI i)) (upd sa s (nI j)) (upd si s e) C := by
  have old : ∀ q, q < s → upd so s (nI i) q = so q ∧ upd sa s (nI j) q = sa q ∧ upd si s e q = si q := by
    intro q hq
    simp only [upd_at]
    rw [if_neg (by omega), if_neg (by omega), if_neg (by omega)]
    exact ⟨rfl, rfl, rfl⟩
  have new : upd so s (nI i) s = nI i ∧ upd sa s (nI j) s = nI j ∧ upd si s e s = e := by
    simp only [upd_at, if_true]
    exact ⟨trivial, trivial, trivial⟩
  have hb : ∀ v k, k < 16 → seB (upd so s (nI i)) (upd sa s (nI j)) (upd si s e) v (s + 1) k = (seB so sa si v s k || (decide (e = v) && decide (k = 4 * i + j))) := by
    intro v k hk
    rw [seB_s, seB_congr s old, new.1, new.2.1, new.2.2]
    congr 2
    rw [decide_eq_decide]
    constructor
    · rintro ⟨a, b⟩
      have := nI_iq (by omega) (by omega) a
      have := nI_iq (by omega) (by omega) b
      omega
    · intro z
      rw [show k / 4 = i by omega, show k % 4 = j by omega]
      exact ⟨rfl, rfl⟩
  have hp : ptB i j = 1 <<< (nI (4 * i + j) &&& 31) := by unfold ptB; rw [Nat.mul_comm]
  refine ⟨s + 1, by omega, rfl, rfl, ?_, ?_, ?_⟩
  · intro q hq
    by_cases z : q = s
    · subst z
      rw [new.1, new.2.1, new.2.2]
      exact ⟨⟨i, hi, rfl⟩, ⟨j, hj, rfl⟩, he⟩
    · have o := old q (by omega)
      rw [o.1, o.2.1, o.2.2]
      exact hs q (by omega)
  · rcases he with rfl | rfl
    · rw [if_pos rfl, h1]
      refine bS_congr (fun k hk => ?_)
      rw [hb 1 k hk]; simp
    · rw [if_neg (by decide), h1, hp, bS_or1 _ (by omega)]
      refine bS_congr (fun k hk => ?_)
      rw [hb 1 k hk]; simp
  · rcases he with rfl | rfl
    · rw [if_pos rfl, h2, hp, bS_or1 _ (by omega)]
      refine bS_congr (fun k hk => ?_)
      rw [hb 0 k hk]; simp
    · rw [if_neg (by decide), h2]
      refine bS_congr (fun k hk => ?_)
      rw [hb 0 k hk]; simp
theorem j_see {A B : Nat} {M : Mm} {x y e : Int32} (hj : JJ M A B) (he : e = 0 ∨ e = 1) : WP 130 0 [.ref 0, .int x, .int y, .int e] [] (shw A B) (0, 0) M (JQ 208 [.ref 58, .int x, .int y, .int e]) := by
  obtain ⟨K, C, N, h⟩ := id hj
  obtain ⟨h0, h1, h2, h3, h4, h5, h6, h7, h8, h9, h10⟩ := id h
  have hp := h0.pp
  obtain ⟨c1, c2, c3, c4, c5, c6, c7, c8⟩ := id h1
  obtain ⟨d1, d2, d3, d4⟩ := id h2
  obtain ⟨⟨m1, m2, m3⟩, m4, m5, m6⟩ := id c2.1
  have hv : HV (M 4) C := by rw [d1]; exact d2
  obtain ⟨s, s1, s2, s3, s4, s5, s6⟩ := id h6
  by_cases q : inb x C = true ∧ inb y C = true ∧ ¬ x = y
  · obtain ⟨i, i1, rfl⟩ := inb_of q.1 (by omega)
    obtain ⟨j, j1, rfl⟩ := inb_of q.2.1 (by omega)
    cases hb : bt (M 63 i) (nI j)
    · simp only [w_c_see_0, w_c_see_1, w_c_see_4, w_c_see_5, w_c_see_6, w_c_see_9, w_c_see_12, w_c_see_14, w_c_see_15, w_c_see_16, w_c_see_19, w_c_see_20, w_c_see_21, w_c_see_24, w_c_see_27, w_c_see_29, w_c_see_30, w_c_see_31, w_c_see_34, w_c_see_37, w_c_see_39, w_c_see_42, w_c_see_44, w_c_see_45, w_c_see_46, w_c_see_49, w_c_see_50, w_c_see_51, w_c_see_52, w_c_see_55, w_c_see_56, w_c_see_59, w_c_see_62, w_c_see_63, w_c_see_66, w_c_see_69, xc_8, xc_4, cl_12, xc_7, cl_29, e_p_hasPair hp c2.1, e_p_looksAt hp c2.1, q.1, q.2.1, eq_false q.2.2, not_false_eq_true, nI_clamp (show i < 2 ^ 31 by omega), c2.2.2.2.1 i i1, hb, cl_0, cl_1, cl_3, cl_5, cl_7, cl_12, cl_15, cl_21, cl_29, zpp hp, i10, Bool.false_eq_true, eq_self, true_or, or_true, if_true, if_false, gv_int, gv_ref, av_some, al_some, un_int, un_ref, un_mk, ok4_0, ok4_1, ok4_2, ok4_3, ok4_4, Kn_some, Kn_none, true_and, and_true]
      refine JQ.mk ?_
      refine Eq.mpr (e_m_see c1 s3 s1 he) (ite_t q (ite_f ?_ ⟨rfl, rfl, hj⟩))
      rw [nI_clamp (show i < 2 ^ 31 by omega)]
      show ¬ bt (M 63 i) (nI j) = true
      rw [hb]; decide
    · by_cases q6 : s = 6
      · simp only [w_c_see_0, w_c_see_1, w_c_see_4, w_c_see_5, w_c_see_6, w_c_see_9, w_c_see_12, w_c_see_14, w_c_see_15, w_c_see_16, w_c_see_19, w_c_see_20, w_c_see_21, w_c_see_24, w_c_see_27, w_c_see_29, w_c_see_30, w_c_see_31, w_c_see_34, w_c_see_37, w_c_see_39, w_c_see_42, w_c_see_44, w_c_see_45, w_c_see_46, w_c_see_49, w_c_see_50, w_c_see_51, w_c_see_52, w_c_see_55, w_c_see_56, w_c_see_59, w_c_see_62, w_c_see_63, w_c_see_66, w_c_see_69, xc_8, xc_4, cl_12, xc_7, cl_29, e_p_hasPair hp c2.1, e_p_looksAt hp c2.1, q.1, q.2.1, eq_false q.2.2, not_false_eq_true, nI_clamp (show i < 2 ^ 31 by omega), c2.2.2.2.1 i i1, hb, cl_0, cl_1, cl_3, cl_5, cl_7, cl_12, cl_15, cl_21, cl_29, zpp hp, e_n_sights, s2, q6, show (nI 6 < 6) = False by decide, i10, Bool.false_eq_true, eq_self, true_or, or_true, if_true, if_false, gv_int, gv_ref, av_some, al_some, un_int, un_ref, un_mk, ok4_0, ok4_1, ok4_2, ok4_3, ok4_4, Kn_some, Kn_none, true_and, and_true]
        refine JQ.mk ?_
        refine Eq.mpr (e_m_see c1 s3 s1 he) (ite_t q (ite_t ?_ (ite_t q6 ⟨rfl, rfl, hj⟩)))
        rw [nI_clamp (show i < 2 ^ 31 by omega)]
        exact hb
      · have g6 : nI s < 6 := nI_lt (b := 6) (by omega) (by decide)
        simp only [w_c_see_0, w_c_see_1, w_c_see_4, w_c_see_5, w_c_see_6, w_c_see_9, w_c_see_12, w_c_see_14, w_c_see_15, w_c_see_16, w_c_see_19, w_c_see_20, w_c_see_21, w_c_see_24, w_c_see_27, w_c_see_29, w_c_see_30, w_c_see_31, w_c_see_34, w_c_see_37, w_c_see_39, w_c_see_42, w_c_see_44, w_c_see_45, w_c_see_46, w_c_see_49, w_c_see_50, w_c_see_51, w_c_see_52, w_c_see_55, w_c_see_56, w_c_see_59, w_c_see_62, w_c_see_63, w_c_see_66, w_c_see_69, xc_8, xc_4, cl_12, xc_7, cl_29, e_p_hasPair hp c2.1, e_p_looksAt hp c2.1, q.1, q.2.1, eq_false q.2.2, not_false_eq_true, nI_clamp (show i < 2 ^ 31 by omega), c2.2.2.2.1 i i1, hb, cl_0, cl_1, cl_3, cl_5, cl_7, cl_12, cl_15, cl_21, cl_29, zpp hp, e_n_sights, s2, g6, e_n_addSight, e_g_forget, nI_1, show ∀ X x, up (up X 12 0 x) 29 4 0 12 0 = x from fun _ _ => rfl, i10, Bool.false_eq_true, eq_self, true_or, or_true, if_true, if_false, gv_int, gv_ref, av_some, al_some, un_int, un_ref, un_mk, ok4_0, ok4_1, ok4_2, ok4_3, ok4_4, Kn_some, Kn_none, true_and, and_true]
        refine JQ.mk ?_
        have fin : ∀ Y : Mm, Y = (if e = 0 then up M 12 2 (M 12 2 ||| ptB i j) else up M 12 1 (M 12 1 ||| ptB i j)) → (Y 12 1 = (if e = 0 then M 12 1 else M 12 1 ||| ptB i j) ∧ Y 12 2 = (if e = 0 then M 12 2 ||| ptB i j else M 12 2) ∧ Y 12 5 = M 12 5) ∧ ∀ c, ¬ c = 12 → Y c = M c := by
          intro Y hY
          subst hY
          by_cases z : e = 0
          · simp only [z, if_true]
            exact ⟨⟨rfl, rfl, rfl⟩, fun c hc => if_neg hc⟩
          · simp only [z, if_false]
            exact ⟨⟨rfl, rfl, rfl⟩, fun c hc => if_neg hc⟩
        generalize hY : (if e = 0 then up M 12 2 (M 12 2 ||| ptB i j) else up M 12 1 (M 12 1 ||| ptB i j)) = Y
        obtain ⟨⟨y1, y2, y5⟩, yc⟩ := fin Y hY.symm
        have hm58 : Y 58 = M 58 := yc 58 (by decide)
        have m0 : MD (up (up Y 12 0 (nI (s + 1))) 29 4 0) K C N := by
          show MD Y K C N
          unfold MD
          rw [hm58, yc 64 (by decide)]
          exact c1
        refine Eq.mpr (e_m_see (s := s) m0 (show Y 58 30 = nI s by rw [hm58]; exact s3) s1 he) (ite_t q (ite_t ?_ (ite_f q6 ?_)))
        · rw [nI_clamp (show i < 2 ^ 31 by omega)]
          show bt (Y 63 i) (nI j) = true
          rw [yc 63 (by decide)]
          exact hb
        · refine ⟨rfl, rfl, K, C, N, h0, h1.fr h0 ?_ ⟨?_, ?_, ?_⟩ ⟨yc 59 (by decide), yc 60 (by decide), yc 61 (by decide), yc 62 (by decide), yc 63 (by decide), yc 64 (by decide)⟩, ?_, ?_, ?_, ?_, ?_, ?_, ?_, ?_, Or.inl rfl⟩
          · intro c k1 k2
            simp only [up_c]
            repeat rw [if_neg (by omega)]
            exact yc c (by omega)
          · show Y 58 0 = M 58 0; rw [hm58]
          · show Y 58 3 = M 58 3; rw [hm58]
          · show Y 58 7 = M 58 7; rw [hm58]
          · show JH (Y 4) (Y 17) (Y 65) C
            rw [yc 4 (by decide), yc 17 (by decide), yc 65 (by decide)]; exact h2
          · show JT (Y 1 1) (Y 1 5) (Y 2) (Y 58 12) (Y 58 13) (Y 66)
            rw [yc 1 (by decide), yc 2 (by decide), hm58, yc 66 (by decide)]; exact h3
          · show JZ (Y 7 4) (Y 8) (Y 58 26) (Y 73) C
            rw [yc 7 (by decide), yc 8 (by decide), hm58, yc 73 (by decide)]; exact h4
          · show JI (Y 9) (Y 10) (Y 11) (Y 83) (Y 84) C
            rw [yc 9 (by decide), yc 10 (by decide), yc 11 (by decide), yc 83 (by decide), yc 84 (by decide)]; exact h5
          · show JN (nI (s + 1)) (Y 12 1) (Y 12 2) (nI (s + 1)) (upd (Y 76) s (nI i)) (upd (Y 77) s (nI j)) (upd (Y 78) s e) C
            rw [y1, y2, yc 76 (by decide), yc 77 (by decide), yc 78 (by decide)]
            exact JN_add m5 he (by omega) s4 s5 s6 i1 j1
          · show JB (Y 12 5) (Y 58 37) (Y 13) (Y 14) (Y 81) (Y 82)
            rw [y5, hm58, yc 13 (by decide), yc 14 (by decide), yc 81 (by decide), yc 82 (by decide)]; exact h7
          · show JC (Y 0 10) (Y 58 10)
            rw [yc 0 (by decide), hm58]; exact h8
          · have eW : wT Y = wT M := by
              have ek : kN Y = kN M := by unfold kN; rw [yc 64 (by decide)]
              have ew : wN Y = wN M := by unfold wN; rw [yc 61 (by decide), yc 62 (by decide)]
              unfold wT
              rw [ew, ek]
            show JS Y C N
            unfold JS SHK at h9 ⊢
            rw [eW, yc 21 (by decide), yc 28 (by decide), yc 63 (by decide)]
            exact h9
  · simp only [w_c_see_0, w_c_see_1, w_c_see_4, w_c_see_5, w_c_see_6, w_c_see_9, w_c_see_12, w_c_see_14, w_c_see_15, w_c_see_16, w_c_see_19, w_c_see_20, w_c_see_21, w_c_see_24, w_c_see_27, w_c_see_29, w_c_see_30, w_c_see_31, w_c_see_34, w_c_see_37, w_c_see_39, w_c_see_42, w_c_see_44, w_c_see_45, w_c_see_46, w_c_see_49, w_c_see_50, w_c_see_51, w_c_see_52, w_c_see_55, w_c_see_56, w_c_see_59, w_c_see_62, w_c_see_63, w_c_see_66, w_c_see_69, xc_8, xc_4, cl_12, xc_7, cl_29, e_p_hasPair hp c2.1, eq_false q, cl_0, cl_1, cl_3, cl_5, cl_7, cl_12, cl_15, cl_21, cl_29, zpp hp, i10, Bool.false_eq_true, eq_self, true_or, or_true, if_true, if_false, gv_int, gv_ref, av_some, al_some, un_int, un_ref, un_mk, ok4_0, ok4_1, ok4_2, ok4_3, ok4_4, Kn_some, Kn_none, true_and, and_true]
    refine JQ.mk ?_
    refine Eq.mpr (e_m_see c1 s3 s1 he) (ite_f q ⟨rfl, rfl, hj⟩)
theorem j_tear {A B : Nat} {M : Mm} (hj : JJ M A B) : WP 134 0 [.ref 0, mk] [] (shw A B) (0, 0) M (JQ 215 [.ref 58, mk]) := by
  obtain ⟨K, C, N, h⟩ := id hj
  obtain ⟨h0, h1, h2, h3, h4, h5, h6, h7, h8, h9, h10⟩ := id h
  have hp := h0.pp
  obtain ⟨c1, c2, c3, c4, c5, c6, c7, c8⟩ := id h1
  obtain ⟨d1, d2, d3, d4⟩ := id h2
  obtain ⟨⟨m1, m2, m3⟩, m4, m5, m6⟩ := id c2.1
  have hv : HV (M 4) C := by rw [d1]; exact d2
  obtain ⟨s, s1, s2, s3, s4, s5, s6⟩ := id h6
  obtain ⟨b, b1, b2, b3, b4⟩ := id h7
  simp only [w_c_tear_0, w_c_tear_1, w_c_tear_4, w_c_tear_7, w_c_tear_8, w_c_tear_11, w_c_tear_14, w_c_tear_15, w_c_tear_16, w_c_tear_17, w_c_tear_20, w_c_tear_23, w_c_tear_24, w_c_tear_27, w_c_tear_30, w_c_tear_31, xc_4, cl_12, xc_7, cl_29, e_n_sights, e_n_entries, e_n_clear, e_g_forget, s2, b2, cl_0, cl_1, cl_3, cl_5, cl_7, cl_12, cl_15, cl_21, cl_29, zpp hp, i10, Bool.false_eq_true, eq_self, true_or, or_true, if_true, if_false, gv_int, gv_ref, av_some, al_some, un_int, un_ref, un_mk, ok4_0, ok4_1, ok4_2, ok4_3, ok4_4, Kn_some, Kn_none, true_and, and_true]
  refine JQ.mk ?_
  refine Eq.mpr e_m_tear ?_
  refine ⟨?_, rfl, K, C, N, h0, h1.fr h0 ?_ ⟨rfl, rfl, rfl⟩ ⟨rfl, rfl, rfl, rfl, rfl, rfl⟩, h2, h3, h4, h5, ⟨0, by omega, rfl, rfl, fun q hq => absurd hq (Nat.not_lt_zero _), ?_, ?_⟩, ⟨0, by omega, rfl, rfl, fun q hq => absurd hq (Nat.not_lt_zero _)⟩, h8, h9, Or.inl rfl⟩
  · show some (Value.int (M 58 30 + M 58 37)) = _
    rw [s3, b3]
  · intro c c1 c2
    simp only [up_c]
    repeat rw [if_neg (by omega)]
  · show (0 : Int32) = bS (fun _ => false) 16
    decide
  · show (0 : Int32) = bS (fun _ => false) 16
    decide
/-- the count of ways hangs not on who has what now -/
theorem fw_rel {W : Nat → Nat → Int32} {lk h h' so sa si e0 e0' s0 s0' : Nat → Int32} {sn n c : Nat} (he : ∀ k, k < 16 → e0 k = e0' k) : ∀ m, (fwE W lk h so sa si sn n c e0 s0 m).1 = (fwE W lk h' so sa si sn n c e0' s0' m).1 ∧ (∀ k, k < 16 → (fwE W lk h so sa si sn n c e0 s0 m).2.1 k = (fwE W lk h' so sa si sn n c e0' s0' m).2.1 k) ∧ (¬ (fwE W lk h so sa si sn n c e0 s0 m).1 = 0 → ∀ t, t < n → (fwE W lk h so sa si sn n c e0 s0 m).2.2 t = (fwE W lk h' so sa si sn n c e0' s0' m).2.2 t)
  | 0 => ⟨rfl, he, fun z => absurd rfl z⟩
  | m + 1 => by
    obtain ⟨a1, a2, a3⟩ := fw_rel (W := W) (lk := lk) (h := h) (h' := h') (so := so) (sa := sa) (si := si) (s0 := s0) (s0' := s0') (sn := sn) (n := n) (c := c) he m
    have hg : ∀ t, t < n → gvF h c n m t = gvF h' c n m t := fun t ht => by rw [gvF_in ht, gvF_in ht]
    have eE : ev W lk (gvF h c n m) n = ev W lk (gvF h' c n m) n := ev_congr hg
    rw [fwE_s, fwE_s]
    generalize fwE W lk h so sa si sn n c e0 s0 m = p at a1 a2 a3 ⊢
    generalize fwE W lk h' so sa si sn n c e0' s0' m = p' at a1 a2 a3 ⊢
    unfold fwS
    rw [eE]
    cases asE (ev W lk (gvF h' c n m) n) so sa si sn
    · exact ⟨a1, a2, a3⟩
    · simp only [if_true]
      refine ⟨by rw [a1], fun k hk => ?_, fun _ t ht => ?_⟩
      · unfold envF
        rw [if_pos hk, if_pos hk, a2 k hk]
      · unfold surF
        rw [if_pos ht, if_pos ht, a1, hg t ht]
        by_cases z : p.1 = 0
        · rw [a1] at z
          simp [z]
        · rw [a3 z t ht]
theorem wtE_0 (lk env : Nat → Int32) (f : Int32) (c : Nat) : wtE lk env f c 0 = (-1, f) := rfl
theorem wtS_congr {lk env env' : Nat → Int32} {f : Int32} {c k : Nat} {s : Int32 × Int32} (h : env k = env' k) : wtS lk env f c k s = wtS lk env' f c k s := by
  unfold wtS
  rw [h]
theorem wtE_congr {lk env env' : Nat → Int32} {f : Int32} {c : Nat} (h : ∀ k, k < 16 → env k = env' k) (k : Nat) (hk : k ≤ 16) : wtE lk env f c k = wtE lk env' f c k := by
  induction k with
  | zero => rw [wtE_0, wtE_0]
  | succ k ih => rw [wtE_s, wtE_s, ih (by omega), wtS_congr (h k (by omega))]
theorem FX_n (M : Mm) (sn n c : Nat) : FX M (FWn M sn n c) := by
  refine ⟨fun a ha => ?_, fun j hj => ?_, fun j hj => rfl⟩
  · show FWm (SV M) _ _ _ (M 65) a = M a
    unfold FWm
    by_cases q : a = 65
    · rw [if_pos q, q]
    · rw [if_neg q, if_neg (by omega), if_neg (by omega), if_neg (by omega)]
      exact if_neg (by omega)
  · show upd (SV M 58) 34 _ j = M 58 j
    rw [upd_at, if_neg hj]; rfl
theorem JX.fwn {M : Mm} {A B K C N : Nat} (h : JX M A B K C N) (sn : Nat) : JX (FWn M sn N C) A B K C N :=
  h.fx (FX_n M sn N C) (h.2.2.2.2.2.2.2.2.2.1.fx (FX_n M sn N C) rfl rfl) (h.2.2.2.2.2.2.2.2.2.2.fx (FX_n M sn N C) rfl rfl rfl)
theorem j_find {A B K C N : Nat} {M : Mm} {Q : Po} (h : JX M A B K C N) (hQ : ∀ M1, FX M M1 → JX M1 A B K C N → GK M1 (wT M1) (M1 63) (M1 76) (M1 77) (M1 78) (M1 58 30).toNatClampNeg N C → Q none (shw A B) M1) : WP 3 0 [.ref 29, .ref A, .ref 12, mk, mk, mk] [] (shw A B) (0, 0) M Q := by
  obtain ⟨h0, h1, h2, h3, h4, h5, h6, h7, h8, h9, h10⟩ := id h
  obtain ⟨s, s1, s2, s3, s4, s5, s6⟩ := id h6
  have m5 := h1.2.1.1.2.2.1
  rcases id h10 with hk | ⟨hk, hG⟩
  · refine c_g_find (sn := s) (so := M 76) (sa := M 77) (si := M 78) h0.pp h1.2.1 hk ?_ (fun M1 hF k1 hG => ?_)
    · intro E
      rw [s5, s6]
      exact fit_iff m5 s4 E
    · have hFX : FX M M1 := ⟨fun c hc => hF c (by omega), fun j _ => congrFun (hF 58 (by decide)) j, fun j _ => congrFun (hF 17 (by decide)) j⟩
      have hG2 : GK M1 (wT M1) (M1 63) (M1 76) (M1 77) (M1 78) (M1 58 30).toNatClampNeg N C := by
        rw [hFX.wTe, hFX.1 63 (by decide), hFX.1 76 (by decide), hFX.1 77 (by decide), hFX.1 78 (by decide), hFX.2.1 30 (by decide), s3, nI_clamp (by omega)]
        exact hG
      exact hQ M1 hFX (h.fx hFX (h9.fx hFX (hF 21 (by decide)) (hF 28 (by decide))) (Or.inr ⟨k1, hG2⟩)) hG2
  · refine c_g_known hk ?_
    exact hQ M ⟨fun _ _ => rfl, fun _ _ => rfl, fun _ _ => rfl⟩ h hG
theorem j_had {A B : Nat} {M : Mm} {x : Int32} (hj : JJ M A B) : WP 131 0 [.ref 0, .int x] [] (shw A B) (0, 0) M (JQ 212 [.ref 58, .int x]) := by
  obtain ⟨K, C, N, h⟩ := id hj
  obtain ⟨h0, h1, h2, h3, h4, h5, h6, h7, h8, h9, h10⟩ := id h
  have hp := h0.pp
  obtain ⟨c1, c2, c3, c4, c5, c6, c7, c8⟩ := id h1
  obtain ⟨d1, d2, d3, d4⟩ := id h2
  obtain ⟨⟨m1, m2, m3⟩, m4, m5, m6⟩ := id c2.1
  have hv : HV (M 4) C := by rw [d1]; exact d2
  have mid : (x = -1 ∨ inb x N = true) → WP 131 19 [.ref 0, .int x] [] (shw A B) (0, 0) M (JQ 212 [.ref 58, .int x]) := by
    intro hz
    simp only [w_c_had_0, w_c_had_1, w_c_had_2, w_c_had_5, w_c_had_6, w_c_had_9, w_c_had_10, w_c_had_13, w_c_had_16, w_c_had_18, w_c_had_19, w_c_had_20, w_c_had_23, w_c_had_24, w_c_had_27, w_c_had_28, w_c_had_31, w_c_had_34, w_c_had_35, w_c_had_36, w_c_had_39, w_c_had_40, w_c_had_43, w_c_had_46, w_c_had_49, w_c_had_50, w_c_had_53, w_c_had_54, w_c_had_57, xc_8, xc_7, xc_4, cl_29, cl_0, cl_1, cl_3, cl_5, cl_7, cl_12, cl_15, cl_21, cl_29, zpp hp, i10, Bool.false_eq_true, eq_self, true_or, or_true, if_true, if_false, gv_int, gv_ref, av_some, al_some, un_int, un_ref, un_mk, ok4_0, ok4_1, ok4_2, ok4_3, ok4_4, Kn_some, Kn_none, true_and, and_true]
    refine j_find h (fun M1 hF hX hG => ?_)
    obtain ⟨s, s1, s2, s3, s4, s5, s6⟩ := hX.2.2.2.2.2.2.1
    have hm1 := hX.2.1.1
    rw [s3, nI_clamp (show s < 2 ^ 31 by omega)] at hG
    have hsn : SN M1 s := ⟨s3, s1, fun k hk => by
      obtain ⟨⟨i, i1, i2⟩, ⟨j, j1, j2⟩, -⟩ := s4 k hk
      exact ⟨⟨i, by omega, i2⟩, ⟨j, by omega, j2⟩⟩⟩
    obtain ⟨g1, g2, g3⟩ := hG
    obtain ⟨r1, r2, r3⟩ := fw_rel (W := wT M1) (lk := M1 63) (h := M1 65) (h' := fun _ => 0) (so := M1 76) (sa := M1 77) (si := M1 78) (e0 := fun k => if k < 16 then 0 else M1 80 k) (e0' := fun _ => 0) (s0 := M1 79) (s0' := fun _ => 0) (sn := s) (n := N) (c := C) (fun k hk => if_pos hk) (if C = 0 then 0 else C ^ N)
    have ef : (fwM M1 s N C).1 = (gwE (wT M1) (M1 63) (M1 76) (M1 77) (M1 78) s N C (if C = 0 then 0 else C ^ N)).1 := r1
    by_cases q : x = -1
    · simp only [w_c_had_0, w_c_had_1, w_c_had_2, w_c_had_5, w_c_had_6, w_c_had_9, w_c_had_10, w_c_had_13, w_c_had_16, w_c_had_18, w_c_had_19, w_c_had_20, w_c_had_23, w_c_had_24, w_c_had_27, w_c_had_28, w_c_had_31, w_c_had_34, w_c_had_35, w_c_had_36, w_c_had_39, w_c_had_40, w_c_had_43, w_c_had_46, w_c_had_49, w_c_had_50, w_c_had_53, w_c_had_54, w_c_had_57, xc_8, xc_7, xc_4, cl_29, eq_true q, e_g_fitting, g1, cl_0, cl_1, cl_3, cl_5, cl_7, cl_12, cl_15, cl_21, cl_29, zpp hp, i10, Bool.false_eq_true, eq_self, true_or, or_true, if_true, if_false, gv_int, gv_ref, av_some, al_some, un_int, un_ref, un_mk, ok4_0, ok4_1, ok4_2, ok4_3, ok4_4, Kn_some, Kn_none, true_and, and_true]
      refine JQ.mk ?_
      refine Eq.mpr (e_m_had hm1 hsn) (ite_t hz ?_)
      refine ⟨?_, rfl, K, C, N, hX.fwn s⟩
      unfold hadA
      rw [if_pos q, ef]
    · obtain ⟨t, t1, rfl⟩ := inb_of (hz.resolve_left q) (by omega)
      simp only [w_c_had_0, w_c_had_1, w_c_had_2, w_c_had_5, w_c_had_6, w_c_had_9, w_c_had_10, w_c_had_13, w_c_had_16, w_c_had_18, w_c_had_19, w_c_had_20, w_c_had_23, w_c_had_24, w_c_had_27, w_c_had_28, w_c_had_31, w_c_had_34, w_c_had_35, w_c_had_36, w_c_had_39, w_c_had_40, w_c_had_43, w_c_had_46, w_c_had_49, w_c_had_50, w_c_had_53, w_c_had_54, w_c_had_57, xc_8, xc_7, xc_4, cl_29, eq_false q, e_g_sureHolderOf (show t < 7 by omega), g3 t t1, cl_0, cl_1, cl_3, cl_5, cl_7, cl_12, cl_15, cl_21, cl_29, zpp hp, i10, Bool.false_eq_true, eq_self, true_or, or_true, if_true, if_false, gv_int, gv_ref, av_some, al_some, un_int, un_ref, un_mk, ok4_0, ok4_1, ok4_2, ok4_3, ok4_4, Kn_some, Kn_none, true_and, and_true]
      refine JQ.mk ?_
      refine Eq.mpr (e_m_had hm1 hsn) (ite_t hz ?_)
      refine ⟨?_, rfl, K, C, N, hX.fwn s⟩
      unfold hadA suC
      rw [if_neg q, nI_clamp (show t < 2 ^ 31 by omega), ef]
      by_cases z : (gwE (wT M1) (M1 63) (M1 76) (M1 77) (M1 78) s N C (if C = 0 then 0 else C ^ N)).1 = 0
      · rw [if_pos z, if_pos z]
      · rw [if_neg z, if_neg z]
        have := r3 (fun w => z (ef.symm.trans w)) t t1
        have e2 : (fwM M1 s N C).2.2 t = (gwE (wT M1) (M1 63) (M1 76) (M1 77) (M1 78) s N C (if C = 0 then 0 else C ^ N)).2.2 t := this
        rw [e2]
  by_cases q : x = -1
  · simp only [w_c_had_0, w_c_had_1, w_c_had_2, w_c_had_5, w_c_had_6, w_c_had_9, w_c_had_10, w_c_had_13, w_c_had_16, w_c_had_18, w_c_had_20, w_c_had_23, w_c_had_24, w_c_had_27, w_c_had_28, w_c_had_31, w_c_had_34, w_c_had_35, w_c_had_36, w_c_had_39, w_c_had_40, w_c_had_43, w_c_had_46, w_c_had_49, w_c_had_50, w_c_had_53, w_c_had_54, w_c_had_57, xc_8, xc_7, xc_4, cl_29, eq_true q, i10, Bool.false_eq_true, eq_self, true_or, or_true, if_true, if_false, gv_int, gv_ref, av_some, al_some, un_int, un_ref, un_mk, ok4_0, ok4_1, ok4_2, ok4_3, ok4_4, Kn_some, Kn_none, true_and, and_true]
    exact mid (Or.inl q)
  · cases hx : inb x N
    · obtain ⟨s, s1, s2, s3, s4, s5, s6⟩ := id h6
      have hsn : SN M s := ⟨s3, s1, fun k hk => by
        obtain ⟨⟨i, i1, i2⟩, ⟨j, j1, j2⟩, -⟩ := s4 k hk
        exact ⟨⟨i, by omega, i2⟩, ⟨j, by omega, j2⟩⟩⟩
      simp only [w_c_had_0, w_c_had_1, w_c_had_2, w_c_had_5, w_c_had_6, w_c_had_9, w_c_had_10, w_c_had_13, w_c_had_16, w_c_had_18, w_c_had_20, w_c_had_23, w_c_had_24, w_c_had_27, w_c_had_28, w_c_had_31, w_c_had_34, w_c_had_35, w_c_had_36, w_c_had_39, w_c_had_40, w_c_had_43, w_c_had_46, w_c_had_49, w_c_had_50, w_c_had_53, w_c_had_54, w_c_had_57, xc_8, xc_7, xc_4, cl_29, eq_false q, e_p_hasThing hp c2.1, hx, cl_0, cl_1, cl_3, cl_5, cl_7, cl_12, cl_15, cl_21, cl_29, zpp hp, i10, Bool.false_eq_true, eq_self, true_or, or_true, if_true, if_false, gv_int, gv_ref, av_some, al_some, un_int, un_ref, un_mk, ok4_0, ok4_1, ok4_2, ok4_3, ok4_4, Kn_some, Kn_none, true_and, and_true]
      refine JQ.mk ?_
      refine Eq.mpr (e_m_had c1 hsn) (ite_f (fun z => ?_) ⟨rfl, rfl, hj⟩)
      rcases z with z | z
      · exact q z
      · rw [hx] at z; cases z
    · simp only [w_c_had_0, w_c_had_1, w_c_had_2, w_c_had_5, w_c_had_6, w_c_had_9, w_c_had_10, w_c_had_13, w_c_had_16, w_c_had_18, w_c_had_20, w_c_had_23, w_c_had_24, w_c_had_27, w_c_had_28, w_c_had_31, w_c_had_34, w_c_had_35, w_c_had_36, w_c_had_39, w_c_had_40, w_c_had_43, w_c_had_46, w_c_had_49, w_c_had_50, w_c_had_53, w_c_had_54, w_c_had_57, xc_8, xc_7, xc_4, cl_29, eq_false q, e_p_hasThing hp c2.1, hx, cl_0, cl_1, cl_3, cl_5, cl_7, cl_12, cl_15, cl_21, cl_29, zpp hp, i10, Bool.false_eq_true, eq_self, true_or, or_true, if_true, if_false, gv_int, gv_ref, av_some, al_some, un_int, un_ref, un_mk, ok4_0, ok4_1, ok4_2, ok4_3, ok4_4, Kn_some, Kn_none, true_and, and_true]
      exact mid (Or.inr hx)
theorem j_watch {A B : Nat} {M : Mm} (hj : JJ M A B) : WP 132 0 [.ref 0] [] (shw A B) (0, 0) M (JQ 213 [.ref 58, mk, mk, mk, mk, mk]) := by
  obtain ⟨K, C, N, h⟩ := id hj
  obtain ⟨h0, h1, h2, h3, h4, h5, h6, h7, h8, h9, h10⟩ := id h
  have hp := h0.pp
  obtain ⟨c1, c2, c3, c4, c5, c6, c7, c8⟩ := id h1
  obtain ⟨d1, d2, d3, d4⟩ := id h2
  obtain ⟨⟨m1, m2, m3⟩, m4, m5, m6⟩ := id c2.1
  have hv : HV (M 4) C := by rw [d1]; exact d2
  simp only [w_c_watch_0, w_c_watch_1, w_c_watch_4, w_c_watch_5, w_c_watch_8, w_c_watch_9, w_c_watch_12, w_c_watch_15, w_c_watch_16, w_c_watch_19, w_c_watch_20, w_c_watch_23, w_c_watch_26, xc_7, xc_8, xc_4, cl_29, cl_0, cl_1, cl_3, cl_5, cl_7, cl_12, cl_15, cl_21, cl_29, zpp hp, i10, Bool.false_eq_true, eq_self, true_or, or_true, if_true, if_false, gv_int, gv_ref, av_some, al_some, un_int, un_ref, un_mk, ok4_0, ok4_1, ok4_2, ok4_3, ok4_4, Kn_some, Kn_none, true_and, and_true]
  refine j_find h (fun M1 hF hX hG => ?_)
  obtain ⟨s, s1, s2, s3, s4, s5, s6⟩ := hX.2.2.2.2.2.2.1
  have hm1 := hX.2.1.1
  have hsn : SN M1 s := ⟨s3, s1, fun k hk => by
    obtain ⟨⟨i, i1, i2⟩, ⟨j, j1, j2⟩, -⟩ := s4 k hk
    exact ⟨⟨i, by omega, i2⟩, ⟨j, by omega, j2⟩⟩⟩
  rw [s3, nI_clamp (show s < 2 ^ 31 by omega)] at hG
  obtain ⟨r1, r2, r3⟩ := fw_rel (W := wT M1) (lk := M1 63) (h := M1 65) (h' := fun _ => 0) (so := M1 76) (sa := M1 77) (si := M1 78) (e0 := fun k => if k < 16 then 0 else M1 80 k) (e0' := fun _ => 0) (s0 := M1 79) (s0' := fun _ => 0) (sn := s) (n := N) (c := C) (fun k hk => if_pos hk) (if C = 0 then 0 else C ^ N)
  simp only [w_c_watch_0, w_c_watch_1, w_c_watch_4, w_c_watch_5, w_c_watch_8, w_c_watch_9, w_c_watch_12, w_c_watch_15, w_c_watch_16, w_c_watch_19, w_c_watch_20, w_c_watch_23, w_c_watch_26, xc_7, xc_8, xc_4, cl_29, e_g_bestPair hp hX.2.1.2.1 hG hX.2.1.2.2.2.2.2.1, cl_0, cl_1, cl_3, cl_5, cl_7, cl_12, cl_15, cl_21, cl_29, zpp hp, i10, Bool.false_eq_true, eq_self, true_or, or_true, if_true, if_false, gv_int, gv_ref, av_some, al_some, un_int, un_ref, un_mk, ok4_0, ok4_1, ok4_2, ok4_3, ok4_4, Kn_some, Kn_none, true_and, and_true]
  refine JQ.mk ?_
  refine Eq.mpr (e_m_watch hm1 hsn) ?_
  refine ⟨?_, rfl, K, C, N, hX.fwn s⟩
  have e1 : (fwM M1 s N C).1 = (gwE (wT M1) (M1 63) (M1 76) (M1 77) (M1 78) s N C (if C = 0 then 0 else C ^ N)).1 := r1
  rw [e1]
  have e2 := wtE_congr (lk := M1 63) (f := nI (gwE (wT M1) (M1 63) (M1 76) (M1 77) (M1 78) s N C (if C = 0 then 0 else C ^ N)).1) (c := C) (env := (fwM M1 s N C).2.1) (env' := (gwE (wT M1) (M1 63) (M1 76) (M1 77) (M1 78) s N C (if C = 0 then 0 else C ^ N)).2.1) r2 16 (Nat.le_refl 16)
  rw [e2]
