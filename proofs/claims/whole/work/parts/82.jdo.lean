/-! both do alike: hands, the past -/
theorem ite_t {c a b : Prop} [Decidable c] (hc : c) (ha : a) : ite c a b := by rw [if_pos hc]; exact ha
theorem ite_f {c a b : Prop} [Decidable c] (hc : ¬ c) (hb : b) : ite c a b := by rw [if_neg hc]; exact hb
theorem gb_small {v i : Nat} (hv : v < 8) (hi : 3 ≤ i) (hi2 : i < 32) : gb (nI v) i = false := by
  rw [gb_nI v hi2]
  exact Nat.testBit_lt_two_pow (Nat.lt_of_lt_of_le hv (show (2 : Nat) ^ 3 ≤ 2 ^ i from Nat.pow_le_pow_right (by decide) hi))
theorem pkE_s (h : Nat → Int32) (n : Nat) : pkE h (n + 1) = pkE h n ||| ((h n + 1) <<< (3 * nI n &&& 31)) := rfl
theorem pkE_congr {h h' : Nat → Int32} : ∀ n, (∀ t, t < n → h t = h' t) → pkE h n = pkE h' n
  | 0, _ => rfl
  | n + 1, hh => by rw [pkE_s, pkE_s, pkE_congr n (fun t ht => hh t (by omega)), hh n (by omega)]
theorem HV_1 {h : Nat → Int32} {C t : Nat} (hv : HV h C) (hC : C ≤ 4) (ht : t < 7) : ∃ v, v < 8 ∧ h t + 1 = nI v := by
  rcases hv t ht with e | ⟨j, j1, e⟩
  · exact ⟨0, by omega, by rw [e]; decide⟩
  · exact ⟨j + 1, by omega, by rw [e, nI_1]⟩
theorem gb_pk {h : Nat → Int32} {C j i : Nat} (hv : HV h C) (hC : C ≤ 4) (hj : j < 7) (hi : i < 3) : ∀ n, n ≤ 7 → gb (pkE h n) (3 * j + i) = (decide (j < n) && gb (h j + 1) i)
  | 0, _ => by rw [show pkE h 0 = 0 from rfl, gb_0, decide_eq_false (by omega), Bool.false_and]
  | n + 1, hn => by
    have ih := gb_pk hv hC hj hi n (by omega)
    obtain ⟨v, v1, v2⟩ := HV_1 hv hC (show n < 7 by omega)
    rw [pkE_s, gb_or, ih, show (3 : Int32) * nI n = nI (3 * n) from pk_mul 3 n, gb_shl (3 * n) (by omega) _ (by omega)]
    rcases Nat.lt_trichotomy j n with q | q | q
    · rw [decide_eq_true q, decide_eq_true (show j < n + 1 by omega), decide_eq_false (show ¬ 3 * n ≤ 3 * j + i by omega), Bool.false_and, Bool.or_false]
    · subst q
      rw [decide_eq_false (show ¬ j < j by omega), decide_eq_true (show 3 * j ≤ 3 * j + i by omega), decide_eq_true (show j < j + 1 by omega), Bool.false_and, Bool.false_or, show 3 * j + i - 3 * j = i by omega]
    · rw [decide_eq_false (show ¬ j < n by omega), decide_eq_false (show ¬ j < n + 1 by omega), Bool.false_and, Bool.false_or, v2, gb_small v1 (by omega) (by omega), Bool.and_false]
theorem gb_7 : ∀ i, i < 32 → gb 7 i = decide (i < 3) := by decide +kernel
theorem pk_up {h : Nat → Int32} {C j : Nat} (hv : HV h C) (hC : C ≤ 4) (hj : j < 7) : (pkE h 7 >>> (3 * nI j &&& 31) &&& 7) - 1 = h j := by
  obtain ⟨v, v1, v2⟩ := HV_1 hv hC hj
  have e : pkE h 7 >>> (3 * nI j &&& 31) &&& 7 = h j + 1 := by
    apply gb_ext
    intro i hi
    rw [gb_and, gb_7 i hi, show (3 : Int32) * nI j = nI (3 * j) from pk_mul 3 j, gb_sshr (3 * j) (by omega) _ hi]
    by_cases q : i < 3
    · rw [if_pos (by omega), gb_pk hv hC hj q 7 (Nat.le_refl 7), decide_eq_true hj, decide_eq_true q, Bool.true_and, Bool.and_true]
    · rw [decide_eq_false q, Bool.and_false, v2, gb_small v1 (by omega) hi]
  rw [e, Int32.add_sub_cancel]
theorem upF_pk {h f : Nat → Int32} {C : Nat} (hv : HV h C) (hC : C ≤ 4) : upF (pkE h 7) 7 f = fun j => if j < 7 then h j else f j := by
  funext j
  unfold upF
  by_cases q : j < 7
  · rw [if_pos q, if_pos q, pk_up hv hC q]
  · rw [if_neg q, if_neg q]
def z8 (f : Nat → Int32) (u : Nat) (x : Int32) : Nat → Int32 := if u < 20 then upd f u x else fun j => if j < 19 then f (j + 1) else if j = 19 then x else f j
theorem zrM_eq (M : Mm) {u : Nat} (x : Int32) (hu : u ≤ 20) : zrM M u x = up (st M 8 (z8 (M 8) u x)) 7 4 (nI (rmU u)) := by
  unfold zrM z8 rmU
  by_cases q : u < 20
  · rw [if_pos q, if_pos q, if_neg (by omega), up_eq_st M 8 u x]
  · have e : u = 20 := by omega
    subst e
    rw [if_neg q, if_neg q, if_pos rfl]
    funext a
    simp only [up_c, st_at, cpm]
    by_cases a7 : a = 7
    · subst a7
      funext k
      simp only [upd_at]
      by_cases k4 : k = 4
      · simp [k4]; rfl
      · simp [k4, upd_at]
    · by_cases a8 : a = 8
      · subst a8
        funext k
        simp only [upd_at]
        by_cases k19 : k = 19
        · simp [k19, upd_at]
        · by_cases kl : k < 19
          · simp [k19, kl, upd_at, va_cpy, Nat.add_comm]
          · simp [k19, kl, upd_at, va_cpy]
      · simp [a7, a8]
theorem HV_congr {h h' : Nat → Int32} {C : Nat} (hh : ∀ t, t < 7 → h t = h' t) (hv : HV h' C) : HV h C := fun t ht => by rw [hh t ht]; exact hv t ht
theorem JZ_rem {u C : Nat} {f8 fp hn : Nat → Int32} (hu : u ≤ 20) (hz : ∀ j, j < u → f8 j = pkE (fun t => fp (7 * j + t)) 7 ∧ HV (fun t => fp (7 * j + t)) C) (hv : HV hn C) : JZ (nI (rmU u)) (z8 f8 u (pkE hn 7)) (nI (rmU u)) (rmF fp hn u) C := by
  unfold rmU rmF z8
  by_cases q : u = 20
  · subst q
    rw [if_pos rfl, if_pos rfl, if_neg (by decide)]
    refine ⟨20, Nat.le_refl _, rfl, rfl, fun j hj => ?_⟩
    by_cases r : j = 19
    · subst r
      have e : ∀ t, t < 7 → (fun t => if 7 * 19 + t < 133 then fp (7 * 19 + t + 7) else if 7 * 19 + t < 140 then hn (7 * 19 + t - 133) else fp (7 * 19 + t)) t = hn t := by
        intro t ht
        dsimp only
        rw [if_neg (by omega), if_pos (by omega), show 7 * 19 + t - 133 = t by omega]
      refine ⟨?_, HV_congr e hv⟩
      dsimp only
      rw [if_neg (by decide), if_pos rfl]
      exact (pkE_congr 7 e).symm
    · have e : ∀ t, t < 7 → (fun t => if 7 * j + t < 133 then fp (7 * j + t + 7) else if 7 * j + t < 140 then hn (7 * j + t - 133) else fp (7 * j + t)) t = (fun t => fp (7 * (j + 1) + t)) t := by
        intro t ht
        dsimp only
        rw [if_pos (by omega), show 7 * j + t + 7 = 7 * (j + 1) + t by omega]
      have hj1 := hz (j + 1) (by omega)
      refine ⟨?_, HV_congr e hj1.2⟩
      dsimp only
      rw [if_pos (show j < 19 by omega), hj1.1]
      exact (pkE_congr 7 e).symm
  · rw [if_neg q, if_neg q, if_pos (by omega)]
    refine ⟨u + 1, by omega, rfl, rfl, fun j hj => ?_⟩
    rw [upd_at]
    by_cases r : j = u
    · subst r
      have e : ∀ t, t < 7 → (fun t => if 7 * j ≤ 7 * j + t ∧ 7 * j + t < 7 * j + 7 then hn (7 * j + t - 7 * j) else fp (7 * j + t)) t = hn t := by
        intro t ht
        dsimp only
        rw [if_pos (by omega), show 7 * j + t - 7 * j = t by omega]
      rw [if_pos rfl]
      exact ⟨(pkE_congr 7 e).symm, HV_congr e hv⟩
    · have e : ∀ t, t < 7 → (fun t => if 7 * u ≤ 7 * j + t ∧ 7 * j + t < 7 * u + 7 then hn (7 * j + t - 7 * u) else fp (7 * j + t)) t = (fun t => fp (7 * j + t)) t := by
        intro t ht
        dsimp only
        rw [if_neg (by omega)]
      have hj1 := hz j (by omega)
      rw [if_neg r, hj1.1]
      exact ⟨(pkE_congr 7 e).symm, HV_congr e hj1.2⟩
theorem JH_new {f4 f17 fn g : Nat → Int32} {C : Nat} (h : JH f4 f17 fn C) (hg : HV g C) (ht : ∀ j, ¬ j < 7 → g j = 0) : JH g f17 g C :=
  ⟨rfl, hg, fun j hj => by rw [h.2.2.1 j hj, h.2.2.2 j hj, ht j hj], ht⟩
theorem HV_put {h : Nat → Int32} {C t : Nat} {x : Int32} (hv : HV h C) (hx : x = -1 ∨ ∃ j, j < C ∧ x = nI j) : HV (upd h t x) C := by
  intro y hy
  rw [upd_at]
  by_cases q : y = t
  · rw [if_pos q]; exact hx
  · rw [if_neg q]; exact hv y hy
theorem upd_tail {h : Nat → Int32} {t : Nat} {x : Int32} (ht : t < 7) (h0 : ∀ j, ¬ j < 7 → h j = 0) : ∀ j, ¬ j < 7 → upd h t x j = 0 := by
  intro j hj
  rw [upd_at, if_neg (by omega)]
  exact h0 j hj
theorem e_z_rem {A B u : Nat} {M : Mm} {Q : Po} {x : Int32} (hu : M 7 4 = nI u) (h20 : u ≤ 20) : WP 48 0 [.ref 7, .int x] [] (shw A B) (0, 0) M Q = Q none (shw A B) (up (st M 8 (z8 (M 8) u x)) 7 4 (nI (rmU u))) := by
  rw [e_z_remember hu h20, zrM_eq M x h20]
theorem j_give {A B : Nat} {M : Mm} {x y : Int32} (hj : JJ M A B) : WP 114 0 [.ref 0, .int x, .int y, mk] [] (shw A B) (0, 0) M (JQ 177 [.ref 58, .int x, .int y, mk]) := by
  obtain ⟨K, C, N, h⟩ := id hj
  obtain ⟨h0, h1, h2, h3, h4, h5, h6, h7, h8, h9, h10⟩ := id h
  have hp := h0.pp
  obtain ⟨c1, c2, c3, c4, c5, c6, c7, c8⟩ := id h1
  obtain ⟨d1, d2, d3, d4⟩ := id h2
  obtain ⟨⟨m1, m2, m3⟩, m4, m5, m6⟩ := id c2.1
  have hv : HV (M 4) C := by rw [d1]; exact d2
  obtain ⟨u, u1, u2, u3, u4⟩ := id h4
  cases hx : inb x N
  · simp only [w_c_give_0, w_c_give_1, w_c_give_4, w_c_give_5, w_c_give_8, w_c_give_11, w_c_give_12, w_c_give_15, w_c_give_16, w_c_give_19, w_c_give_22, w_c_give_24, w_c_give_25, w_c_give_26, w_c_give_29, w_c_give_30, w_c_give_33, w_c_give_36, w_c_give_39, w_c_give_40, w_c_give_43, w_c_give_44, w_c_give_47, w_c_give_48, w_c_give_49, w_c_give_52, w_c_give_53, w_c_give_54, w_c_give_57, w_c_give_58, xc_8, xc_3, xc_1, cl_7, e_p_hasThing hp c2.1, hx, cl_0, cl_1, cl_3, cl_5, cl_7, cl_12, cl_15, cl_21, cl_29, zpp hp, i10, Bool.false_eq_true, eq_self, true_or, or_true, if_true, if_false, gv_int, gv_ref, av_some, al_some, un_int, un_ref, un_mk, ok4_0, ok4_1, ok4_2, ok4_3, ok4_4, Kn_some, Kn_none, true_and, and_true]
    refine JQ.mk ?_
    rw [e_m_give c1 u3 u1, hx]
    exact ⟨rfl, rfl, hj⟩
  cases hy : inb y C
  · simp only [w_c_give_0, w_c_give_1, w_c_give_4, w_c_give_5, w_c_give_8, w_c_give_11, w_c_give_12, w_c_give_15, w_c_give_16, w_c_give_19, w_c_give_22, w_c_give_24, w_c_give_25, w_c_give_26, w_c_give_29, w_c_give_30, w_c_give_33, w_c_give_36, w_c_give_39, w_c_give_40, w_c_give_43, w_c_give_44, w_c_give_47, w_c_give_48, w_c_give_49, w_c_give_52, w_c_give_53, w_c_give_54, w_c_give_57, w_c_give_58, xc_8, xc_3, xc_1, cl_7, e_p_hasThing hp c2.1, e_p_hasChild hp c2.1, hx, hy, cl_0, cl_1, cl_3, cl_5, cl_7, cl_12, cl_15, cl_21, cl_29, zpp hp, i10, Bool.false_eq_true, eq_self, true_or, or_true, if_true, if_false, gv_int, gv_ref, av_some, al_some, un_int, un_ref, un_mk, ok4_0, ok4_1, ok4_2, ok4_3, ok4_4, Kn_some, Kn_none, true_and, and_true]
    refine JQ.mk ?_
    rw [e_m_give c1 u3 u1, hx, hy]
    exact ⟨rfl, rfl, hj⟩
  obtain ⟨t, t1, rfl⟩ := inb_of hx (by omega)
  obtain ⟨j, j1, rfl⟩ := inb_of hy (by omega)
  simp only [w_c_give_0, w_c_give_1, w_c_give_4, w_c_give_5, w_c_give_8, w_c_give_11, w_c_give_12, w_c_give_15, w_c_give_16, w_c_give_19, w_c_give_22, w_c_give_24, w_c_give_25, w_c_give_26, w_c_give_29, w_c_give_30, w_c_give_33, w_c_give_36, w_c_give_39, w_c_give_40, w_c_give_43, w_c_give_44, w_c_give_47, w_c_give_48, w_c_give_49, w_c_give_52, w_c_give_53, w_c_give_54, w_c_give_57, w_c_give_58, xc_8, xc_3, xc_1, cl_7, e_p_hasThing hp c2.1, e_p_hasChild hp c2.1, hx, hy, cl_0, cl_1, cl_3, cl_5, cl_7, cl_12, cl_15, cl_21, cl_29, zpp hp, e_h_packed isHH_3, e_z_rem u2 u1, e_h_holderOf isHH_3 (show t < 7 by omega), e_h_put isHH_3 (show t < 7 by omega), show (3 + 1 : Nat) = 4 from rfl, i10, Bool.false_eq_true, eq_self, true_or, or_true, if_true, if_false, gv_int, gv_ref, av_some, al_some, un_int, un_ref, un_mk, ok4_0, ok4_1, ok4_2, ok4_3, ok4_4, Kn_some, Kn_none, true_and, and_true]
  refine JQ.mk ?_
  rw [e_m_give (u := u) (show MD (up (up (st M 8 (z8 (M 8) u (pkE (M 4) 7))) 7 4 (nI (rmU u))) 4 t (nI j)) K C N from c1) u3 u1, hx, hy]
  rw [nI_clamp (show t < 2 ^ 31 by omega)]
  refine ⟨?_, rfl, K, C, N, h0, h1.fr h0 ?_ ⟨rfl, rfl, rfl⟩ ⟨rfl, rfl, rfl, rfl, rfl, rfl⟩, ?_, h3, ?_, h5, h6, h7, h8, h9, h10⟩
  · show some (Value.int (M 65 t)) = some (Value.int (M 4 t))
    rw [d1]
  · intro c c1 c2
    simp only [RM, up_c, st_at]
    repeat rw [if_neg (by omega)]
  · show JH (upd (M 4) t (nI j)) (M 17) (upd (M 65) t (nI j)) C
    rw [d1]
    exact JH_new h2 (HV_put d2 (Or.inr ⟨j, j1, rfl⟩)) (upd_tail (by omega) d4)
  · show JZ (nI (rmU u)) (z8 (M 8) u (pkE (M 4) 7)) (nI (rmU u)) (rmF (M 73) (M 65) u) C
    rw [d1]
    exact JZ_rem u1 u4 d2
theorem j_take {A B : Nat} {M : Mm} {x : Int32} (hj : JJ M A B) : WP 115 0 [.ref 0, .int x, mk] [] (shw A B) (0, 0) M (JQ 178 [.ref 58, .int x, mk]) := by
  obtain ⟨K, C, N, h⟩ := id hj
  obtain ⟨h0, h1, h2, h3, h4, h5, h6, h7, h8, h9, h10⟩ := id h
  have hp := h0.pp
  obtain ⟨c1, c2, c3, c4, c5, c6, c7, c8⟩ := id h1
  obtain ⟨d1, d2, d3, d4⟩ := id h2
  obtain ⟨⟨m1, m2, m3⟩, m4, m5, m6⟩ := id c2.1
  have hv : HV (M 4) C := by rw [d1]; exact d2
  obtain ⟨u, u1, u2, u3, u4⟩ := id h4
  cases hx : inb x N
  · simp only [w_c_take_0, w_c_take_1, w_c_take_4, w_c_take_5, w_c_take_8, w_c_take_11, w_c_take_13, w_c_take_14, w_c_take_15, w_c_take_18, w_c_take_19, w_c_take_22, w_c_take_23, w_c_take_24, w_c_take_25, w_c_take_28, w_c_take_30, w_c_take_31, w_c_take_32, w_c_take_35, w_c_take_36, w_c_take_39, w_c_take_42, w_c_take_45, w_c_take_46, w_c_take_49, w_c_take_50, w_c_take_51, w_c_take_54, w_c_take_55, xc_8, xc_1, xc_3, cl_7, e_p_hasThing hp c2.1, hx, cl_0, cl_1, cl_3, cl_5, cl_7, cl_12, cl_15, cl_21, cl_29, zpp hp, i10, Bool.false_eq_true, eq_self, true_or, or_true, if_true, if_false, gv_int, gv_ref, av_some, al_some, un_int, un_ref, un_mk, ok4_0, ok4_1, ok4_2, ok4_3, ok4_4, Kn_some, Kn_none, true_and, and_true]
    refine JQ.mk ?_
    rw [e_m_take c1 u3 u1, hx]
    exact ⟨rfl, rfl, hj⟩
  obtain ⟨t, t1, rfl⟩ := inb_of hx (by omega)
  have hn := neg_m1 d2 (show t < 7 by omega) m5
  by_cases q : M 65 t = -1
  · simp only [w_c_take_0, w_c_take_1, w_c_take_4, w_c_take_5, w_c_take_8, w_c_take_11, w_c_take_13, w_c_take_14, w_c_take_15, w_c_take_18, w_c_take_19, w_c_take_22, w_c_take_23, w_c_take_24, w_c_take_25, w_c_take_28, w_c_take_30, w_c_take_31, w_c_take_32, w_c_take_35, w_c_take_36, w_c_take_39, w_c_take_42, w_c_take_45, w_c_take_46, w_c_take_49, w_c_take_50, w_c_take_51, w_c_take_54, w_c_take_55, xc_8, xc_1, xc_3, cl_7, e_p_hasThing hp c2.1, hx, cl_0, cl_1, cl_3, cl_5, cl_7, cl_12, cl_15, cl_21, cl_29, zpp hp, e_h_holderOf isHH_3 (show t < 7 by omega), show (3 + 1 : Nat) = 4 from rfl, d1, q, i10, Bool.false_eq_true, eq_self, true_or, or_true, if_true, if_false, gv_int, gv_ref, av_some, al_some, un_int, un_ref, un_mk, ok4_0, ok4_1, ok4_2, ok4_3, ok4_4, Kn_some, Kn_none, true_and, and_true]
    refine JQ.mk ?_
    rw [e_m_take c1 u3 u1, hx, if_pos rfl, nI_clamp (show t < 2 ^ 31 by omega), if_pos (hn.mpr q)]
    exact ⟨rfl, rfl, hj⟩
  · simp only [w_c_take_0, w_c_take_1, w_c_take_4, w_c_take_5, w_c_take_8, w_c_take_11, w_c_take_13, w_c_take_14, w_c_take_15, w_c_take_18, w_c_take_19, w_c_take_22, w_c_take_23, w_c_take_24, w_c_take_25, w_c_take_28, w_c_take_30, w_c_take_31, w_c_take_32, w_c_take_35, w_c_take_36, w_c_take_39, w_c_take_42, w_c_take_45, w_c_take_46, w_c_take_49, w_c_take_50, w_c_take_51, w_c_take_54, w_c_take_55, xc_8, xc_1, xc_3, cl_7, e_p_hasThing hp c2.1, hx, cl_0, cl_1, cl_3, cl_5, cl_7, cl_12, cl_15, cl_21, cl_29, zpp hp, e_h_holderOf isHH_3 (show t < 7 by omega), show (3 + 1 : Nat) = 4 from rfl, d1, eq_false q, e_h_packed isHH_3, e_z_rem u2 u1, e_h_put isHH_3 (show t < 7 by omega), i10, Bool.false_eq_true, eq_self, true_or, or_true, if_true, if_false, gv_int, gv_ref, av_some, al_some, un_int, un_ref, un_mk, ok4_0, ok4_1, ok4_2, ok4_3, ok4_4, Kn_some, Kn_none, true_and, and_true]
    refine JQ.mk ?_
    refine Eq.mpr (e_m_take (u := u) c1 u3 u1) ?_
    rw [nI_clamp (show t < 2 ^ 31 by omega)]
    refine ite_t hx (ite_f (show ¬ M 65 t < 0 from fun z => q (hn.mp z)) ?_)
    refine ⟨rfl, rfl, K, C, N, h0, h1.fr h0 ?_ ⟨rfl, rfl, rfl⟩ ⟨rfl, rfl, rfl, rfl, rfl, rfl⟩, ?_, h3, ?_, h5, h6, h7, h8, h9, h10⟩
    · intro c c1 c2
      simp only [RM, up_c, st_at]
      repeat rw [if_neg (by omega)]
    · show JH (upd (M 4) t (-1)) (M 17) (upd (M 65) t (-1)) C
      rw [d1]
      exact JH_new h2 (HV_put d2 (Or.inl rfl)) (upd_tail (by omega) d4)
    · exact JZ_rem u1 u4 d2
theorem j_swap {A B : Nat} {M : Mm} {x y : Int32} (hj : JJ M A B) : WP 116 0 [.ref 0, .int x, .int y, mk] [] (shw A B) (0, 0) M (JQ 183 [.ref 58, .int x, .int y, mk]) := by
  obtain ⟨K, C, N, h⟩ := id hj
  obtain ⟨h0, h1, h2, h3, h4, h5, h6, h7, h8, h9, h10⟩ := id h
  have hp := h0.pp
  obtain ⟨c1, c2, c3, c4, c5, c6, c7, c8⟩ := id h1
  obtain ⟨d1, d2, d3, d4⟩ := id h2
  obtain ⟨⟨m1, m2, m3⟩, m4, m5, m6⟩ := id c2.1
  have hv : HV (M 4) C := by rw [d1]; exact d2
  obtain ⟨u, u1, u2, u3, u4⟩ := id h4
  have no : ¬ (inb x N = true ∧ inb y N = true ∧ ¬ x = y) → JQ 183 [.ref 58, .int x, .int y, mk] (some (.int (-1000000001))) (shw A B) M := by
    intro z
    refine JQ.mk ?_
    rw [e_m_swap c1 d2 u3 u1, if_neg z]
    exact ⟨rfl, rfl, hj⟩
  cases hx : inb x N
  · simp only [w_c_swap_0, w_c_swap_1, w_c_swap_4, w_c_swap_5, w_c_swap_8, w_c_swap_11, w_c_swap_12, w_c_swap_15, w_c_swap_16, w_c_swap_19, w_c_swap_22, w_c_swap_23, w_c_swap_24, w_c_swap_27, w_c_swap_29, w_c_swap_30, w_c_swap_31, w_c_swap_34, w_c_swap_35, w_c_swap_36, w_c_swap_39, w_c_swap_42, w_c_swap_44, w_c_swap_45, w_c_swap_46, w_c_swap_49, w_c_swap_50, w_c_swap_53, w_c_swap_54, w_c_swap_57, w_c_swap_58, w_c_swap_59, w_c_swap_62, w_c_swap_65, w_c_swap_66, w_c_swap_69, w_c_swap_70, w_c_swap_71, w_c_swap_72, w_c_swap_75, w_c_swap_76, w_c_swap_79, w_c_swap_82, w_c_swap_85, w_c_swap_86, w_c_swap_89, w_c_swap_90, w_c_swap_91, w_c_swap_94, w_c_swap_95, xc_8, xc_1, xc_5, cl_15, xc_3, cl_7, e_p_hasThing hp c2.1, hx, cl_0, cl_1, cl_3, cl_5, cl_7, cl_12, cl_15, cl_21, cl_29, zpp hp, i10, Bool.false_eq_true, eq_self, true_or, or_true, if_true, if_false, gv_int, gv_ref, av_some, al_some, un_int, un_ref, un_mk, ok4_0, ok4_1, ok4_2, ok4_3, ok4_4, Kn_some, Kn_none, true_and, and_true]
    exact no (fun z => by rw [hx] at z; exact absurd z.1 (by decide))
  cases hy : inb y N
  · simp only [w_c_swap_0, w_c_swap_1, w_c_swap_4, w_c_swap_5, w_c_swap_8, w_c_swap_11, w_c_swap_12, w_c_swap_15, w_c_swap_16, w_c_swap_19, w_c_swap_22, w_c_swap_23, w_c_swap_24, w_c_swap_27, w_c_swap_29, w_c_swap_30, w_c_swap_31, w_c_swap_34, w_c_swap_35, w_c_swap_36, w_c_swap_39, w_c_swap_42, w_c_swap_44, w_c_swap_45, w_c_swap_46, w_c_swap_49, w_c_swap_50, w_c_swap_53, w_c_swap_54, w_c_swap_57, w_c_swap_58, w_c_swap_59, w_c_swap_62, w_c_swap_65, w_c_swap_66, w_c_swap_69, w_c_swap_70, w_c_swap_71, w_c_swap_72, w_c_swap_75, w_c_swap_76, w_c_swap_79, w_c_swap_82, w_c_swap_85, w_c_swap_86, w_c_swap_89, w_c_swap_90, w_c_swap_91, w_c_swap_94, w_c_swap_95, xc_8, xc_1, xc_5, cl_15, xc_3, cl_7, e_p_hasThing hp c2.1, hx, hy, cl_0, cl_1, cl_3, cl_5, cl_7, cl_12, cl_15, cl_21, cl_29, zpp hp, i10, Bool.false_eq_true, eq_self, true_or, or_true, if_true, if_false, gv_int, gv_ref, av_some, al_some, un_int, un_ref, un_mk, ok4_0, ok4_1, ok4_2, ok4_3, ok4_4, Kn_some, Kn_none, true_and, and_true]
    exact no (fun z => by rw [hy] at z; exact absurd z.2.1 (by decide))
  by_cases q : x = y
  · simp only [w_c_swap_0, w_c_swap_1, w_c_swap_4, w_c_swap_5, w_c_swap_8, w_c_swap_11, w_c_swap_12, w_c_swap_15, w_c_swap_16, w_c_swap_19, w_c_swap_22, w_c_swap_23, w_c_swap_24, w_c_swap_27, w_c_swap_29, w_c_swap_30, w_c_swap_31, w_c_swap_34, w_c_swap_35, w_c_swap_36, w_c_swap_39, w_c_swap_42, w_c_swap_44, w_c_swap_45, w_c_swap_46, w_c_swap_49, w_c_swap_50, w_c_swap_53, w_c_swap_54, w_c_swap_57, w_c_swap_58, w_c_swap_59, w_c_swap_62, w_c_swap_65, w_c_swap_66, w_c_swap_69, w_c_swap_70, w_c_swap_71, w_c_swap_72, w_c_swap_75, w_c_swap_76, w_c_swap_79, w_c_swap_82, w_c_swap_85, w_c_swap_86, w_c_swap_89, w_c_swap_90, w_c_swap_91, w_c_swap_94, w_c_swap_95, xc_8, xc_1, xc_5, cl_15, xc_3, cl_7, e_p_hasThing hp c2.1, hx, hy, eq_true q, cl_0, cl_1, cl_3, cl_5, cl_7, cl_12, cl_15, cl_21, cl_29, zpp hp, i10, Bool.false_eq_true, eq_self, true_or, or_true, if_true, if_false, gv_int, gv_ref, av_some, al_some, un_int, un_ref, un_mk, ok4_0, ok4_1, ok4_2, ok4_3, ok4_4, Kn_some, Kn_none, true_and, and_true]
    exact no (fun z => z.2.2 q)
  have hz : inb x N = true ∧ inb y N = true ∧ ¬ x = y := ⟨hx, hy, q⟩
  obtain ⟨t, t1, rfl⟩ := inb_of hx (by omega)
  obtain ⟨v, v1, rfl⟩ := inb_of hy (by omega)
  have n1 := neg_m1 d2 (show t < 7 by omega) m5
  have n2 := neg_m1 d2 (show v < 7 by omega) m5
  have ec : csw (M 65 t) (M 65 v) = decide (¬ M 65 t = -1 ∧ ¬ M 65 v = -1 ∧ ¬ M 65 t = M 65 v) := by
    unfold csw
    rw [decide_eq_decide, n1, n2]
  by_cases r : ¬ M 65 t = -1 ∧ ¬ M 65 v = -1 ∧ ¬ M 65 t = M 65 v
  · have ag := fun (Q : Po) => e_t_agree (A := A) (B := B) (Q := Q) hp isHH_3 c2 hv t1 v1
    rw [show M (3 + 1) = M 65 from d1] at ag
    have go : ∀ r : Int32, r = (if agP (wT M) (M 65) t v then 1 else 0) → WP 116 70 [.ref 0, .int (nI t), .int (nI v), mk] [.int r] (shw A B) (0, 0) M (JQ 183 [.ref 58, .int (nI t), .int (nI v), mk]) := by
      intro r hr
      simp only [w_c_swap_0, w_c_swap_1, w_c_swap_4, w_c_swap_5, w_c_swap_8, w_c_swap_11, w_c_swap_12, w_c_swap_15, w_c_swap_16, w_c_swap_19, w_c_swap_22, w_c_swap_23, w_c_swap_24, w_c_swap_27, w_c_swap_29, w_c_swap_30, w_c_swap_31, w_c_swap_34, w_c_swap_35, w_c_swap_36, w_c_swap_39, w_c_swap_42, w_c_swap_44, w_c_swap_45, w_c_swap_46, w_c_swap_49, w_c_swap_50, w_c_swap_53, w_c_swap_54, w_c_swap_57, w_c_swap_58, w_c_swap_59, w_c_swap_62, w_c_swap_65, w_c_swap_66, w_c_swap_69, w_c_swap_70, w_c_swap_71, w_c_swap_72, w_c_swap_75, w_c_swap_76, w_c_swap_79, w_c_swap_82, w_c_swap_85, w_c_swap_86, w_c_swap_89, w_c_swap_90, w_c_swap_91, w_c_swap_94, w_c_swap_95, xc_8, xc_1, xc_5, cl_15, xc_3, cl_7, cl_0, cl_1, cl_3, cl_5, cl_7, cl_12, cl_15, cl_21, cl_29, zpp hp, e_h_packed isHH_3, e_z_rem u2 u1, e_h_exchange isHH_3 (show t < 7 by omega) (show v < 7 by omega), show (3 + 1 : Nat) = 4 from rfl, i10, Bool.false_eq_true, eq_self, true_or, or_true, if_true, if_false, gv_int, gv_ref, av_some, al_some, un_int, un_ref, un_mk, ok4_0, ok4_1, ok4_2, ok4_3, ok4_4, Kn_some, Kn_none, true_and, and_true]
      refine JQ.mk ?_
      refine Eq.mpr (e_m_swap (u := u) c1 d2 u3 u1) ?_
      rw [nI_clamp (show t < 2 ^ 31 by omega), nI_clamp (show v < 2 ^ 31 by omega)]
      refine ite_t hz (ite_t (show csw (M 65 t) (M 65 v) = true by rw [ec]; exact decide_eq_true (by assumption)) ?_)
      refine ⟨?_, rfl, K, C, N, h0, h1.fr h0 ?_ ⟨rfl, rfl, rfl⟩ ⟨rfl, rfl, rfl, rfl, rfl, rfl⟩, ?_, h3, ?_, h5, h6, h7, h8, h9, h10⟩
      · rw [hr]; rfl
      · intro c c1 c2
        simp only [RM, up_c, st_at]
        repeat rw [if_neg (by omega)]
      · show JH (upd (upd (M 4) t (M 4 v)) v (M 4 t)) (M 17) (swp (M 65) t v) C
        rw [d1]
        refine JH_new h2 (HV_swp d2 (by omega) (by omega)) (fun j hj => ?_)
        exact (swp_far (show t < 7 by omega) (show v < 7 by omega) hj).trans (d4 j hj)
      · show JZ (nI (rmU u)) (z8 (M 8) u (pkE (M 4) 7)) (nI (rmU u)) (rmF (M 73) (M 65) u) C
        rw [d1]
        exact JZ_rem u1 u4 d2
    cases hg : agP (wT M) (M 65) t v
    · rw [hg] at go
      simp only [w_c_swap_0, w_c_swap_1, w_c_swap_4, w_c_swap_5, w_c_swap_8, w_c_swap_11, w_c_swap_12, w_c_swap_15, w_c_swap_16, w_c_swap_19, w_c_swap_22, w_c_swap_23, w_c_swap_24, w_c_swap_27, w_c_swap_29, w_c_swap_30, w_c_swap_31, w_c_swap_34, w_c_swap_35, w_c_swap_36, w_c_swap_39, w_c_swap_42, w_c_swap_44, w_c_swap_45, w_c_swap_46, w_c_swap_49, w_c_swap_50, w_c_swap_53, w_c_swap_54, w_c_swap_57, w_c_swap_58, w_c_swap_59, w_c_swap_62, w_c_swap_65, w_c_swap_66, w_c_swap_69, w_c_swap_71, w_c_swap_72, w_c_swap_75, w_c_swap_76, w_c_swap_79, w_c_swap_82, w_c_swap_85, w_c_swap_86, w_c_swap_89, w_c_swap_90, w_c_swap_91, w_c_swap_94, w_c_swap_95, xc_8, xc_1, xc_5, cl_15, xc_3, cl_7, e_p_hasThing hp c2.1, hx, hy, eq_false q, cl_0, cl_1, cl_3, cl_5, cl_7, cl_12, cl_15, cl_21, cl_29, zpp hp, e_h_canExchange isHH_3 (show t < 7 by omega) (show v < 7 by omega), show (3 + 1 : Nat) = 4 from rfl, d1, eq_true r, ag, hg, i10, Bool.false_eq_true, eq_self, true_or, or_true, if_true, if_false, gv_int, gv_ref, av_some, al_some, un_int, un_ref, un_mk, ok4_0, ok4_1, ok4_2, ok4_3, ok4_4, Kn_some, Kn_none, true_and, and_true]
      exact go 0 rfl
    · rw [hg] at go
      simp only [w_c_swap_0, w_c_swap_1, w_c_swap_4, w_c_swap_5, w_c_swap_8, w_c_swap_11, w_c_swap_12, w_c_swap_15, w_c_swap_16, w_c_swap_19, w_c_swap_22, w_c_swap_23, w_c_swap_24, w_c_swap_27, w_c_swap_29, w_c_swap_30, w_c_swap_31, w_c_swap_34, w_c_swap_35, w_c_swap_36, w_c_swap_39, w_c_swap_42, w_c_swap_44, w_c_swap_45, w_c_swap_46, w_c_swap_49, w_c_swap_50, w_c_swap_53, w_c_swap_54, w_c_swap_57, w_c_swap_58, w_c_swap_59, w_c_swap_62, w_c_swap_65, w_c_swap_66, w_c_swap_69, w_c_swap_71, w_c_swap_72, w_c_swap_75, w_c_swap_76, w_c_swap_79, w_c_swap_82, w_c_swap_85, w_c_swap_86, w_c_swap_89, w_c_swap_90, w_c_swap_91, w_c_swap_94, w_c_swap_95, xc_8, xc_1, xc_5, cl_15, xc_3, cl_7, e_p_hasThing hp c2.1, hx, hy, eq_false q, cl_0, cl_1, cl_3, cl_5, cl_7, cl_12, cl_15, cl_21, cl_29, zpp hp, e_h_canExchange isHH_3 (show t < 7 by omega) (show v < 7 by omega), show (3 + 1 : Nat) = 4 from rfl, d1, eq_true r, ag, hg, i10, Bool.false_eq_true, eq_self, true_or, or_true, if_true, if_false, gv_int, gv_ref, av_some, al_some, un_int, un_ref, un_mk, ok4_0, ok4_1, ok4_2, ok4_3, ok4_4, Kn_some, Kn_none, true_and, and_true]
      exact go 1 rfl
  · simp only [w_c_swap_0, w_c_swap_1, w_c_swap_4, w_c_swap_5, w_c_swap_8, w_c_swap_11, w_c_swap_12, w_c_swap_15, w_c_swap_16, w_c_swap_19, w_c_swap_22, w_c_swap_23, w_c_swap_24, w_c_swap_27, w_c_swap_29, w_c_swap_30, w_c_swap_31, w_c_swap_34, w_c_swap_35, w_c_swap_36, w_c_swap_39, w_c_swap_42, w_c_swap_44, w_c_swap_45, w_c_swap_46, w_c_swap_49, w_c_swap_50, w_c_swap_53, w_c_swap_54, w_c_swap_57, w_c_swap_58, w_c_swap_59, w_c_swap_62, w_c_swap_65, w_c_swap_66, w_c_swap_69, w_c_swap_71, w_c_swap_72, w_c_swap_75, w_c_swap_76, w_c_swap_79, w_c_swap_82, w_c_swap_85, w_c_swap_86, w_c_swap_89, w_c_swap_90, w_c_swap_91, w_c_swap_94, w_c_swap_95, xc_8, xc_1, xc_5, cl_15, xc_3, cl_7, e_p_hasThing hp c2.1, hx, hy, eq_false q, cl_0, cl_1, cl_3, cl_5, cl_7, cl_12, cl_15, cl_21, cl_29, zpp hp, e_h_canExchange isHH_3 (show t < 7 by omega) (show v < 7 by omega), show (3 + 1 : Nat) = 4 from rfl, d1, eq_false r, i10, Bool.false_eq_true, eq_self, true_or, or_true, if_true, if_false, gv_int, gv_ref, av_some, al_some, un_int, un_ref, un_mk, ok4_0, ok4_1, ok4_2, ok4_3, ok4_4, Kn_some, Kn_none, true_and, and_true]
    refine JQ.mk ?_
    rw [e_m_swap c1 d2 u3 u1, if_pos hz, nI_clamp (show t < 2 ^ 31 by omega), nI_clamp (show v < 2 ^ 31 by omega), if_neg (show ¬ csw (M 65 t) (M 65 v) = true by rw [ec, decide_eq_false r]; decide)]
    exact ⟨rfl, rfl, hj⟩
theorem j_undo {A B : Nat} {M : Mm} (hj : JJ M A B) : WP 119 0 [.ref 0] [] (shw A B) (0, 0) M (JQ 187 [.ref 58, mk]) := by
  obtain ⟨K, C, N, h⟩ := id hj
  obtain ⟨h0, h1, h2, h3, h4, h5, h6, h7, h8, h9, h10⟩ := id h
  have hp := h0.pp
  obtain ⟨c1, c2, c3, c4, c5, c6, c7, c8⟩ := id h1
  obtain ⟨d1, d2, d3, d4⟩ := id h2
  obtain ⟨⟨m1, m2, m3⟩, m4, m5, m6⟩ := id c2.1
  have hv : HV (M 4) C := by rw [d1]; exact d2
  obtain ⟨u, u1, u2, u3, u4⟩ := id h4
  by_cases q : u = 0
  · simp only [w_c_undo_0, w_c_undo_1, w_c_undo_4, w_c_undo_7, w_c_undo_10, w_c_undo_12, w_c_undo_13, w_c_undo_14, w_c_undo_17, w_c_undo_18, w_c_undo_21, w_c_undo_24, w_c_undo_27, w_c_undo_28, w_c_undo_31, w_c_undo_34, xc_3, cl_7, xc_1, e_z_size, u2, q, show (nI 0 = 0) = True by decide, cl_0, cl_1, cl_3, cl_5, cl_7, cl_12, cl_15, cl_21, cl_29, zpp hp, i10, Bool.false_eq_true, eq_self, true_or, or_true, if_true, if_false, gv_int, gv_ref, av_some, al_some, un_int, un_ref, un_mk, ok4_0, ok4_1, ok4_2, ok4_3, ok4_4, Kn_some, Kn_none, true_and, and_true]
    refine JQ.mk ?_
    rw [e_m_undo u3 u1, if_pos q]
    exact ⟨rfl, rfl, hj⟩
  · obtain ⟨v, rfl⟩ : ∃ v, u = v + 1 := ⟨u - 1, by omega⟩
    have g0 : (nI (v + 1) = 0) = False := eq_false (nI_ne0 (by omega) (by omega))
    have hu := u4 v (by omega)
    simp only [w_c_undo_0, w_c_undo_1, w_c_undo_4, w_c_undo_7, w_c_undo_10, w_c_undo_12, w_c_undo_13, w_c_undo_14, w_c_undo_17, w_c_undo_18, w_c_undo_21, w_c_undo_24, w_c_undo_27, w_c_undo_28, w_c_undo_31, w_c_undo_34, xc_3, cl_7, xc_1, e_z_size, u2, g0, e_z_takeLatest u2 (show v < 20 by omega), e_h_unpack isHH_3, show (3 + 1 : Nat) = 4 from rfl, show ∀ x f, st (up M 7 4 x) 4 f 7 4 = x from fun _ _ => rfl, hu.1, upF_pk hu.2 m5, cl_0, cl_1, cl_3, cl_5, cl_7, cl_12, cl_15, cl_21, cl_29, zpp hp, i10, Bool.false_eq_true, eq_self, true_or, or_true, if_true, if_false, gv_int, gv_ref, av_some, al_some, un_int, un_ref, un_mk, ok4_0, ok4_1, ok4_2, ok4_3, ok4_4, Kn_some, Kn_none, true_and, and_true]
    refine JQ.mk ?_
    refine Eq.mpr (e_m_undo (u := v + 1) u3 u1) (ite_f q ?_)
    rw [Nat.add_sub_cancel]
    refine ⟨rfl, rfl, K, C, N, h0, h1.fr h0 ?_ ⟨rfl, rfl, rfl⟩ ⟨rfl, rfl, rfl, rfl, rfl, rfl⟩, ?_, h3, ⟨v, by omega, rfl, rfl, fun j hj => u4 j (by omega)⟩, h5, h6, h7, h8, h9, h10⟩
    · intro c c1 c2
      simp only [up_c, st_at]
      repeat rw [if_neg (by omega)]
    · show JH (fun j => if j < 7 then M 73 (7 * v + j) else M 4 j) (M 17) (fun j => if j < 7 then M 73 (7 * v + j) else M 65 j) C
      rw [d1]
      exact JH_new h2 (HV_congr (fun t ht => if_pos ht) hu.2) (fun j hj => (if_neg hj).trans (d4 j hj))
