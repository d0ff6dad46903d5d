/-! the component: all ways, one behind another -/
theorem e_w_countOf {A B p K C N : Nat} {M : Mm} {Q : Po} (hp : isPP p) (h : CP M p K C N) : WP 90 0 [.ref p, mk, mk] [] (shw A B) (0, 0) M Q = Q (some (.int (nI (if C = 0 then 0 else C ^ N)))) (shw A B) M := by
  obtain ⟨⟨h1, h2, h3⟩, h4, h5, h6⟩ := h
  by_cases c0 : C = 0
  · subst c0
    simp only [w_w_countOf_0, w_w_countOf_1, w_w_countOf_4, w_w_countOf_7, w_w_countOf_8, w_w_countOf_9, w_w_countOf_10, w_w_countOf_11, w_w_countOf_12, w_w_countOf_14, w_w_countOf_15, w_w_countOf_18, w_w_countOf_21, w_w_countOf_22, w_w_countOf_23, w_w_countOf_26, w_w_countOf_27, w_w_countOf_28, w_w_countOf_31, w_w_countOf_34, w_w_countOf_35, xpp_1 hp, h2, show (nI 0 = 0) = True by decide, i10, Bool.false_eq_true, eq_self, true_or, or_true, if_true, if_false, gv_int, gv_ref, av_some, al_some, un_int, un_ref, un_mk, ok4_0, ok4_1, ok4_2, ok4_3, ok4_4, Kn_some, Kn_none, true_and, and_true]
    rfl
  · rw [if_neg c0]
    refine WP.is (fun Q hQ => ?_)
    have g0 : (nI C = 0) = False := eq_false (nI_ne0 (by omega) (by omega))
    simp only [w_w_countOf_0, w_w_countOf_1, w_w_countOf_4, w_w_countOf_7, w_w_countOf_8, w_w_countOf_9, w_w_countOf_10, w_w_countOf_11, w_w_countOf_12, w_w_countOf_14, w_w_countOf_15, w_w_countOf_18, w_w_countOf_21, w_w_countOf_22, w_w_countOf_23, w_w_countOf_26, w_w_countOf_27, w_w_countOf_28, w_w_countOf_31, w_w_countOf_34, w_w_countOf_35, xpp_1 hp, h2, g0, i10, Bool.false_eq_true, eq_self, true_or, or_true, if_true, if_false, gv_int, gv_ref, av_some, al_some, un_int, un_ref, un_mk, ok4_0, ok4_1, ok4_2, ok4_3, ok4_4, Kn_some, Kn_none, true_and, and_true]
    refine for_up (n := N) (P := fun k => WP 90 13 [.ref p, .int (nI (C ^ k)), .int (nI k)] [] (shw A B) (0, 0) M Q) ?_ ?_
    · rw [w_w_countOf_13]
      simp only [w_w_countOf_0, w_w_countOf_1, w_w_countOf_4, w_w_countOf_7, w_w_countOf_8, w_w_countOf_9, w_w_countOf_10, w_w_countOf_11, w_w_countOf_12, w_w_countOf_14, w_w_countOf_15, w_w_countOf_18, w_w_countOf_21, w_w_countOf_22, w_w_countOf_23, w_w_countOf_26, w_w_countOf_27, w_w_countOf_28, w_w_countOf_31, w_w_countOf_34, w_w_countOf_35, xpp_2 hp, h3, lt_irr, i10, Bool.false_eq_true, eq_self, true_or, or_true, if_true, if_false, gv_int, gv_ref, av_some, al_some, un_int, un_ref, un_mk, ok4_0, ok4_1, ok4_2, ok4_3, ok4_4, Kn_some, Kn_none, true_and, and_true]
      exact hQ
    · intro k hk ih
      have g1 : nI k < nI N := nI_lt hk (by omega)
      rw [w_w_countOf_13]
      simp only [w_w_countOf_0, w_w_countOf_1, w_w_countOf_4, w_w_countOf_7, w_w_countOf_8, w_w_countOf_9, w_w_countOf_10, w_w_countOf_11, w_w_countOf_12, w_w_countOf_14, w_w_countOf_15, w_w_countOf_18, w_w_countOf_21, w_w_countOf_22, w_w_countOf_23, w_w_countOf_26, w_w_countOf_27, w_w_countOf_28, w_w_countOf_31, w_w_countOf_34, w_w_countOf_35, xpp_1 hp, xpp_2 hp, h3, h2, g1, nI_1, pk_mul, i10, Bool.false_eq_true, eq_self, true_or, or_true, if_true, if_false, gv_int, gv_ref, av_some, al_some, un_int, un_ref, un_mk, ok4_0, ok4_1, ok4_2, ok4_3, ok4_4, Kn_some, Kn_none, true_and, and_true]
      rw [Nat.pow_succ] at ih
      exact ih
theorem div_next {m X : Nat} (hX : 0 < X) (h : (m + 1) % X = 0) : (m + 1) / X = m / X + 1 := by
  have e := Nat.div_add_mod (m + 1) X
  rw [h, Nat.add_zero] at e
  generalize (m + 1) / X = q at e ⊢
  cases q with
  | zero => rw [Nat.mul_zero] at e; omega
  | succ q =>
    rw [Nat.mul_succ] at e
    have : m / X = q := Nat.div_eq_of_lt_le (by rw [Nat.mul_comm]; omega) (by rw [Nat.succ_mul, Nat.mul_comm]; omega)
    rw [this]
theorem div_same {a C : Nat} (hC : 0 < C) (h : a % C + 1 < C) : (a + 1) / C = a / C := by
  have e := Nat.div_add_mod a C
  exact Nat.div_eq_of_lt_le (by rw [Nat.mul_comm]; omega) (by rw [Nat.succ_mul, Nat.mul_comm]; omega)
theorem dg_next {C N m t : Nat} (hC : 0 < C) (h : (m + 1) % C ^ (N - 1 - t) = 0) : dg C N (m + 1) t = if dg C N m t + 1 < C then dg C N m t + 1 else 0 := by
  unfold dg
  rw [div_next (Nat.pow_pos hC) h, mod_step hC]
theorem dg_same {C N m t j : Nat} (hC : 0 < C) (h : (m + 1) % C ^ (N - 1 - t) = 0) (ht : t < N) (hj : j < t) (hd : dg C N m t + 1 < C) : dg C N (m + 1) j = dg C N m j := by
  unfold dg at hd ⊢
  rw [show N - 1 - j = N - 1 - t + (1 + (t - j - 1)) by omega, Nat.pow_add, Nat.pow_add, Nat.pow_one, ← Nat.div_div_eq_div_mul, ← Nat.div_div_eq_div_mul, ← Nat.div_div_eq_div_mul, ← Nat.div_div_eq_div_mul, div_next (Nat.pow_pos hC) h, div_same hC hd]
theorem dg_carry {C N m t : Nat} (hC : 0 < C) (h : (m + 1) % C ^ (N - 1 - t) = 0) (ht : t < N) (hd : ¬ dg C N m t + 1 < C) : (m + 1) % C ^ (N - t) = 0 := by
  have e1 := dg_next (N := N) (t := t) hC h
  rw [if_neg hd] at e1
  unfold dg at e1
  rw [show N - t = N - 1 - t + 1 by omega, Nat.pow_succ, Nat.mod_mul, h, e1]; rfl
theorem wo_s (W : Nat → Nat → Int32) (h : Nat → Int32) (n i : Nat) (o : Int32) : wo W h (n + 1) i o = wo W h n i o + (if h n = o then W i n else 0) := rfl
theorem wo_congr {W : Nat → Nat → Int32} {h h' : Nat → Int32} {i : Nat} {o : Int32} : ∀ n, (∀ t, t < n → h t = h' t) → wo W h n i o = wo W h' n i o
  | 0, _ => rfl
  | n + 1, hh => by rw [wo_s, wo_s, wo_congr n (fun t ht => hh t (by omega)), hh n (by omega)]
theorem wo_upd {W : Nat → Nat → Int32} {h : Nat → Int32} {i t : Nat} {o x : Int32} : ∀ n, t < n → wo W (upd h t x) n i o + (if h t = o then W i t else 0) = wo W h n i o + (if x = o then W i t else 0)
  | 0, ht => absurd ht (Nat.not_lt_zero _)
  | n + 1, ht => by
    rw [wo_s, wo_s]
    by_cases q : t = n
    · subst q
      rw [wo_congr (h' := h) t (fun j hj => by unfold upd; rw [if_neg (by omega)]), show upd h t x t = x from by unfold upd; rw [if_pos rfl], i_rc]
    · rw [show upd h t x n = h n from by unfold upd; rw [if_neg (fun e => q e.symm)], i_rc, wo_upd n (by omega), i_rc]
theorem wo_move {W : Nat → Nat → Int32} {h : Nat → Int32} {i t n : Nat} {o x : Int32} (ht : t < n) : wo W (upd h t x) n i o = wo W h n i o + (if h t = o then -1 * W i t else 0) + (if x = o then 1 * W i t else 0) := by
  have e := wo_upd (W := W) (h := h) (i := i) (o := o) (x := x) n ht
  have e2 : ∀ a b c d : Int32, a + b = c + d → a = c + (-1 * b) + (1 * d) := by
    intro a b c d h
    rw [Int32.one_mul, i_rc, ← h, Int32.neg_mul, Int32.one_mul, Int32.add_assoc, Int32.add_right_neg, Int32.add_zero]
  have e3 := e2 _ _ _ _ e
  rw [e3]
  by_cases q1 : h t = o <;> by_cases q2 : x = o <;> simp [q1, q2]
/-- only what the ways write on has changed -/
def FW (o : Nat) (M M' : Mm) : Prop := ∀ c, ¬ c = o + 1 + 1 → ¬ c = o + 3 + 1 → M' c = M c
theorem W_ne {o p : Nat} (ho : isWW o) (hp : isPP p) : ¬ (p ≤ o + 1 + 1 ∧ o + 1 + 1 ≤ p + 9) ∧ ¬ (p ≤ o + 3 + 1 ∧ o + 3 + 1 ≤ p + 9) := by
  unfold isPP at hp; unfold isWW at ho; omega
theorem FW.cq {M M' : Mm} {o p K C N : Nat} {kd : Nat → Nat} {W : Nat → Nat → Int32} {lk : Nat → Int32} (h : FW o M M') (ho : isWW o) (hp : isPP p) (hq : CQ M p K C N kd W lk) : CQ M' p K C N kd W lk :=
  hq.fr (fun c c1 c2 => h c (by have := W_ne ho hp; omega) (by have := W_ne ho hp; omega))
/-- the ways stand at way m -/
def WS (M : Mm) (o : Nat) (W : Nat → Nat → Int32) (C N m : Nat) : Prop := (∀ t, t < N → M (o + 1 + 1) t = nI (dg C N m t)) ∧ WOk M (o + 3) W (M (o + 1 + 1)) N C
theorem dg_lt {C N m t : Nat} (hC : 0 < C) : dg C N m t < C := Nat.mod_lt _ hC
theorem WOk_upd {M : Mm} {o C N t old x kk : Nat} {W : Nat → Nat → Int32} {h P : Nat → Int32} (hC : C ≤ 4) (ht : t < N) (hW : ∀ i, i < C → P (i * 5 + kk) = W i t) (ho : old < C) (hx : x < C) (hold : h t = nI old) (hw : WOk M o W h N C) (i j : Nat) (hi : i < C) (hj : j < C) : cgF (cgF (M (o + 1)) old (fun i => -1 * P (i * 5 + kk)) C) x (fun i => 1 * P (i * 5 + kk)) C (i * 4 + j) = wo W (upd h t (nI x)) N i (nI j) := by
  rw [wo_move ht, ← hw i j hi hj, cgF_at _ _ _ (by omega) _ _ _ (by omega), cgF_at _ _ _ (by omega) _ _ _ (by omega), hold, hW i hi]
  have e1 : (nI old = nI j) ↔ j = old := ⟨fun e => (nI_iq (by omega) (by omega) e).symm, fun e => by rw [e]⟩
  have e2 : (nI x = nI j) ↔ j = x := ⟨fun e => (nI_iq (by omega) (by omega) e).symm, fun e => by rw [e]⟩
  rcases tf (j = old) with q1 | q1 <;> rcases tf (j = x) with q2 | q2 <;> simp only [e1, e2, q1, q2, hi, true_and, and_self, and_false, if_true, if_false, Int32.add_zero]
theorem c_advance {A B o p K C N m : Nat} {M : Mm} {Q : Po} {kd : Nat → Nat} {W : Nat → Nat → Int32} {lk : Nat → Int32} (ho : isWW o) (hp : isPP p) (hq : CQ M p K C N kd W lk) (hC : 0 < C) (hw : WS M o W C N m) (hQ : ∀ M', FW o M M' → WS M' o W C N (m + 1) → Q none (shw A B) M') : WP 92 0 [.ref o, .ref p, mk, mk, mk] [] (shw A B) (0, 0) M Q := by
  obtain ⟨⟨h1, h2, h3⟩, h4, h5, h6⟩ := id hq.1
  have key : ∀ k, k ≤ N → ∀ M', FW o M M' → (∀ j, j < N → M' (o + 1 + 1) j = nI (if k ≤ j then dg C N (m + 1) j else dg C N m j)) → WOk M' (o + 3) W (M' (o + 1 + 1)) N C → (m + 1) % C ^ (N - k) = 0 → ∀ x : Int32, (k = 0 → x = -1) → (∀ k', k = k' + 1 → x = nI k') → ∀ j3 j4, WP 92 7 [.ref o, .ref p, .int x, j3, j4] [] (shw A B) (0, 0) M' Q := by
    intro k
    induction k with
    | zero =>
      intro hk M' hF hd hw hm x x0 _ j3 j4
      rw [x0 rfl, w_w_advance_7]
      simp only [w_w_advance_0, w_w_advance_1, w_w_advance_4, w_w_advance_5, w_w_advance_6, w_w_advance_8, w_w_advance_11, w_w_advance_12, w_w_advance_15, w_w_advance_16, w_w_advance_19, w_w_advance_20, w_w_advance_21, w_w_advance_22, w_w_advance_23, w_w_advance_24, w_w_advance_27, w_w_advance_30, w_w_advance_31, w_w_advance_32, w_w_advance_33, w_w_advance_36, w_w_advance_37, w_w_advance_39, w_w_advance_40, w_w_advance_43, w_w_advance_44, w_w_advance_45, w_w_advance_48, w_w_advance_49, w_w_advance_50, w_w_advance_51, w_w_advance_52, w_w_advance_55, w_w_advance_56, w_w_advance_59, w_w_advance_60, w_w_advance_61, w_w_advance_64, w_w_advance_65, w_w_advance_66, w_w_advance_68, w_w_advance_69, w_w_advance_72, w_w_advance_73, w_w_advance_76, w_w_advance_77, w_w_advance_79, w_w_advance_82, w_w_advance_84, w_w_advance_87, w_w_advance_88, w_w_advance_91, w_w_advance_94, (show ((-1 : Int32) < 0) = True by decide), i10, Bool.false_eq_true, eq_self, true_or, or_true, if_true, if_false, gv_int, gv_ref, av_some, al_some, un_int, un_ref, un_mk, ok4_0, ok4_1, ok4_2, ok4_3, ok4_4, Kn_some, Kn_none, true_and, and_true]
      exact hQ M' hF ⟨fun t ht => by rw [hd t ht, if_pos (Nat.zero_le _)], hw⟩
    | succ t ih =>
      intro hk M' hF hd hw hm x _ x1 j3 j4
      rw [show N - (t + 1) = N - 1 - t by omega] at hm
      have hq' := hF.cq ho hp hq
      obtain ⟨⟨e1, e2, e3⟩, -, -, -⟩ := id hq'.1
      have hkt := hq'.2.1 t (by omega)
      have hWt := hq'.2.2.1
      have hold := hd t (by omega)
      rw [if_neg (by omega)] at hold
      have hl := dg_lt (N := N) (m := m) (t := t) hC
      have hn := dg_next (N := N) (t := t) hC hm
      have g1 : (nI t < 0) = False := eq_false (nI_pos (by omega))
      have g2 : vp_in (nI t) 7 := vp_in_nI (by omega) (by decide)
      have n1 : inb (nI (dg C N m t)) C = true := inb_nI hl (by omega)
      have Wne := W_ne ho hp
      have hcp : ∀ f, CP (st M' (o + 3 + 1) f) p K C N := fun f => (hq'.st Wne.2).1
      have s0 : ∀ f, st M' (o + 3 + 1) f p = M' p := fun f => if_neg (by omega)
      have s9 : ∀ f, st M' (o + 3 + 1) f (p + 9) = M' (p + 9) := fun f => if_neg (by omega)
      have s6 : ∀ f, st M' (o + 3 + 1) f (p + 6) = M' (p + 6) := fun f => if_neg (by omega)
      have s4 : ∀ f, st M' (o + 3 + 1) f (o + 3 + 1) = f := fun f => if_pos rfl
      rw [x1 t rfl, w_w_advance_7]
      -- what comes of the step
      have goOn : ∀ xx, dg C N (m + 1) t = xx → xx < C → ∀ f, f = cgF (cgF (M' (o + 3 + 1)) (dg C N m t) (fun i => -1 * M' (p + 6) (i * 5 + kd t)) C) xx (fun i => 1 * M' (p + 6) (i * 5 + kd t)) C → (FW o M (up (st M' (o + 3 + 1) f) (o + 1 + 1) t (nI xx)) ∧ (∀ j, j < N → up (st M' (o + 3 + 1) f) (o + 1 + 1) t (nI xx) (o + 1 + 1) j = nI (if t ≤ j then dg C N (m + 1) j else dg C N m j)) ∧ WOk (up (st M' (o + 3 + 1) f) (o + 1 + 1) t (nI xx)) (o + 3) W (up (st M' (o + 3 + 1) f) (o + 1 + 1) t (nI xx) (o + 1 + 1)) N C) := by
        intro xx hxx hxC f hf
        have u2 : up (st M' (o + 3 + 1) f) (o + 1 + 1) t (nI xx) (o + 1 + 1) = upd (M' (o + 1 + 1)) t (nI xx) := by
          rw [up_c, if_pos rfl, st_at, if_neg (by omega)]
        refine ⟨fun c c1 c2 => ?_, fun j hj => ?_, fun i j hi hj => ?_⟩
        · rw [up_c, if_neg c1, st_at, if_neg c2]; exact hF c c1 c2
        · rw [u2, upd_at]
          by_cases q : j = t
          · rw [if_pos q, if_pos (by omega), q, hxx]
          · rw [if_neg q, hd j hj]
            by_cases r : t + 1 ≤ j
            · rw [if_pos r, if_pos (by omega)]
            · rw [if_neg r, if_neg (by omega)]
        · rw [u2, up_c, if_neg (by omega), st_at, if_pos rfl, hf]
          exact WOk_upd (o := o + 3) h5 (by omega) (fun i hi => hWt i t hi (by omega)) hl hxC hold hw i j hi hj
      by_cases r : dg C N m t + 1 < C
      · rw [if_pos r] at hn
        have g3 : nI (dg C N m t + 1) < nI C := nI_lt r (by omega)
        have n2 : inb (nI (dg C N m t + 1)) C = true := inb_nI r (by omega)
        have n0 : (nI (dg C N m t + 1) = 0) = False := eq_false (nI_ne0 (by omega) (by omega))
        obtain ⟨a1, a2, a3⟩ := goOn (dg C N m t + 1) hn r _ rfl
        simp only [w_w_advance_0, w_w_advance_1, w_w_advance_4, w_w_advance_5, w_w_advance_6, w_w_advance_8, w_w_advance_11, w_w_advance_12, w_w_advance_15, w_w_advance_16, w_w_advance_19, w_w_advance_20, w_w_advance_21, w_w_advance_22, w_w_advance_23, w_w_advance_24, w_w_advance_27, w_w_advance_30, w_w_advance_31, w_w_advance_32, w_w_advance_33, w_w_advance_36, w_w_advance_37, w_w_advance_39, w_w_advance_40, w_w_advance_43, w_w_advance_44, w_w_advance_45, w_w_advance_48, w_w_advance_49, w_w_advance_50, w_w_advance_51, w_w_advance_52, w_w_advance_55, w_w_advance_56, w_w_advance_59, w_w_advance_60, w_w_advance_61, w_w_advance_64, w_w_advance_65, w_w_advance_66, w_w_advance_68, w_w_advance_69, w_w_advance_72, w_w_advance_73, w_w_advance_76, w_w_advance_77, w_w_advance_79, w_w_advance_82, w_w_advance_84, w_w_advance_87, w_w_advance_88, w_w_advance_91, w_w_advance_94, g1, g2, xww_0 ho, xww_1 ho, e_h_holderOf (sww_1 ho) (show t < 7 by omega), hold, zhh (sww_1 ho), xpp_1 hp, e2, nI_1, g3, xpp_12 hp, ypp_9 hp, nI_clamp (show t < 2 ^ 31 by omega), hkt.1, e_v_change (sww_3 ho) hp hq'.1 hkt.2, zvv (sww_3 ho), n1, n2, nI_clamp (show dg C N m t < 2 ^ 31 by omega), nI_clamp (show dg C N m t + 1 < 2 ^ 31 by omega), s9, s6, s4, e_v_change (sww_3 ho) hp (hcp _) hkt.2, st_st, e_h_put (sww_1 ho) (show t < 7 by omega), n0, i10, Bool.false_eq_true, eq_self, true_or, or_true, if_true, if_false, gv_int, gv_ref, av_some, al_some, un_int, un_ref, un_mk, ok4_0, ok4_1, ok4_2, ok4_3, ok4_4, Kn_some, Kn_none, true_and, and_true]
        refine hQ _ a1 ⟨fun j hj => ?_, a3⟩
        rw [a2 j hj]
        by_cases q : t ≤ j
        · rw [if_pos q]
        · rw [if_neg q, dg_same hC hm (by omega) (show j < t by omega) r]
      · rw [if_neg r] at hn
        have g3 : (nI (dg C N m t + 1) < nI C) = False := eq_false (nI_nlt (by omega) (by omega))
        have n2 : inb 0 C = true := inb_nI (j := 0) hC (by omega)
        obtain ⟨a1, a2, a3⟩ := goOn 0 hn hC _ rfl
        simp only [w_w_advance_0, w_w_advance_1, w_w_advance_4, w_w_advance_5, w_w_advance_6, w_w_advance_8, w_w_advance_11, w_w_advance_12, w_w_advance_15, w_w_advance_16, w_w_advance_19, w_w_advance_20, w_w_advance_21, w_w_advance_22, w_w_advance_23, w_w_advance_24, w_w_advance_27, w_w_advance_30, w_w_advance_31, w_w_advance_32, w_w_advance_33, w_w_advance_36, w_w_advance_37, w_w_advance_39, w_w_advance_40, w_w_advance_43, w_w_advance_44, w_w_advance_45, w_w_advance_48, w_w_advance_49, w_w_advance_50, w_w_advance_51, w_w_advance_52, w_w_advance_55, w_w_advance_56, w_w_advance_59, w_w_advance_60, w_w_advance_61, w_w_advance_64, w_w_advance_65, w_w_advance_66, w_w_advance_68, w_w_advance_69, w_w_advance_72, w_w_advance_73, w_w_advance_76, w_w_advance_77, w_w_advance_79, w_w_advance_82, w_w_advance_84, w_w_advance_87, w_w_advance_88, w_w_advance_91, w_w_advance_94, g1, g2, xww_0 ho, xww_1 ho, e_h_holderOf (sww_1 ho) (show t < 7 by omega), hold, zhh (sww_1 ho), xpp_1 hp, e2, nI_1, g3, xpp_12 hp, ypp_9 hp, nI_clamp (show t < 2 ^ 31 by omega), hkt.1, e_v_change (sww_3 ho) hp hq'.1 hkt.2, zvv (sww_3 ho), n1, n2, nI_clamp (show dg C N m t < 2 ^ 31 by omega), show (0 : Int32).toNatClampNeg = 0 from rfl, s9, s6, s4, e_v_change (sww_3 ho) hp (hcp _) hkt.2, st_st, e_h_put (sww_1 ho) (show t < 7 by omega), i10, Bool.false_eq_true, eq_self, true_or, or_true, if_true, if_false, gv_int, gv_ref, av_some, al_some, un_int, un_ref, un_mk, ok4_0, ok4_1, ok4_2, ok4_3, ok4_4, Kn_some, Kn_none, true_and, and_true]
        exact ih (by omega) _ a1 a2 a3 (dg_carry hC hm (by omega) r) _ (fun e => by rw [e]; exact nI_neg1) (fun k' e => by rw [e]; exact nI_m1 k') _ _
  simp only [w_w_advance_0, w_w_advance_1, w_w_advance_4, w_w_advance_5, w_w_advance_6, w_w_advance_8, w_w_advance_11, w_w_advance_12, w_w_advance_15, w_w_advance_16, w_w_advance_19, w_w_advance_20, w_w_advance_21, w_w_advance_22, w_w_advance_23, w_w_advance_24, w_w_advance_27, w_w_advance_30, w_w_advance_31, w_w_advance_32, w_w_advance_33, w_w_advance_36, w_w_advance_37, w_w_advance_39, w_w_advance_40, w_w_advance_43, w_w_advance_44, w_w_advance_45, w_w_advance_48, w_w_advance_49, w_w_advance_50, w_w_advance_51, w_w_advance_52, w_w_advance_55, w_w_advance_56, w_w_advance_59, w_w_advance_60, w_w_advance_61, w_w_advance_64, w_w_advance_65, w_w_advance_66, w_w_advance_68, w_w_advance_69, w_w_advance_72, w_w_advance_73, w_w_advance_76, w_w_advance_77, w_w_advance_79, w_w_advance_82, w_w_advance_84, w_w_advance_87, w_w_advance_88, w_w_advance_91, w_w_advance_94, xpp_2 hp, h3, i10, Bool.false_eq_true, eq_self, true_or, or_true, if_true, if_false, gv_int, gv_ref, av_some, al_some, un_int, un_ref, un_mk, ok4_0, ok4_1, ok4_2, ok4_3, ok4_4, Kn_some, Kn_none, true_and, and_true]
  refine key N (Nat.le_refl N) M (fun _ _ _ => rfl) (fun j hj => by rw [hw.1 j hj, if_neg (by omega)]) hw.2 (by rw [Nat.sub_self, Nat.pow_zero]; exact Nat.mod_one _) (nI N - 1) (fun e => by rw [e]; decide) (fun k' e => by rw [e]; exact nI_pred k') _ _
theorem dg_0 (C N t : Nat) : dg C N 0 t = 0 := by unfold dg; rw [Nat.zero_div, Nat.zero_mod]
theorem c_start {A B o p K C N : Nat} {M : Mm} {Q : Po} {kd : Nat → Nat} {W : Nat → Nat → Int32} {lk : Nat → Int32} (ho : isWW o) (hp : isPP p) (hq : CQ M p K C N kd W lk) (hQ : ∀ M', FW o M M' → (0 < C → WS M' o W C N 0) → Q none (shw A B) M') : WP 91 0 [.ref o, .ref p, mk] [] (shw A B) (0, 0) M Q := by
  obtain ⟨⟨h1, h2, h3⟩, h4, h5, h6⟩ := id hq.1
  have Wne := W_ne ho hp
  have s0 : ∀ f, st M (o + 1 + 1) f p = M p := fun f => if_neg (by omega)
  simp only [w_w_start_0, w_w_start_1, w_w_start_3, w_w_start_4, w_w_start_7, w_w_start_10, w_w_start_11, w_w_start_14, w_w_start_15, w_w_start_16, w_w_start_19, w_w_start_22, w_w_start_25, w_w_start_26, w_w_start_29, w_w_start_30, w_w_start_31, w_w_start_34, w_w_start_37, i10, Bool.false_eq_true, eq_self, true_or, or_true, if_true, if_false, gv_int, gv_ref, av_some, al_some, un_int, un_ref, un_mk, ok4_0, ok4_1, ok4_2, ok4_3, ok4_4, Kn_some, Kn_none, true_and, and_true]
  have := for_up (n := N) (P := fun k => WP 91 2 [.ref o, .ref p, .int (nI k)] [] (shw A B) (0, 0) (st M (o + 1 + 1) (flF 0 k (M (o + 1 + 1)))) Q) ?_ ?_
  · rw [flF_0, st_self] at this
    exact this
  · rw [w_w_start_2]
    have hq' : CQ (st M (o + 1 + 1) (flF 0 N (M (o + 1 + 1)))) p K C N kd W lk := hq.st Wne.1
    have hh : ∀ t, t < N → st M (o + 1 + 1) (flF 0 N (M (o + 1 + 1))) (o + 1 + 1) t = 0 := fun t ht => by rw [st_at, if_pos rfl]; unfold flF; rw [if_pos ht]
    have hF : ∀ f, FW o M (st (st M (o + 1 + 1) (flF 0 N (M (o + 1 + 1)))) (o + 3 + 1) f) := fun f c c1 c2 => by rw [st_at, if_neg c2, st_at, if_neg c1]
    simp only [w_w_start_0, w_w_start_1, w_w_start_3, w_w_start_4, w_w_start_7, w_w_start_10, w_w_start_11, w_w_start_14, w_w_start_15, w_w_start_16, w_w_start_19, w_w_start_22, w_w_start_25, w_w_start_26, w_w_start_29, w_w_start_30, w_w_start_31, w_w_start_34, w_w_start_37, xpp_2 hp, s0, h3, lt_irr, xww_0 ho, xww_1 ho, zvv (sww_3 ho), e_v_count (sww_3 ho) hp (sww_1 ho) hq'.1 hq'.2.1, i10, Bool.false_eq_true, eq_self, true_or, or_true, if_true, if_false, gv_int, gv_ref, av_some, al_some, un_int, un_ref, un_mk, ok4_0, ok4_1, ok4_2, ok4_3, ok4_4, Kn_some, Kn_none, true_and, and_true]
    refine hQ _ (hF _) (fun hC => ⟨fun t ht => ?_, ?_⟩)
    · rw [st_at, if_neg (by omega), hh t ht, dg_0]; rfl
    · have hw := WOk_count (o := o + 3) (r := o + 1) (h := fun _ => nI 0) hq' (fun t ht => by rw [hh t ht]; rfl) (fun t ht => Or.inr ⟨0, hC, rfl⟩)
      intro i j hi hj
      rw [hw i j hi hj]
      refine wo_congr N (fun t ht => ?_)
      rw [st_at, if_neg (by omega), hh t ht]; rfl
  · intro k hk ih
    have g1 : nI k < nI N := nI_lt hk (by omega)
    rw [w_w_start_2]
    simp only [w_w_start_0, w_w_start_1, w_w_start_3, w_w_start_4, w_w_start_7, w_w_start_10, w_w_start_11, w_w_start_14, w_w_start_15, w_w_start_16, w_w_start_19, w_w_start_22, w_w_start_25, w_w_start_26, w_w_start_29, w_w_start_30, w_w_start_31, w_w_start_34, w_w_start_37, xpp_2 hp, s0, h3, g1, xww_0 ho, e_h_put (sww_1 ho) (show k < 7 by omega), zhh (sww_1 ho), up_st, flF_s, nI_1, i10, Bool.false_eq_true, eq_self, true_or, or_true, if_true, if_false, gv_int, gv_ref, av_some, al_some, un_int, un_ref, un_mk, ok4_0, ok4_1, ok4_2, ok4_3, ok4_4, Kn_some, Kn_none, true_and, and_true]
    exact ih
theorem bagE_bS (h : Nat → Int32) (n : Nat) (o : Int32) : bagE h n o = bS (fun t => decide (h t = o)) n := by
  unfold bagE bS
  refine lp_congr (fun t _ s => ?_) 0
  by_cases q : h t = o <;> simp [q]
theorem cntE_nS (h : Nat → Int32) (n i : Nat) : cntE h n i = nI (nS (fun t => decide (h t = nI i)) n) := by
  rw [nS_I]
  unfold cntE
  refine lp_congr (fun t _ s => ?_) 0
  by_cases q : h t = nI i <;> simp [q]
theorem nS_le (b : Nat → Bool) : ∀ m, nS b m ≤ m
  | 0 => Nat.le_refl _
  | m + 1 => by
    have := nS_le b m
    rw [nS_s]; split <;> omega
def fewE (h : Nat → Int32) (n c : Nat) : Int32 := lp (fun i s => if cntE h n i < s then cntE h n i else s) c 7
theorem fewE_s (h : Nat → Int32) (n i : Nat) : fewE h n (i + 1) = if cntE h n i < fewE h n i then cntE h n i else fewE h n i := rfl
theorem few_least (h : Nat → Int32) {n : Nat} (hn : n ≤ 7) : ∀ c, fewE h n (c + 1) = leastE h n (c + 1)
  | 0 => by
    rw [fewE_s, leastE_s, show fewE h n 0 = 7 from rfl, show leastE h n 0 = 100000000 from rfl, cntE_nS]
    have := nS_le (fun t => decide (h t = nI 0)) n
    generalize nS (fun t => decide (h t = nI 0)) n = k at this ⊢
    rw [if_pos (show nI k < 100000000 from nI_lt (b := 100000000) (by omega) (by decide))]
    by_cases q : k < 7
    · rw [if_pos (show nI k < 7 from nI_lt (b := 7) q (by decide))]
    · rw [show k = 7 by omega]; rfl
  | c + 1 => by rw [fewE_s, leastE_s, few_least h hn c]
theorem e_w_isEven {A B o p K C N : Nat} {M : Mm} {Q : Po} {kd : Nat → Nat} {W : Nat → Nat → Int32} {lk : Nat → Int32} (ho : isWW o) (hp : isPP p) (hq : CQ M p K C N kd W lk) (hC : 0 < C) : WP 93 0 [.ref o, .ref p, mk, mk, mk, mk] [] (shw A B) (0, 0) M Q = if evenE (M (o + 1 + 1)) N C then Q (some (.int 1)) (shw A B) M else Q (some (.int 0)) (shw A B) M := by
  obtain ⟨⟨h1, h2, h3⟩, h4, h5, h6⟩ := id hq.1
  refine WP.isb (fun Q hQ => ?_)
  simp only [w_w_isEven_0, w_w_isEven_1, w_w_isEven_2, w_w_isEven_4, w_w_isEven_5, w_w_isEven_6, w_w_isEven_10, w_w_isEven_11, w_w_isEven_14, w_w_isEven_17, w_w_isEven_18, w_w_isEven_21, w_w_isEven_23, w_w_isEven_24, w_w_isEven_27, w_w_isEven_30, w_w_isEven_33, w_w_isEven_35, w_w_isEven_36, w_w_isEven_38, w_w_isEven_41, w_w_isEven_42, w_w_isEven_43, w_w_isEven_45, w_w_isEven_48, w_w_isEven_49, w_w_isEven_52, w_w_isEven_55, w_w_isEven_56, w_w_isEven_57, w_w_isEven_58, w_w_isEven_59, w_w_isEven_62, w_w_isEven_63, w_w_isEven_66, w_w_isEven_67, i10, Bool.false_eq_true, eq_self, true_or, or_true, if_true, if_false, gv_int, gv_ref, av_some, al_some, un_int, un_ref, un_mk, ok4_0, ok4_1, ok4_2, ok4_3, ok4_4, Kn_some, Kn_none, true_and, and_true]
  refine for_up (n := C) (P := fun i => ∀ j5, WP 93 8 [.ref o, .ref p, .int (mostE (M (o + 1 + 1)) N i), .int (fewE (M (o + 1 + 1)) N i), .int (nI i), j5] [] (shw A B) (0, 0) M Q) ?_ ?_ _
  · intro j5
    rw [w_w_isEven_8]
    simp only [w_w_isEven_0, w_w_isEven_1, w_w_isEven_2, w_w_isEven_4, w_w_isEven_5, w_w_isEven_6, w_w_isEven_10, w_w_isEven_11, w_w_isEven_14, w_w_isEven_17, w_w_isEven_18, w_w_isEven_21, w_w_isEven_23, w_w_isEven_24, w_w_isEven_27, w_w_isEven_30, w_w_isEven_33, w_w_isEven_35, w_w_isEven_36, w_w_isEven_38, w_w_isEven_41, w_w_isEven_42, w_w_isEven_43, w_w_isEven_45, w_w_isEven_48, w_w_isEven_49, w_w_isEven_52, w_w_isEven_55, w_w_isEven_56, w_w_isEven_57, w_w_isEven_58, w_w_isEven_59, w_w_isEven_62, w_w_isEven_63, w_w_isEven_66, w_w_isEven_67, xpp_1 hp, h2, lt_irr, i10, Bool.false_eq_true, eq_self, true_or, or_true, if_true, if_false, gv_int, gv_ref, av_some, al_some, un_int, un_ref, un_mk, ok4_0, ok4_1, ok4_2, ok4_3, ok4_4, Kn_some, Kn_none, true_and, and_true]
    obtain ⟨c', rfl⟩ : ∃ c', C = c' + 1 := ⟨C - 1, by omega⟩
    rw [few_least _ h6]
    unfold evenE at hQ
    generalize mostE (M (o + 1 + 1)) N (c' + 1) - leastE (M (o + 1 + 1)) N (c' + 1) = x at hQ ⊢
    have e : (x < 2) ↔ ¬ 1 < x := by
      rw [Int32.lt_iff_toInt_lt, Int32.lt_iff_toInt_lt, show (2 : Int32).toInt = 2 from rfl, show (1 : Int32).toInt = 1 from rfl]
      omega
    by_cases q : 1 < x
    · rw [decide_eq_false (fun z => e.mp z q)] at hQ
      simp only [Bool.false_eq_true, if_false] at hQ
      simp only [eq_true q, if_true]; exact hQ
    · rw [decide_eq_true (e.mpr q)] at hQ
      simp only [if_true] at hQ
      simp only [eq_false q, if_false]; exact hQ
  · intro i hi ih j5
    have g1 : nI i < nI C := nI_lt hi (by omega)
    rw [mostE_s, fewE_s] at ih
    have eb : bcE (bagE (M (o + 1 + 1)) N (nI i)) = cntE (M (o + 1 + 1)) N i := by
      rw [bagE_bS, bc_bS _ (by omega), cntE_nS]
    rw [w_w_isEven_8]
    simp only [w_w_isEven_0, w_w_isEven_1, w_w_isEven_2, w_w_isEven_4, w_w_isEven_5, w_w_isEven_6, w_w_isEven_10, w_w_isEven_11, w_w_isEven_14, w_w_isEven_17, w_w_isEven_18, w_w_isEven_21, w_w_isEven_23, w_w_isEven_24, w_w_isEven_27, w_w_isEven_30, w_w_isEven_33, w_w_isEven_35, w_w_isEven_36, w_w_isEven_38, w_w_isEven_41, w_w_isEven_42, w_w_isEven_43, w_w_isEven_45, w_w_isEven_48, w_w_isEven_49, w_w_isEven_52, w_w_isEven_55, w_w_isEven_56, w_w_isEven_57, w_w_isEven_58, w_w_isEven_59, w_w_isEven_62, w_w_isEven_63, w_w_isEven_66, w_w_isEven_67, xpp_1 hp, xpp_2 hp, h2, h3, g1, xww_0 ho, e_h_bagOf (sww_1 ho) h6, zhh (sww_1 ho), e_j_bitCount, eb, nI_1, i10, Bool.false_eq_true, eq_self, true_or, or_true, if_true, if_false, gv_int, gv_ref, av_some, al_some, un_int, un_ref, un_mk, ok4_0, ok4_1, ok4_2, ok4_3, ok4_4, Kn_some, Kn_none, true_and, and_true]
    exact ih _
