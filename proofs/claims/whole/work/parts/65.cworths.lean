/-! the component counts all worths -/
def ctF (P : Nat → Int32) (kd : Nat → Nat) (h : Nat → Int32) (C n : Nat) (w : Nat → Int32) : Nat → Int32 := lp (fun t g => if inb (h t) C then cgF g (h t).toNatClampNeg (fun i => 1 * P (i * 5 + kd t)) C else g) n w
theorem ctF_s (P : Nat → Int32) (kd : Nat → Nat) (h : Nat → Int32) (C n : Nat) (w : Nat → Int32) : ctF P kd h C (n + 1) w = if inb (h n) C then cgF (ctF P kd h C n w) (h n).toNatClampNeg (fun i => 1 * P (i * 5 + kd n)) C else ctF P kd h C n w := rfl
theorem ctF_0 (P : Nat → Int32) (kd : Nat → Nat) (h : Nat → Int32) (C : Nat) (w : Nat → Int32) : ctF P kd h C 0 w = w := rfl
theorem e_v_count {A B o p r K C N : Nat} {M : Mm} {Q : Po} {kd : Nat → Nat} (ho : isVV o) (hp : isPP p) (hr : isHH r) (h : CP M p K C N) (hk : ∀ t, t < N → M (p + 9) t = nI (kd t) ∧ kd t < 5) : WP 95 0 [.ref o, .ref p, .ref r, mk] [] (shw A B) (0, 0) M Q = Q none (shw A B) (st M (o + 1) (ctF (M (p + 6)) kd (M (r + 1)) C N (flF 0 16 (M (o + 1))))) := by
  obtain ⟨h1, h4, h5, h6⟩ := id h
  refine WP.is (fun Q hQ => ?_)
  have e1 : ∀ f, st M (o + 1) f p = M p := fun f => if_neg (VP_ne (k := 0) ho hp (by omega))
  have e6 : ∀ f, st M (o + 1) f (p + 6) = M (p + 6) := fun f => if_neg (VP_ne (k := 6) ho hp (by omega))
  have e9 : ∀ f, st M (o + 1) f (p + 9) = M (p + 9) := fun f => if_neg (VP_ne (k := 9) ho hp (by omega))
  have er : ∀ f, st M (o + 1) f (r + 1) = M (r + 1) := fun f => if_neg (VH_ne ho hr)
  have e0 : ∀ f, st M (o + 1) f (o + 1) = f := fun f => if_pos rfl
  simp only [w_v_count_0, w_v_count_1, w_v_count_4, w_v_count_5, w_v_count_8, w_v_count_9, w_v_count_11, w_v_count_12, w_v_count_15, w_v_count_18, w_v_count_19, w_v_count_20, w_v_count_21, w_v_count_24, w_v_count_25, w_v_count_26, w_v_count_27, w_v_count_28, w_v_count_31, w_v_count_32, w_v_count_35, w_v_count_38, w_v_count_41, xvv_0 ho, e_j_fill (yvv_1 ho) (by decide), i10, Bool.false_eq_true, eq_self, true_or, or_true, if_true, if_false, gv_int, gv_ref, av_some, al_some, un_int, un_ref, un_mk, ok4_0, ok4_1, ok4_2, ok4_3, ok4_4, Kn_some, Kn_none, true_and, and_true]
  refine for_up (n := N) (P := fun k => WP 95 10 [.ref o, .ref p, .ref r, .int (nI k)] [] (shw A B) (0, 0) (st M (o + 1) (ctF (M (p + 6)) kd (M (r + 1)) C k (flF 0 16 (M (o + 1))))) Q) ?_ ?_
  · rw [w_v_count_10]
    simp only [w_v_count_0, w_v_count_1, w_v_count_4, w_v_count_5, w_v_count_8, w_v_count_9, w_v_count_11, w_v_count_12, w_v_count_15, w_v_count_18, w_v_count_19, w_v_count_20, w_v_count_21, w_v_count_24, w_v_count_25, w_v_count_26, w_v_count_27, w_v_count_28, w_v_count_31, w_v_count_32, w_v_count_35, w_v_count_38, w_v_count_41, xpp_2 hp, e1, h1.2.2, lt_irr, i10, Bool.false_eq_true, eq_self, true_or, or_true, if_true, if_false, gv_int, gv_ref, av_some, al_some, un_int, un_ref, un_mk, ok4_0, ok4_1, ok4_2, ok4_3, ok4_4, Kn_some, Kn_none, true_and, and_true]
    exact hQ
  · intro k hkN ih
    have g1 : nI k < nI N := nI_lt hkN (by omega)
    have g2 : vp_in (nI k) 7 := vp_in_nI (by omega) (by decide)
    obtain ⟨j1, j2⟩ := hk k hkN
    rw [ctF_s] at ih
    generalize ctF (M (p + 6)) kd (M (r + 1)) C k (flF 0 16 (M (o + 1))) = f0 at ih ⊢
    have hc : CP (st M (o + 1) f0) p K C N := h.st (VP_ne (k := 0) ho hp (by omega))
    rw [w_v_count_10]
    simp only [w_v_count_0, w_v_count_1, w_v_count_4, w_v_count_5, w_v_count_8, w_v_count_9, w_v_count_11, w_v_count_12, w_v_count_15, w_v_count_18, w_v_count_19, w_v_count_20, w_v_count_21, w_v_count_24, w_v_count_25, w_v_count_26, w_v_count_27, w_v_count_28, w_v_count_31, w_v_count_32, w_v_count_35, w_v_count_38, w_v_count_41, xpp_2 hp, e1, h1.2.2, g1, g2, xpp_12 hp, ypp_9 hp, e9, nI_clamp (show k < 2 ^ 31 by omega), j1, e_h_holderOf hr (show k < 7 by omega), er, zhh hr, e_v_change ho hp hc j2, e6, e0, zvv ho, st_st, nI_1, i10, Bool.false_eq_true, eq_self, true_or, or_true, if_true, if_false, gv_int, gv_ref, av_some, al_some, un_int, un_ref, un_mk, ok4_0, ok4_1, ok4_2, ok4_3, ok4_4, Kn_some, Kn_none, true_and, and_true]
    cases q : inb (M (r + 1) k) C
    · rw [q] at ih
      simp only [Bool.false_eq_true, if_false] at ih ⊢
      exact ih
    · rw [q] at ih
      simp only [if_true] at ih ⊢
      exact ih
theorem cgF_at (w : Nat → Int32) (b : Nat) (f : Nat → Int32) (hb : b < 4) : ∀ k i j, j < 4 → cgF w b f k (i * 4 + j) = if i < k ∧ j = b then w (i * 4 + j) + f i else w (i * 4 + j)
  | 0, i, j, _ => by rw [cgF_0, if_neg (by omega)]
  | k + 1, i, j, hj => by
    have ih := cgF_at w b f hb k
    rw [cgF_s]
    unfold upd
    by_cases q : i * 4 + j = k * 4 + b
    · have q1 : i = k := by omega
      have q2 : j = b := by omega
      subst q1 q2
      rw [if_pos rfl, if_pos ⟨by omega, rfl⟩, ih i j hj, if_neg (by omega)]
    · rw [if_neg q, ih i j hj]
      by_cases r : i < k ∧ j = b
      · rw [if_pos r, if_pos ⟨by omega, r.2⟩]
      · rw [if_neg r, if_neg (by omega)]
theorem ctF_at (P : Nat → Int32) (kd : Nat → Nat) (h : Nat → Int32) (C : Nat) (w : Nat → Int32) (hC : C ≤ 4) (hw : ∀ x, x < 16 → w x = 0) (i j : Nat) (hi : i < C) (hj : j < C) : ∀ n, n ≤ 7 → HV h C → ctF P kd h C n w (i * 4 + j) = wo (fun i t => P (i * 5 + kd t)) h n i (nI j)
  | 0, _, _ => by rw [ctF_0]; exact hw _ (by omega)
  | n + 1, hn, hh => by
    have ih := ctF_at P kd h C w hC hw i j hi hj n (by omega) hh
    rw [ctF_s, show wo (fun i t => P (i * 5 + kd t)) h (n + 1) i (nI j) = wo (fun i t => P (i * 5 + kd t)) h n i (nI j) + (if h n = nI j then P (i * 5 + kd n) else 0) from rfl, ← ih]
    rcases hh n (by omega) with q | ⟨c, c1, q⟩
    · have n1 : inb (-1) C = false := by rw [inb_i (by omega)]; simp
      rw [q, n1, if_neg (by decide), if_neg (fun e => nI_ne_m1 (show j < 2 ^ 31 by omega) e.symm), Int32.add_zero]
    · have n1 : inb (nI c) C = true := by rw [inb_iff, nI_toInt (by omega)]; omega
      rw [q, n1, if_pos rfl, nI_clamp (show c < 2 ^ 31 by omega), cgF_at _ _ _ (by omega) _ _ _ (by omega)]
      by_cases e : j = c
      · rw [if_pos ⟨hi, e⟩, if_pos (by rw [e]), Int32.one_mul]
      · rw [if_neg (fun x => e x.2), if_neg (fun x => e (nI_iq (by omega) (by omega) x).symm), Int32.add_zero]
