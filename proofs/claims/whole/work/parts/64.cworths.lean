/-! the component: worths are counted -/
theorem e_v_grudge {A B o p i j K C N : Nat} {M : Mm} {Q : Po} (ho : isVV o) (hp : isPP p) (h : CP M p K C N) (hi : i < C) (hj : j < C) : WP 98 0 [.ref o, .ref p, .int (nI i), .int (nI j)] [] (shw A B) (0, 0) M Q = Q (some (.int (if bt (M (p + 4) i) (nI j) then (if 0 < ldE (M (o + 1)) i j then ldE (M (o + 1)) i j else 0) else 0))) (shw A B) M := by
  obtain ⟨h1, h4, h5, h6⟩ := id h
  have n1 : inb (nI i) C = true := by rw [inb_iff, nI_toInt (by omega)]; omega
  have n2 : inb (nI j) C = true := by rw [inb_iff, nI_toInt (by omega)]; omega
  cases s : bt (M (p + 4) i) (nI j)
  · simp only [w_v_grudge_0, w_v_grudge_1, w_v_grudge_2, w_v_grudge_3, w_v_grudge_6, w_v_grudge_9, w_v_grudge_10, w_v_grudge_11, w_v_grudge_12, w_v_grudge_13, w_v_grudge_16, w_v_grudge_19, w_v_grudge_22, w_v_grudge_23, e_p_looksAt hp h, zpp hp, n1, n2, nI_clamp (show i < 2 ^ 31 by omega), s, i10, Bool.false_eq_true, eq_self, true_or, or_true, if_true, if_false, gv_int, gv_ref, av_some, al_some, un_int, un_ref, un_mk, ok4_0, ok4_1, ok4_2, ok4_3, ok4_4, Kn_some, Kn_none, true_and, and_true]
  · simp only [w_v_grudge_0, w_v_grudge_1, w_v_grudge_2, w_v_grudge_3, w_v_grudge_6, w_v_grudge_9, w_v_grudge_10, w_v_grudge_11, w_v_grudge_12, w_v_grudge_13, w_v_grudge_16, w_v_grudge_19, w_v_grudge_22, w_v_grudge_23, e_p_looksAt hp h, zpp hp, n1, n2, nI_clamp (show i < 2 ^ 31 by omega), s, e_v_lead ho (show i < 4 by omega) (show j < 4 by omega), zvv ho, i10, Bool.false_eq_true, eq_self, true_or, or_true, if_true, if_false, gv_int, gv_ref, av_some, al_some, un_int, un_ref, un_mk, ok4_0, ok4_1, ok4_2, ok4_3, ok4_4, Kn_some, Kn_none, true_and, and_true]
/-- k rows: b's column changes by that much -/
def cgF (w : Nat → Int32) (b : Nat) (f : Nat → Int32) (k : Nat) : Nat → Int32 := lp (fun i g => upd g (i * 4 + b) (g (i * 4 + b) + f i)) k w
theorem cgF_s (w : Nat → Int32) (b : Nat) (f : Nat → Int32) (k : Nat) : cgF w b f (k + 1) = upd (cgF w b f k) (k * 4 + b) (cgF w b f k (k * 4 + b) + f k) := rfl
theorem cgF_0 (w : Nat → Int32) (b : Nat) (f : Nat → Int32) : cgF w b f 0 = w := rfl
