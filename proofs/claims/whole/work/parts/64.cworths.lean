/-! the component: worths are counted -/
theorem e_v_grudge {A B o p i j K C N : Nat} {M : Mm} {Q : Po} (ho : isVV o) (hp : isPP p) (h : CP M p K C N) (hi : i < C) (hj : j < C) : WP 98 0 [.ref o, .ref p, .int (nI i), .int (nI j)] [] (shw A B) (0, 0) M Q = Q (some (.int (if bt (M (p + 4) i) (nI j) then (if 0 < ldE (M (o + 1)) i j then ldE (M (o + 1)) i j else 0) else 0))) (shw A B) M := by
  obtain ⟨h1, h4, h5, h6⟩ := id h
  have n1 : inb (nI i) C = true := by rw [inb_iff, nI_toInt (by omega)]; omega
  have n2 : inb (nI j) C = true := by rw [inb_iff, nI_toInt (by omega)]; omega
  cases s : bt (M (p + 4) i) (nI j)
  · simp only [w_v_grudge_0, w_v_grudge_1, w_v_grudge_2, w_v_grudge_3, w_v_grudge_6, w_v_grudge_9, w_v_grudge_10, w_v_grudge_11, w_v_grudge_12, w_v_grudge_13, w_v_grudge_16, w_v_grudge_19, w_v_grudge_22, w_v_grudge_23, e_p_looksAt hp h, zpp hp, n1, n2, nI_clamp (show i < 2 ^ 31 by omega), s, i10, Bool.false_eq_true, eq_self, true_or, or_true, if_true, if_false, gv_int, gv_ref, av_some, al_some, un_int, un_ref, un_mk, ok4_0, ok4_1, ok4_2, ok4_3, ok4_4, Kn_some, Kn_none, true_and, and_true]
  · simp only [w_v_grudge_0, w_v_grudge_1, w_v_grudge_2, w_v_grudge_3, w_v_grudge_6, w_v_grudge_9, w_v_grudge_10, w_v_grudge_11, w_v_grudge_12, w_v_grudge_13, w_v_grudge_16, w_v_grudge_19, w_v_grudge_22, w_v_grudge_23, e_p_looksAt hp h, zpp hp, n1, n2, nI_clamp (show i < 2 ^ 31 by omega), s, e_v_lead ho (show i < 4 by omega) (show j < 4 by omega), zvv ho, i10, Bool.false_eq_true, eq_self, true_or, or_true, if_true, if_false, gv_int, gv_ref, av_some, al_some, un_int, un_ref, un_mk, ok4_0, ok4_1, ok4_2, ok4_3, ok4_4, Kn_some, Kn_none, true_and, and_true]
/-- k rows: b's column changes by that much -/
def cgF (w : Nat → Int32) (b : Nat) (f : Nat → Int32) (k : Nat) : Nat → Int32 := lp (fun i g => upd g (i * 4 + b) (g (i * 4 + b) + f i)) k w
theorem cgF_s (w : Nat → Int32) (b : Nat) (f : Nat → Int32) (k : Nat) : cgF w b f (k + 1) = upd (cgF w b f k) (k * 4 + b) (cgF w b f k (k * 4 + b) + f k) := rfl
theorem cgF_0 (w : Nat → Int32) (b : Nat) (f : Nat → Int32) : cgF w b f 0 = w := rfl
theorem VP_ne {o p k : Nat} (ho : isVV o) (hp : isPP p) (hk : k ≤ 9) : ¬ p + k = o + 1 := by
  unfold isVV at ho; unfold isPP at hp; omega
theorem VH_ne {o p : Nat} (ho : isVV o) (hp : isHH p) : ¬ p + 1 = o + 1 := by
  unfold isVV at ho; unfold isHH at hp; omega
theorem CP.st {M : Mm} {p K C N a : Nat} {f : Nat → Int32} (h : CP M p K C N) (ha : ¬ p = a) : CP (st M a f) p K C N := by
  unfold CP
  rw [st_at, if_neg ha]
  exact h
theorem e_v_change {A B o p K C N kk : Nat} {M : Mm} {Q : Po} {h0 d : Int32} (ho : isVV o) (hp : isPP p) (h : CP M p K C N) (hk : kk < 5) : WP 96 0 [.ref o, .ref p, .int (nI kk), .int h0, .int d, mk] [] (shw A B) (0, 0) M Q = Q none (shw A B) (if inb h0 C then st M (o + 1) (cgF (M (o + 1)) h0.toNatClampNeg (fun i => d * M (p + 6) (i * 5 + kk)) C) else M) := by
  obtain ⟨h1, h4, h5, h6⟩ := id h
  cases q : inb h0 C
  · simp only [w_v_change_0, w_v_change_1, w_v_change_2, w_v_change_5, w_v_change_8, w_v_change_9, w_v_change_10, w_v_change_14, w_v_change_15, w_v_change_18, w_v_change_21, w_v_change_22, w_v_change_25, w_v_change_27, w_v_change_28, w_v_change_29, w_v_change_30, w_v_change_31, w_v_change_32, w_v_change_33, w_v_change_35, w_v_change_36, w_v_change_38, w_v_change_39, w_v_change_42, w_v_change_43, w_v_change_44, w_v_change_45, w_v_change_48, w_v_change_51, e_p_hasChild hp h, zpp hp, q, i10, Bool.false_eq_true, eq_self, true_or, or_true, if_true, if_false, gv_int, gv_ref, av_some, al_some, un_int, un_ref, un_mk, ok4_0, ok4_1, ok4_2, ok4_3, ok4_4, Kn_some, Kn_none, true_and, and_true]
  · refine WP.is (fun Q hQ => ?_)
    obtain ⟨b, b1, rfl⟩ := inb_of q (by omega)
    rw [nI_clamp (show b < 2 ^ 31 by omega)] at hQ
    simp only [if_true] at hQ
    simp only [w_v_change_0, w_v_change_1, w_v_change_2, w_v_change_5, w_v_change_8, w_v_change_9, w_v_change_10, w_v_change_14, w_v_change_15, w_v_change_18, w_v_change_21, w_v_change_22, w_v_change_25, w_v_change_27, w_v_change_28, w_v_change_29, w_v_change_30, w_v_change_31, w_v_change_32, w_v_change_33, w_v_change_35, w_v_change_36, w_v_change_38, w_v_change_39, w_v_change_42, w_v_change_43, w_v_change_44, w_v_change_45, w_v_change_48, w_v_change_51, e_p_hasChild hp h, zpp hp, q, i10, Bool.false_eq_true, eq_self, true_or, or_true, if_true, if_false, gv_int, gv_ref, av_some, al_some, un_int, un_ref, un_mk, ok4_0, ok4_1, ok4_2, ok4_3, ok4_4, Kn_some, Kn_none, true_and, and_true]
    have := for_up (n := C) (P := fun k => WP 96 12 [.ref o, .ref p, .int (nI kk), .int (nI b), .int d, .int (nI k)] [] (shw A B) (0, 0) (st M (o + 1) (cgF (M (o + 1)) b (fun i => d * M (p + 6) (i * 5 + kk)) k)) Q) ?_ ?_
    · rw [cgF_0, st_self] at this
      exact this
    · have e1 : ∀ f, st M (o + 1) f p = M p := fun f => if_neg (VP_ne (k := 0) ho hp (by omega))
      rw [w_v_change_12]
      simp only [w_v_change_0, w_v_change_1, w_v_change_2, w_v_change_5, w_v_change_8, w_v_change_9, w_v_change_10, w_v_change_14, w_v_change_15, w_v_change_18, w_v_change_21, w_v_change_22, w_v_change_25, w_v_change_27, w_v_change_28, w_v_change_29, w_v_change_30, w_v_change_31, w_v_change_32, w_v_change_33, w_v_change_35, w_v_change_36, w_v_change_38, w_v_change_39, w_v_change_42, w_v_change_43, w_v_change_44, w_v_change_45, w_v_change_48, w_v_change_51, xpp_1 hp, e1, h1.2.1, lt_irr, i10, Bool.false_eq_true, eq_self, true_or, or_true, if_true, if_false, gv_int, gv_ref, av_some, al_some, un_int, un_ref, un_mk, ok4_0, ok4_1, ok4_2, ok4_3, ok4_4, Kn_some, Kn_none, true_and, and_true]
      exact hQ
    · intro k hkC ih
      have e1 : ∀ f, st M (o + 1) f p = M p := fun f => if_neg (VP_ne (k := 0) ho hp (by omega))
      have e6 : ∀ f, st M (o + 1) f (p + 6) = M (p + 6) := fun f => if_neg (VP_ne (k := 6) ho hp (by omega))
      have e0 : ∀ f, st M (o + 1) f (o + 1) = f := fun f => if_pos rfl
      have g1 : nI k < nI C := nI_lt hkC (by omega)
      have g2 : vp_in (nI (k * 4 + b)) 16 := vp_in_nI (by omega) (by decide)
      have e4 : nI k * 4 + nI b = nI (k * 4 + b) := by rw [show (4 : Int32) = nI 4 from rfl, pk_mul, nI_add]
      rw [cgF_s] at ih
      generalize cgF (M (o + 1)) b (fun i => d * M (p + 6) (i * 5 + kk)) k = f0 at ih ⊢
      rw [w_v_change_12]
      simp only [w_v_change_0, w_v_change_1, w_v_change_2, w_v_change_5, w_v_change_8, w_v_change_9, w_v_change_10, w_v_change_14, w_v_change_15, w_v_change_18, w_v_change_21, w_v_change_22, w_v_change_25, w_v_change_27, w_v_change_28, w_v_change_29, w_v_change_30, w_v_change_31, w_v_change_32, w_v_change_33, w_v_change_35, w_v_change_36, w_v_change_38, w_v_change_39, w_v_change_42, w_v_change_43, w_v_change_44, w_v_change_45, w_v_change_48, w_v_change_51, xpp_1 hp, e1, h1.2.1, g1, xvv_0 ho, yvv_1 ho, e4, g2, nI_clamp (show k * 4 + b < 2 ^ 31 by omega), e0, e_p_worthOfKind hp (show k < 4 by omega) hk, e6, zpp hp, up_st, nI_1, i10, Bool.false_eq_true, eq_self, true_or, or_true, if_true, if_false, gv_int, gv_ref, av_some, al_some, un_int, un_ref, un_mk, ok4_0, ok4_1, ok4_2, ok4_3, ok4_4, Kn_some, Kn_none, true_and, and_true]
      exact ih
