/-! what comes of swaps; orders; choosing in turn -/
theorem swL_mem {W : Nat → Nat → Int32} {h : Nat → Int32} {n : Nat} : ∀ {k : Nat} {x : Nat}, x ∈ swL W h n k → ∃ a b, a < b ∧ b < n ∧ a < 7 ∧ b < 7 ∧ agP W h a b = true ∧ x = 10 * a + b
  | 0, x, hx => by simp [swL, lp] at hx
  | k + 1, x, hx => by
    rw [swL_s] at hx
    split at hx
    · rename_i q
      rcases List.mem_append.mp hx with e | e
      · exact swL_mem e
      · simp only [List.mem_singleton] at e
        unfold okS at q
        simp only [Bool.and_eq_true, decide_eq_true_eq] at q
        exact ⟨k / 7, k % 7, q.1.1, q.1.2, by omega, by omega, q.2, e⟩
    · exact swL_mem hx
/-- the first of the swaps -/
theorem first_of (W : Nat → Nat → Int32) (h : Nat → Int32) (n : Nat) : (swR (swL W h n 49) 0 = -1 ∧ swL W h n 49 = []) ∨ ∃ a b, a < b ∧ b < n ∧ a < 7 ∧ b < 7 ∧ agP W h a b = true ∧ swR (swL W h n 49) 0 = nI (10 * a + b) := by
  unfold swR
  rw [if_neg (by decide)]
  cases hl : swL W h n 49 with
  | nil => exact Or.inl ⟨rfl, rfl⟩
  | cons x l =>
    obtain ⟨a, b, h1, h2, h3, h4, h5, h6⟩ := swL_mem (k := 49) (x := x) (W := W) (h := h) (n := n) (by rw [hl]; exact List.mem_cons_self)
    have hlen := swL_len W h n 49
    rw [hl] at hlen
    exact Or.inr ⟨a, b, h1, h2, h3, h4, h5, by rw [if_pos (show inb 0 (x :: l).length = true from inb_nI (j := 0) (by simp) (by omega)), h6]; rfl⟩
def swp (h : Nat → Int32) (a b : Nat) : Nat → Int32 := upd (upd h a (h b)) b (h a)
/-- f swaps at most, the first each time: how many, and the holders then -/
def setE (W : Nat → Nat → Int32) (n : Nat) : Nat → (Nat → Int32) → Nat × (Nat → Int32)
  | 0, h => (0, h)
  | f + 1, h => if swR (swL W h n 49) 0 < 0 then (0, h) else ((setE W n f (swp h ((swR (swL W h n 49) 0).toNatClampNeg / 10) ((swR (swL W h n 49) 0).toNatClampNeg % 10))).1 + 1, (setE W n f (swp h ((swR (swL W h n 49) 0).toNatClampNeg / 10) ((swR (swL W h n 49) 0).toNatClampNeg % 10))).2)
theorem setE_no {W : Nat → Nat → Int32} {n f : Nat} {h : Nat → Int32} (e : swR (swL W h n 49) 0 = -1) : setE W n (f + 1) h = (0, h) := by
  unfold setE; rw [if_pos (by rw [e]; decide)]
theorem setE_yes {W : Nat → Nat → Int32} {n f a b : Nat} {h : Nat → Int32} (e : swR (swL W h n 49) 0 = nI (10 * a + b)) (ha : a < 7) (hb : b < 7) : setE W n (f + 1) h = ((setE W n f (swp h a b)).1 + 1, (setE W n f (swp h a b)).2) := by
  conv => lhs; unfold setE
  rw [if_neg (by rw [e]; exact nI_pos (by omega)), e, nI_clamp (by omega), show (10 * a + b) / 10 = a by omega, show (10 * a + b) % 10 = b by omega]
theorem HV_swp {h : Nat → Int32} {c a b : Nat} (hv : HV h c) (ha : a < 7) (hb : b < 7) : HV (swp h a b) c := by
  intro t ht
  unfold swp upd
  split
  · exact hv a ha
  · split
    · exact hv b hb
    · exact hv t ht
theorem swp_far {h : Nat → Int32} {a b j : Nat} (ha : a < 7) (hb : b < 7) (hj : ¬ j < 7) : swp h a b j = h j := by
  unfold swp upd
  rw [if_neg (by omega), if_neg (by omega)]
theorem setE_far {W : Nat → Nat → Int32} {n : Nat} : ∀ (f : Nat) (h : Nat → Int32) (j : Nat), ¬ j < 7 → (setE W n f h).2 j = h j
  | 0, h, j, hj => rfl
  | f + 1, h, j, hj => by
    unfold setE
    rcases first_of W h n with ⟨e, -⟩ | ⟨a, b, h1, h2, h3, h4, h5, h6⟩
    · rw [if_pos (by rw [e]; decide)]
    · rw [if_neg (by rw [h6]; exact nI_pos (by omega)), h6, nI_clamp (by omega), show (10 * a + b) / 10 = a by omega, show (10 * a + b) % 10 = b by omega]
      show (setE W n f (swp h a b)).2 j = h j
      rw [setE_far f _ j hj, swp_far h3 h4 hj]
theorem setE_le {W : Nat → Nat → Int32} {n : Nat} : ∀ (f : Nat) (h : Nat → Int32), (setE W n f h).1 ≤ f
  | 0, h => Nat.le_refl _
  | f + 1, h => by
    unfold setE
    split
    · exact Nat.zero_le _
    · exact Nat.succ_le_succ (setE_le f _)
/-- the reference's memory with what is now kept aside -/
def SV (M : Mm) : Mm := st M 74 (ov (M 65) (M 74) 7)
theorem SV_back (M : Mm) (h : Nat → Int32) (hf : ∀ j, ¬ j < 7 → h j = M 65 j) : st (st (SV M) 65 h) 65 (ov (st (SV M) 65 h 74) (st (SV M) 65 h 65) 7) = SV M := by
  rw [st_st]
  have e : ov (st (SV M) 65 h 74) (st (SV M) 65 h 65) 7 = SV M 65 := by
    funext j
    show (if j < 7 then (if j < 7 then M 65 j else M 74 j) else h j) = M 65 j
    by_cases hj : j < 7
    · rw [if_pos hj, if_pos hj]
    · rw [if_neg hj, hf j hj]
  rw [e, st_self]
theorem d10 {k : Nat} (h : k < 2 ^ 31) : nI k / 10 = nI (k / 10) := pk_div h (by decide) (by decide)
theorem r10 (k : Nat) : nI k - nI (k / 10) * 10 = nI (k % 10) := rem_nI k 10
def setA (W : Nat → Nat → Int32) (lk : Nat → Int32) (h : Nat → Int32) (n c : Nat) (what : Int32) : Int32 := if what = 0 then nI (setE W n 50 h).1 else tearE W lk (setE W n 50 h).2 n c
theorem e_m_settled {A B : Nat} {M : Mm} {Q : Po} {K c n : Nat} {what : Int32} (h : MD M K c n) (hv : HV (M 65) c) : WP 192 0 [.ref 58, .int what, mk, mk, mk] [] (shw A B) (0, 0) M Q = if inb what 2 then Q (some (.int (setA (wT M) (M 63) (M 65) n c what))) (shw A B) (SV M) else Q (some (.int (-1000000002))) (shw A B) M := by
  cases hw : inb what 2
  · simp only [w_m_settled_0, w_m_settled_1, w_m_settled_2, w_m_settled_3, w_m_settled_4, w_m_settled_7, w_m_settled_10, w_m_settled_12, w_m_settled_13, w_m_settled_14, w_m_settled_17, w_m_settled_18, w_m_settled_19, w_m_settled_20, w_m_settled_21, w_m_settled_24, w_m_settled_26, w_m_settled_29, w_m_settled_30, w_m_settled_32, w_m_settled_35, w_m_settled_36, w_m_settled_37, w_m_settled_39, w_m_settled_40, w_m_settled_41, w_m_settled_43, w_m_settled_44, w_m_settled_47, w_m_settled_50, w_m_settled_51, w_m_settled_52, w_m_settled_55, w_m_settled_56, w_m_settled_59, w_m_settled_60, w_m_settled_63, w_m_settled_65, w_m_settled_66, w_m_settled_69, w_m_settled_70, w_m_settled_73, w_m_settled_74, w_m_settled_77, w_m_settled_79, cl_58, e_m_in, rng_k 2 (show 2 < 100000 by decide) (show (nI 2 - 1).toInt64 = 1 by decide), hw, i10, Bool.false_eq_true, eq_self, true_or, or_true, if_true, if_false, gv_int, gv_ref, av_some, al_some, un_int, un_ref, un_mk, ok4_0, ok4_1, ok4_2, ok4_3, ok4_4, Kn_some, Kn_none, true_and, and_true]
  · refine WP.is (fun Q hQ => ?_)
    obtain ⟨h1, h2, h3, h4, h5, h6, h7⟩ := id h
    simp only [w_m_settled_0, w_m_settled_1, w_m_settled_2, w_m_settled_3, w_m_settled_4, w_m_settled_7, w_m_settled_10, w_m_settled_12, w_m_settled_13, w_m_settled_14, w_m_settled_17, w_m_settled_18, w_m_settled_19, w_m_settled_20, w_m_settled_21, w_m_settled_24, w_m_settled_26, w_m_settled_29, w_m_settled_30, w_m_settled_32, w_m_settled_35, w_m_settled_36, w_m_settled_37, w_m_settled_39, w_m_settled_40, w_m_settled_41, w_m_settled_43, w_m_settled_44, w_m_settled_47, w_m_settled_50, w_m_settled_51, w_m_settled_52, w_m_settled_55, w_m_settled_56, w_m_settled_59, w_m_settled_60, w_m_settled_63, w_m_settled_65, w_m_settled_66, w_m_settled_69, w_m_settled_70, w_m_settled_73, w_m_settled_74, w_m_settled_77, w_m_settled_79, cl_58, e_m_in, rng_k 2 (show 2 < 100000 by decide) (show (nI 2 - 1).toInt64 = 1 by decide), hw, e_m_save, e_m_swapsNow (show MD (st M 74 (ov (M 65) (M 74) 7)) K c n from h) (show HV (st M 74 (ov (M 65) (M 74) 7) 65) c from hv), cl_58, i10, Bool.false_eq_true, eq_self, true_or, or_true, if_true, if_false, gv_int, gv_ref, av_some, al_some, un_int, un_ref, un_mk, ok4_0, ok4_1, ok4_2, ok4_3, ok4_4, Kn_some, Kn_none, true_and, and_true]
    have key : ∀ f d (g : Nat → Int32), d + f = 50 → HV g c → (∀ j, ¬ j < 7 → g j = M 65 j) → Q (some (.int (if what = 0 then nI (d + (setE (wT M) n f g).1) else tearE (wT M) (M 63) (setE (wT M) n f g).2 n c))) (shw A B) (SV M) → ∀ j4, WP 192 25 [.ref 58, .int what, .int (nI d), .int (swR (swL (wT M) g n 49) 0), j4] [] (shw A B) (0, 0) (st (SV M) 65 g) Q := by
      intro f
      induction f with
      | zero =>
        intro d g hd hg hf hQ j4
        have hd : d = 50 := hd
        subst hd
        have fin : WP 192 59 [.ref 58, .int what, .int (nI 50), .int (swR (swL (wT M) g n 49) 0), j4] [] (shw A B) (0, 0) (st (SV M) 65 g) Q := by
          simp only [w_m_settled_0, w_m_settled_1, w_m_settled_2, w_m_settled_3, w_m_settled_4, w_m_settled_7, w_m_settled_10, w_m_settled_12, w_m_settled_13, w_m_settled_14, w_m_settled_17, w_m_settled_18, w_m_settled_19, w_m_settled_20, w_m_settled_21, w_m_settled_24, w_m_settled_26, w_m_settled_29, w_m_settled_30, w_m_settled_32, w_m_settled_35, w_m_settled_36, w_m_settled_37, w_m_settled_39, w_m_settled_40, w_m_settled_41, w_m_settled_43, w_m_settled_44, w_m_settled_47, w_m_settled_50, w_m_settled_51, w_m_settled_52, w_m_settled_55, w_m_settled_56, w_m_settled_59, w_m_settled_60, w_m_settled_63, w_m_settled_65, w_m_settled_66, w_m_settled_69, w_m_settled_70, w_m_settled_73, w_m_settled_74, w_m_settled_77, w_m_settled_79, cl_58, e_m_tears (show MD (st (SV M) 65 g) K c n from h), e_m_putBack, cl_58, i10, Bool.false_eq_true, eq_self, true_or, or_true, if_true, if_false, gv_int, gv_ref, av_some, al_some, un_int, un_ref, un_mk, ok4_0, ok4_1, ok4_2, ok4_3, ok4_4, Kn_some, Kn_none, true_and, and_true]
          rw [SV_back M g hf]
          simp only [show setE (wT M) n 0 g = (0, g) from rfl, Nat.add_zero] at hQ
          by_cases q : what = 0
          · rw [if_pos q] at hQ ⊢; exact hQ
          · rw [if_neg q] at hQ ⊢; exact hQ
        rw [w_m_settled_25]
        simp only [w_m_settled_0, w_m_settled_1, w_m_settled_2, w_m_settled_3, w_m_settled_4, w_m_settled_7, w_m_settled_10, w_m_settled_12, w_m_settled_13, w_m_settled_14, w_m_settled_17, w_m_settled_18, w_m_settled_19, w_m_settled_20, w_m_settled_21, w_m_settled_24, w_m_settled_26, w_m_settled_29, w_m_settled_30, w_m_settled_32, w_m_settled_35, w_m_settled_36, w_m_settled_37, w_m_settled_39, w_m_settled_40, w_m_settled_41, w_m_settled_43, w_m_settled_44, w_m_settled_47, w_m_settled_50, w_m_settled_51, w_m_settled_52, w_m_settled_55, w_m_settled_56, w_m_settled_60, w_m_settled_63, w_m_settled_65, w_m_settled_66, w_m_settled_69, w_m_settled_70, w_m_settled_73, w_m_settled_74, w_m_settled_77, w_m_settled_79, cl_58, (show (nI 50 < 50) = False by decide), i10, Bool.false_eq_true, eq_self, true_or, or_true, if_true, if_false, gv_int, gv_ref, av_some, al_some, un_int, un_ref, un_mk, ok4_0, ok4_1, ok4_2, ok4_3, ok4_4, Kn_some, Kn_none, true_and, and_true]
        split <;> exact fin
      | succ f ih =>
        intro d g hd hg hf hQ j4
        rw [w_m_settled_25]
        rcases first_of (wT M) g n with ⟨e, -⟩ | ⟨a, b, a1, a2, a3, a4, a5, a6⟩
        · rw [setE_no e] at hQ
          rw [e]
          simp only [w_m_settled_0, w_m_settled_1, w_m_settled_2, w_m_settled_3, w_m_settled_4, w_m_settled_7, w_m_settled_10, w_m_settled_12, w_m_settled_13, w_m_settled_14, w_m_settled_17, w_m_settled_18, w_m_settled_19, w_m_settled_20, w_m_settled_21, w_m_settled_24, w_m_settled_26, w_m_settled_29, w_m_settled_30, w_m_settled_32, w_m_settled_35, w_m_settled_36, w_m_settled_37, w_m_settled_39, w_m_settled_40, w_m_settled_41, w_m_settled_43, w_m_settled_44, w_m_settled_47, w_m_settled_50, w_m_settled_51, w_m_settled_52, w_m_settled_55, w_m_settled_56, w_m_settled_59, w_m_settled_60, w_m_settled_63, w_m_settled_65, w_m_settled_66, w_m_settled_69, w_m_settled_70, w_m_settled_73, w_m_settled_74, w_m_settled_77, w_m_settled_79, cl_58, (show ((-1 : Int32) < 0) = True by decide), e_m_tears (show MD (st (SV M) 65 g) K c n from h), e_m_putBack, cl_58, i10, Bool.false_eq_true, eq_self, true_or, or_true, if_true, if_false, gv_int, gv_ref, av_some, al_some, un_int, un_ref, un_mk, ok4_0, ok4_1, ok4_2, ok4_3, ok4_4, Kn_some, Kn_none, true_and, and_true]
          rw [SV_back M g hf]
          simp only [Nat.add_zero] at hQ
          by_cases q : what = 0
          · rw [if_pos q] at hQ ⊢; exact hQ
          · rw [if_neg q] at hQ ⊢; exact hQ
        · rw [setE_yes a6 a3 a4] at hQ
          have p3 : nI (10 * a + b) - nI a * 10 = nI b := by
            have := r10 (10 * a + b)
            rwa [show (10 * a + b) / 10 = a by omega, show (10 * a + b) % 10 = b by omega] at this
          have p0 : (nI (10 * a + b) < 0) = False := eq_false (nI_pos (by omega))
          have p1 : (nI d < 50) = True := eq_true (nI_lt (show d < 50 by omega) (by decide))
          have p2 : ¬ (10 : Int32) = 0 := by decide
          have hg2 : HV (swp g a b) c := HV_swp hg a3 a4
          have hm : up (up (st (SV M) 65 g) 65 a (g b)) 65 b (g a) = st (SV M) 65 (swp g a b) := by rw [up_st, up_st]; rfl
          rw [a6]
          simp only [w_m_settled_0, w_m_settled_1, w_m_settled_2, w_m_settled_3, w_m_settled_4, w_m_settled_7, w_m_settled_10, w_m_settled_12, w_m_settled_13, w_m_settled_14, w_m_settled_17, w_m_settled_18, w_m_settled_19, w_m_settled_20, w_m_settled_21, w_m_settled_24, w_m_settled_26, w_m_settled_29, w_m_settled_30, w_m_settled_32, w_m_settled_35, w_m_settled_36, w_m_settled_37, w_m_settled_39, w_m_settled_40, w_m_settled_41, w_m_settled_43, w_m_settled_44, w_m_settled_47, w_m_settled_50, w_m_settled_51, w_m_settled_52, w_m_settled_55, w_m_settled_56, w_m_settled_59, w_m_settled_60, w_m_settled_63, w_m_settled_65, w_m_settled_66, w_m_settled_69, w_m_settled_70, w_m_settled_73, w_m_settled_74, w_m_settled_77, w_m_settled_79, cl_58, p0, p1, p2, not_false_eq_true, d10 (show 10 * a + b < 2 ^ 31 by omega), p3, show (10 * a + b) / 10 = a by omega, e_m_swapNow a3 a4, show st (SV M) 65 g 65 = g from rfl, hm, nI_1, e_m_swapsNow (show MD (st (SV M) 65 (swp g a b)) K c n from h) (show HV (st (SV M) 65 (swp g a b) 65) c from hg2), cl_58, i10, Bool.false_eq_true, eq_self, true_or, or_true, if_true, if_false, gv_int, gv_ref, av_some, al_some, un_int, un_ref, un_mk, ok4_0, ok4_1, ok4_2, ok4_3, ok4_4, Kn_some, Kn_none, true_and, and_true]
          refine ih (d + 1) (swp g a b) (by omega) hg2 (fun j hj => by rw [swp_far a3 a4 hj]; exact hf j hj) ?_ j4
          rw [show d + 1 + (setE (wT M) n f (swp g a b)).1 = d + ((setE (wT M) n f (swp g a b)).1 + 1) by omega]
          exact hQ
    have := key 50 0 (M 65) rfl hv (fun _ _ => rfl) (by rw [Nat.zero_add]; exact hQ) mk
    rw [show st (SV M) 65 (M 65) = SV M from st_self (SV M) 65] at this
    exact this
