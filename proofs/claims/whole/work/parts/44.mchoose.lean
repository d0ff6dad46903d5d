/-! the reference: choosing in turn, best order -/
/-- how many lie on the table -/
def frE (h : Nat → Int32) (n : Nat) : Nat := lp (fun j s => if h j < 0 then s + 1 else s) n 0
theorem frE_s (h : Nat → Int32) (n : Nat) : frE h (n + 1) = if h n < 0 then frE h n + 1 else frE h n := rfl
theorem frE_0 (h : Nat → Int32) : frE h 0 = 0 := rfl
theorem frE_le (h : Nat → Int32) : ∀ n, frE h n ≤ n
  | 0 => Nat.le_refl _
  | n + 1 => by
    have := frE_le h n
    rw [frE_s]; split <;> omega
theorem frE_far {h : Nat → Int32} {t : Nat} {v : Int32} (n : Nat) (hn : n ≤ t) : frE (upd h t v) n = frE h n := by
  induction n with
  | zero => rw [frE_0, frE_0]
  | succ n ih =>
    have e : upd h t v n = h n := by unfold upd; rw [if_neg (by omega)]
    have i := ih (by omega)
    simp only [frE_s, i, e]
theorem frE_upd {h : Nat → Int32} {t : Nat} {v : Int32} (ht : h t < 0) (hv : ¬ v < 0) (n : Nat) (hn : t < n) : frE (upd h t v) n + 1 = frE h n := by
  induction n with
  | zero => omega
  | succ n ih =>
    rw [frE_s, frE_s]
    by_cases q : t = n
    · subst q
      have e : upd h t v t = v := by unfold upd; rw [if_pos rfl]
      have i := frE_far (h := h) (t := t) (v := v) t (Nat.le_refl t)
      simp only [i, e, hv, ht, if_true, if_false]
    · have e : upd h t v n = h n := by unfold upd; rw [if_neg (fun e => q e.symm)]
      have i := ih (by omega)
      simp only [e]
      split <;> omega
/-- choosing in turn, from the k-th turn on -/
def chE (W : Nat → Nat → Int32) (n c : Nat) (r : Nat → Nat) : Nat → Nat → (Nat → Int32) → (Nat → Int32)
  | 0, _, h => h
  | f + 1, k, h => if pickE W h n (r (k % c)) < 0 then h else chE W n c r f (k + 1) (upd h (pickE W h n (r (k % c))).toNatClampNeg (nI (r (k % c))))
theorem chE_far {W : Nat → Nat → Int32} {n c : Nat} {r : Nat → Nat} : ∀ (f k : Nat) (h : Nat → Int32) (j : Nat), n ≤ j → chE W n c r f k h j = h j
  | 0, k, h, j, hj => rfl
  | f + 1, k, h, j, hj => by
    unfold chE
    rcases pickE_in W h n (r (k % c)) with e | ⟨t, t1, t2, t3⟩
    · rw [if_pos (by rw [e]; decide)]
    · by_cases q : pickE W h n (r (k % c)) < 0
      · rw [if_pos q]
      · rw [if_neg q, chE_far f _ _ j hj]
        unfold upd
        rw [if_neg]
        intro e
        rw [t2] at e
        have := Nat.lt_of_lt_of_le t1 hj
        have e2 : (nI t).toNatClampNeg ≤ t := by
          by_cases b : t < 2 ^ 31
          · rw [nI_clamp b]; exact Nat.le_refl t
          · have := Int32.toNatClampNeg_lt (nI t); omega
        omega
theorem e_m_chooseAll {A B : Nat} {M : Mm} {Q : Po} {K c n : Nat} {r : Nat → Nat} (h : MD M K c n) (hc : 0 < c) (hr : ∀ j, j < c → r j < 4 ∧ M 75 j = nI (r j)) : WP 199 0 [.ref 58, mk, mk] [] (shw A B) (0, 0) M Q = Q none (shw A B) (st M 65 (chE (wT M) n c r 8 0 (M 65))) := by
  refine WP.is (fun Q hQ => ?_)
  obtain ⟨h1, h2, h3, h4, h5, h6, h7⟩ := id h
  have key : ∀ f k (g : Nat → Int32), k + f < 1000 → frE g n < f → Q none (shw A B) (st M 65 (chE (wT M) n c r f k g)) → WP 199 13 [.ref 58, .int (nI k), .int (pickE (wT M) g n (r (k % c)))] [] (shw A B) (0, 0) (st M 65 g) Q := by
    intro f
    induction f with
    | zero => intro k g _ hf; exact absurd hf (by omega)
    | succ f ih =>
      intro k g hk hf hq
      unfold chE at hq
      rw [w_m_chooseAll_13]
      rcases pickE_in (wT M) g n (r (k % c)) with e | ⟨t, t1, t2, t3⟩
      · rw [e] at hq ⊢
        rw [if_pos (by decide)] at hq
        simp only [w_m_chooseAll_0, w_m_chooseAll_1, w_m_chooseAll_2, w_m_chooseAll_3, w_m_chooseAll_4, w_m_chooseAll_7, w_m_chooseAll_8, w_m_chooseAll_9, w_m_chooseAll_12, w_m_chooseAll_14, w_m_chooseAll_17, w_m_chooseAll_18, w_m_chooseAll_21, w_m_chooseAll_22, w_m_chooseAll_23, w_m_chooseAll_26, w_m_chooseAll_27, w_m_chooseAll_28, w_m_chooseAll_31, w_m_chooseAll_32, w_m_chooseAll_33, w_m_chooseAll_34, w_m_chooseAll_37, w_m_chooseAll_38, w_m_chooseAll_39, w_m_chooseAll_42, w_m_chooseAll_43, w_m_chooseAll_44, w_m_chooseAll_47, w_m_chooseAll_48, w_m_chooseAll_49, w_m_chooseAll_52, w_m_chooseAll_53, w_m_chooseAll_56, xm_29, al_75, cl_58, xm_9, al_65, xm_3, (show ((-1 : Int32) < 0) = True by decide), i10, Bool.false_eq_true, eq_self, true_or, or_true, if_true, if_false, gv_int, gv_ref, av_some, al_some, un_int, un_ref, un_mk, ok4_0, ok4_1, ok4_2, ok4_3, ok4_4, Kn_some, Kn_none, true_and, and_true]
        exact hq
      · have g1 : (nI t < 0) = False := eq_false (nI_pos (by omega))
        have g2 : vp_in (nI t) 7 := vp_in_nI (by omega) (by decide)
        have g3 : ¬ nI c = 0 := nI_ne0 hc (by omega)
        have m1 : k % c < c := Nat.mod_lt _ hc
        have m2 : (k + 1) % c < c := Nat.mod_lt _ hc
        have g4 : vp_in (nI (k % c)) 4 := vp_in_nI (by omega) (by decide)
        have g5 : vp_in (nI ((k + 1) % c)) 4 := vp_in_nI (by omega) (by decide)
        have r1 := hr _ m1
        have r2 := hr _ m2
        rw [t2] at hq ⊢
        rw [if_neg (nI_pos (by omega)), nI_clamp (show t < 2 ^ 31 by omega)] at hq
        have fr := frE_upd (v := nI (r (k % c))) t3 (nI_pos (by have := r1.1; omega)) n t1
        have ih := ih (k + 1) (upd g t (nI (r (k % c)))) (by omega) (by omega) hq
        simp only [w_m_chooseAll_0, w_m_chooseAll_1, w_m_chooseAll_2, w_m_chooseAll_3, w_m_chooseAll_4, w_m_chooseAll_7, w_m_chooseAll_8, w_m_chooseAll_9, w_m_chooseAll_12, w_m_chooseAll_14, w_m_chooseAll_17, w_m_chooseAll_18, w_m_chooseAll_21, w_m_chooseAll_22, w_m_chooseAll_23, w_m_chooseAll_26, w_m_chooseAll_27, w_m_chooseAll_28, w_m_chooseAll_31, w_m_chooseAll_32, w_m_chooseAll_33, w_m_chooseAll_34, w_m_chooseAll_37, w_m_chooseAll_38, w_m_chooseAll_39, w_m_chooseAll_42, w_m_chooseAll_43, w_m_chooseAll_44, w_m_chooseAll_47, w_m_chooseAll_48, w_m_chooseAll_49, w_m_chooseAll_52, w_m_chooseAll_53, w_m_chooseAll_56, xm_29, al_75, cl_58, xm_9, al_65, xm_3, g1, g2, g3, not_false_eq_true, show ∀ f, st M 65 f 58 3 = nI c from fun _ => h2, show ∀ f, st M 65 f 75 = M 75 from fun _ => rfl, pk_div (show k < 2 ^ 31 by omega) hc (show c < 2 ^ 31 by omega), rem_nI, g4, nI_clamp (show k % c < 2 ^ 31 by omega), r1.2, nI_clamp (show t < 2 ^ 31 by omega), up_st, nI_1, pk_div (show k + 1 < 2 ^ 31 by omega) hc (show c < 2 ^ 31 by omega), g5, nI_clamp (show (k + 1) % c < 2 ^ 31 by omega), r2.2, e_m_pickOf (show MD (st M 65 (upd g t (nI (r (k % c))))) K c n from h) r2.1, cl_58, i10, Bool.false_eq_true, eq_self, true_or, or_true, if_true, if_false, gv_int, gv_ref, av_some, al_some, un_int, un_ref, un_mk, ok4_0, ok4_1, ok4_2, ok4_3, ok4_4, Kn_some, Kn_none, true_and, and_true]
        exact ih
  have g4 : vp_in (0 : Int32) 4 := vp_in_nI (n := 0) (by decide) (by decide)
  have r0 := hr 0 hc
  have hle := frE_le (M 65) n
  have := key 8 0 (M 65) (by decide) (by omega) hQ
  rw [st_self, Nat.zero_mod] at this
  simp only [w_m_chooseAll_0, w_m_chooseAll_1, w_m_chooseAll_2, w_m_chooseAll_3, w_m_chooseAll_4, w_m_chooseAll_7, w_m_chooseAll_8, w_m_chooseAll_9, w_m_chooseAll_12, w_m_chooseAll_14, w_m_chooseAll_17, w_m_chooseAll_18, w_m_chooseAll_21, w_m_chooseAll_22, w_m_chooseAll_23, w_m_chooseAll_26, w_m_chooseAll_27, w_m_chooseAll_28, w_m_chooseAll_31, w_m_chooseAll_32, w_m_chooseAll_33, w_m_chooseAll_34, w_m_chooseAll_37, w_m_chooseAll_38, w_m_chooseAll_39, w_m_chooseAll_42, w_m_chooseAll_43, w_m_chooseAll_44, w_m_chooseAll_47, w_m_chooseAll_48, w_m_chooseAll_49, w_m_chooseAll_52, w_m_chooseAll_53, w_m_chooseAll_56, xm_29, al_75, cl_58, xm_9, al_65, xm_3, g4, show Int32.toNatClampNeg 0 = 0 from rfl, r0.2, e_m_pickOf h r0.1, cl_58, i10, Bool.false_eq_true, eq_self, true_or, or_true, if_true, if_false, gv_int, gv_ref, av_some, al_some, un_int, un_ref, un_mk, ok4_0, ok4_1, ok4_2, ok4_3, ok4_4, Kn_some, Kn_none, true_and, and_true]
  exact this
/-- the children of a good order -/
theorem tG_good {c : Nat} {o : Int32} : ∀ {k : Nat}, (tG c o k).1 = true → ∀ j, j < k → inb (fg o j) c = true
  | 0, _, j, hj => absurd hj (by omega)
  | k + 1, h, j, hj => by
    have e : (tG c o (k + 1)).1 = ((tG c o k).1 && (inb (fg o k) c && !bt (tG c o k).2 (fg o k))) := rfl
    rw [e] at h
    simp only [Bool.and_eq_true] at h
    by_cases q : j = k
    · rw [q]; exact h.2.1
    · exact tG_good h.1 j (by omega)
theorem tOK_pos {c : Nat} {o : Int32} (h : tOK c o = true) : 0 < c := by
  unfold tOK at h
  simp only [Bool.and_eq_true] at h
  have : ∀ k, (tG c o k).1 = true → 0 < c := by
    intro k
    induction k with
    | zero =>
      intro h
      have e : (tG c o 0).1 = (decide (0 < c) && decide (0 < o)) := rfl
      rw [e] at h
      simp only [Bool.and_eq_true, decide_eq_true_eq] at h
      exact h.1
    | succ k ih =>
      intro h
      have e : (tG c o (k + 1)).1 = ((tG c o k).1 && (inb (fg o k) c && !bt (tG c o k).2 (fg o k))) := rfl
      rw [e] at h
      simp only [Bool.and_eq_true] at h
      exact ih h.1
  exact this c h.1
/-- who has the j-th turn -/
def rwN (c : Nat) (o : Int32) (j : Nat) : Nat := (fg o (c - 1 - j)).toNatClampNeg
theorem row_ok {c : Nat} {o : Int32} {f : Nat → Int32} (h : tOK c o = true) (hc : c ≤ 4) : ∀ j, j < c → rwN c o j < 4 ∧ rowF c o f c j = nI (rwN c o j) := by
  intro j hj
  unfold tOK at h
  simp only [Bool.and_eq_true] at h
  have := tG_good h.1 (c - 1 - j) (by omega)
  obtain ⟨i, i1, i2⟩ := inb_of this (by omega)
  unfold rwN rowF
  rw [if_pos (by omega), i2, nI_clamp (by omega)]
  exact ⟨by omega, rfl⟩
theorem SV_back2 (M : Mm) (X : Mm) (h : Nat → Int32) (hX1 : X 65 = M 65) (hX2 : X 74 = ov (M 65) (M 74) 7) (hf : ∀ j, ¬ j < 7 → h j = M 65 j) : st (st X 65 h) 65 (ov (st X 65 h 74) (st X 65 h 65) 7) = X := by
  rw [st_st]
  have e : ov (st X 65 h 74) (st X 65 h 65) 7 = X 65 := by
    funext j
    show (if j < 7 then X 74 j else h j) = X 65 j
    rw [hX1, hX2]
    by_cases hj : j < 7
    · rw [if_pos hj]; unfold ov; rw [if_pos hj]
    · rw [if_neg hj, hf j hj]
  rw [e, st_self]
theorem e_m_choice {A B : Nat} {M : Mm} {Q : Po} {K c n : Nat} {o t : Int32} (h : MD M K c n) : WP 200 0 [.ref 58, .int o, .int t, mk] [] (shw A B) (0, 0) M Q = if inb t n then (if tOK c o then (if M 65 t.toNatClampNeg < 0 then Q (some (.int (chE (wT M) n c (rwN c o) 8 0 (M 65) t.toNatClampNeg))) (shw A B) (SV (st M 75 (rowF c o (M 75) c))) else Q (some (.int (-1))) (shw A B) (st M 75 (rowF c o (M 75) c))) else Q (some (.int (-1000000002))) (shw A B) (st M 75 (rowF c o (M 75) c))) else Q (some (.int (-1000000001))) (shw A B) M := by
  obtain ⟨h1, h2, h3, h4, h5, h6, h7⟩ := id h
  cases ht : inb t n
  · simp only [w_m_choice_0, w_m_choice_1, w_m_choice_2, w_m_choice_5, w_m_choice_8, w_m_choice_10, w_m_choice_11, w_m_choice_12, w_m_choice_13, w_m_choice_16, w_m_choice_19, w_m_choice_21, w_m_choice_22, w_m_choice_23, w_m_choice_26, w_m_choice_27, w_m_choice_28, w_m_choice_31, w_m_choice_32, w_m_choice_33, w_m_choice_34, w_m_choice_37, w_m_choice_38, w_m_choice_41, w_m_choice_42, w_m_choice_45, w_m_choice_46, w_m_choice_47, w_m_choice_48, w_m_choice_49, w_m_choice_52, w_m_choice_53, cl_58, xm_9, al_65, e_m_isThing h, ht, cl_58, i10, Bool.false_eq_true, eq_self, true_or, or_true, if_true, if_false, gv_int, gv_ref, av_some, al_some, un_int, un_ref, un_mk, ok4_0, ok4_1, ok4_2, ok4_3, ok4_4, Kn_some, Kn_none, true_and, and_true]
  · obtain ⟨x, x1, rfl⟩ := inb_of ht (by omega)
    have g2 : vp_in (nI x) 7 := vp_in_nI (by omega) (by decide)
    rw [nI_clamp (show x < 2 ^ 31 by omega)]
    cases ho : tOK c o
    · simp only [w_m_choice_0, w_m_choice_1, w_m_choice_2, w_m_choice_5, w_m_choice_8, w_m_choice_10, w_m_choice_11, w_m_choice_12, w_m_choice_13, w_m_choice_16, w_m_choice_19, w_m_choice_21, w_m_choice_22, w_m_choice_23, w_m_choice_26, w_m_choice_27, w_m_choice_28, w_m_choice_31, w_m_choice_32, w_m_choice_33, w_m_choice_34, w_m_choice_37, w_m_choice_38, w_m_choice_41, w_m_choice_42, w_m_choice_45, w_m_choice_46, w_m_choice_47, w_m_choice_48, w_m_choice_49, w_m_choice_52, w_m_choice_53, cl_58, xm_9, al_65, e_m_isThing h, ht, cl_58, e_m_takeOrder h, ho, i10, Bool.false_eq_true, eq_self, true_or, or_true, if_true, if_false, gv_int, gv_ref, av_some, al_some, un_int, un_ref, un_mk, ok4_0, ok4_1, ok4_2, ok4_3, ok4_4, Kn_some, Kn_none, true_and, and_true]
    · have hc := tOK_pos ho
      have hr := row_ok (f := M 75) ho h5
      have hm : MD (SV (st M 75 (rowF c o (M 75) c))) K c n := h
      have hb : st (st (SV (st M 75 (rowF c o (M 75) c))) 65 (chE (wT M) n c (rwN c o) 8 0 (M 65))) 65 (ov (st (SV (st M 75 (rowF c o (M 75) c))) 65 (chE (wT M) n c (rwN c o) 8 0 (M 65)) 74) (st (SV (st M 75 (rowF c o (M 75) c))) 65 (chE (wT M) n c (rwN c o) 8 0 (M 65)) 65) 7) = SV (st M 75 (rowF c o (M 75) c)) :=
        SV_back2 M (SV (st M 75 (rowF c o (M 75) c))) _ rfl rfl (fun j hj => chE_far 8 0 _ j (by omega))
      simp only [w_m_choice_0, w_m_choice_1, w_m_choice_2, w_m_choice_5, w_m_choice_8, w_m_choice_10, w_m_choice_11, w_m_choice_12, w_m_choice_13, w_m_choice_16, w_m_choice_19, w_m_choice_21, w_m_choice_22, w_m_choice_23, w_m_choice_26, w_m_choice_27, w_m_choice_28, w_m_choice_31, w_m_choice_32, w_m_choice_33, w_m_choice_34, w_m_choice_37, w_m_choice_38, w_m_choice_41, w_m_choice_42, w_m_choice_45, w_m_choice_46, w_m_choice_47, w_m_choice_48, w_m_choice_49, w_m_choice_52, w_m_choice_53, cl_58, xm_9, al_65, e_m_isThing h, ht, cl_58, e_m_takeOrder h, ho, g2, nI_clamp (show x < 2 ^ 31 by omega), show st M 75 (rowF c o (M 75) c) 65 = M 65 from rfl, e_m_save, show st (st M 75 (rowF c o (M 75) c)) 74 (ov (M 65) (st M 75 (rowF c o (M 75) c) 74) 7) = SV (st M 75 (rowF c o (M 75) c)) from rfl, e_m_chooseAll hm hc hr, show wT (SV (st M 75 (rowF c o (M 75) c))) = wT M from rfl, show SV (st M 75 (rowF c o (M 75) c)) 65 = M 65 from rfl, e_m_putBack, hb, i10, Bool.false_eq_true, eq_self, true_or, or_true, if_true, if_false, gv_int, gv_ref, av_some, al_some, un_int, un_ref, un_mk, ok4_0, ok4_1, ok4_2, ok4_3, ok4_4, Kn_some, Kn_none, true_and, and_true]
      rfl
