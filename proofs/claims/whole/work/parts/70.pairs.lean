/-! pairs that look, and their sums -/
theorem grid {α : Type} (op : α → α → α) (e : α) (he : ∀ s, op s e = s) (f : Nat → Nat → α) (z : α) {C : Nat} (hC : C ≤ 4) : lp (fun i s => lp (fun j s => op s (f i j)) C s) C z = lp (fun k s => op s (if k / 4 < C ∧ k % 4 < C then f (k / 4) (k % 4) else e)) 16 z := by
  have : C = 0 ∨ C = 1 ∨ C = 2 ∨ C = 3 ∨ C = 4 := by omega
  rcases this with rfl | rfl | rfl | rfl | rfl <;> simp [lp, he]
/-- one more in a sum, wherever it stands -/
theorem lp_ins {α : Type} (op : α → α → α) (e : α) (hr : ∀ s a b, op (op s a) b = op (op s b) a) (he : ∀ s, op s e = s) (g g' : Nat → α) (k0 : Nat) (x : α) (h0 : g k0 = e) (h0' : g' k0 = x) (hg : ∀ k, ¬ k = k0 → g' k = g k) (z : α) : ∀ n, lp (fun k s => op s (g' k)) n z = if k0 < n then op (lp (fun k s => op s (g k)) n z) x else lp (fun k s => op s (g k)) n z
  | 0 => by rw [if_neg (by omega)]; rfl
  | n + 1 => by
    have ih := lp_ins op e hr he g g' k0 x h0 h0' hg z n
    rw [lp_s, lp_s, ih]
    by_cases q : n = k0
    · subst q
      rw [if_neg (by omega), if_pos (by omega), h0', h0, he]
    · rw [hg n q]
      by_cases r : k0 < n
      · rw [if_pos r, if_pos (by omega), hr]
      · rw [if_neg r, if_neg (by omega)]
def lkB (lk : Nat → Int32) (C k : Nat) : Bool := decide (k / 4 < C) && (decide (k % 4 < C) && bt (lk (k / 4)) (nI (k % 4)))
/-- what is summed over the pairs is summed over all that look -/
def PL (l1 l2 : Nat → Nat) (P : Nat) (lk : Nat → Int32) (C : Nat) : Prop := ∀ (α : Type) (op : α → α → α) (e z : α) (f : Nat → Nat → α), (∀ s a b, op (op s a) b = op (op s b) a) → (∀ s, op s e = s) → lp (fun q s => op s (f (l1 q) (l2 q))) P z = lp (fun k s => op s (if lkB lk C k then f (k / 4) (k % 4) else e)) 16 z
def CQ (M : Mm) (p K C N : Nat) (kd : Nat → Nat) (W : Nat → Nat → Int32) (lk : Nat → Int32) : Prop := CP M p K C N ∧ (∀ t, t < N → M (p + 9) t = nI (kd t) ∧ kd t < 5) ∧ (∀ i t, i < C → t < N → M (p + 6) (i * 5 + kd t) = W i t) ∧ (∀ i, i < C → M (p + 4) i = lk i) ∧ ∃ P l1 l2, M p 3 = nI P ∧ P ≤ 12 ∧ (∀ q, q < P → (M (p + 7) q = nI (l1 q) ∧ M (p + 8) q = nI (l2 q)) ∧ l1 q < C ∧ l2 q < C) ∧ PL l1 l2 P lk C
theorem CQ.fr {M M' : Mm} {p K C N : Nat} {kd : Nat → Nat} {W : Nat → Nat → Int32} {lk : Nat → Int32} (h : CQ M p K C N kd W lk) (hf : ∀ c, p ≤ c → c ≤ p + 9 → M' c = M c) : CQ M' p K C N kd W lk := by
  unfold CQ CP at h ⊢
  rw [hf p (by omega) (by omega), hf (p + 9) (by omega) (by omega), hf (p + 6) (by omega) (by omega), hf (p + 4) (by omega) (by omega), hf (p + 7) (by omega) (by omega), hf (p + 8) (by omega) (by omega)]
  exact h
theorem CQ.st {M : Mm} {p K C N a : Nat} {kd : Nat → Nat} {W : Nat → Nat → Int32} {lk : Nat → Int32} {f : Nat → Int32} (h : CQ M p K C N kd W lk) (ha : ¬ (p ≤ a ∧ a ≤ p + 9)) : CQ (st M a f) p K C N kd W lk :=
  h.fr (fun c c1 c2 => if_neg (by omega))
theorem CQ.upd {M : Mm} {p K C N a k : Nat} {kd : Nat → Nat} {W : Nat → Nat → Int32} {lk : Nat → Int32} {x : Int32} (h : CQ M p K C N kd W lk) (ha : ¬ (p ≤ a ∧ a ≤ p + 9)) : CQ (up M a k x) p K C N kd W lk :=
  h.fr (fun c c1 c2 => if_neg (by omega))
theorem CQ.cp {M : Mm} {p K C N : Nat} {kd : Nat → Nat} {W : Nat → Nat → Int32} {lk : Nat → Int32} (h : CQ M p K C N kd W lk) : CP M p K C N := h.1
/-- all worths are counted there -/
def WOk (M : Mm) (o : Nat) (W : Nat → Nat → Int32) (h : Nat → Int32) (N C : Nat) : Prop := ∀ i j, i < C → j < C → M (o + 1) (i * 4 + j) = wo W h N i (nI j)
theorem lkB_iff {lk : Nat → Int32} {C k : Nat} : lkB lk C k = true ↔ (k / 4 < C ∧ k % 4 < C) ∧ bt (lk (k / 4)) (nI (k % 4)) = true := by
  unfold lkB
  simp only [Bool.and_eq_true, decide_eq_true_eq, and_assoc]
theorem i_rc (s a b : Int32) : s + a + b = s + b + a := by rw [Int32.add_assoc, Int32.add_comm a b, ← Int32.add_assoc]
theorem o_rc (s a b : Int32) : s ||| a ||| b = s ||| b ||| a := by rw [Int32.or_assoc, Int32.or_comm a b, ← Int32.or_assoc]
theorem allE_g (W : Nat → Nat → Int32) (lk h : Nat → Int32) (n : Nat) {C : Nat} (hC : C ≤ 4) : allE W lk h n C = lp (fun k s => s + (if lkB lk C k then mx0 (wo W h n (k / 4) (nI (k % 4)) - wo W h n (k / 4) (nI (k / 4))) else 0)) 16 0 := by
  unfold allE
  rw [grid (fun a b : Int32 => a + b) 0 (fun s => Int32.add_zero s) (ev W lk h n) 0 hC]
  refine lp_congr (fun k hk a => ?_) 0
  congr 1
  unfold ev
  by_cases q : k / 4 < C ∧ k % 4 < C
  · rw [if_pos q]
    cases r : bt (lk (k / 4)) (nI (k % 4))
    · rw [if_neg (by decide), if_neg (fun e => by have := (lkB_iff.mp e).2; rw [r] at this; cases this)]
    · rw [if_pos rfl, if_pos (lkB_iff.mpr ⟨q, r⟩)]
  · rw [if_neg q, if_neg (fun e => q (lkB_iff.mp e).1)]
theorem e_v_allGrudges {A B o p K C N : Nat} {M : Mm} {Q : Po} {kd : Nat → Nat} {W : Nat → Nat → Int32} {lk h : Nat → Int32} (ho : isVV o) (hp : isPP p) (hq : CQ M p K C N kd W lk) (hw : WOk M o W h N C) : WP 99 0 [.ref o, .ref p, mk, mk] [] (shw A B) (0, 0) M Q = Q (some (.int (allE W lk h N C))) (shw A B) M := by
  obtain ⟨⟨h1, h4, h5, h6⟩, hk, hW, hl, P, l1, l2, p1, p2, p3, p4⟩ := hq
  refine WP.is (fun Q hQ => ?_)
  rw [allE_g W lk h N h5, ← p4 Int32 (fun a b => a + b) 0 0 (fun i j => mx0 (wo W h N i (nI j) - wo W h N i (nI i))) i_rc (fun s => Int32.add_zero s)] at hQ
  simp only [w_v_allGrudges_0, w_v_allGrudges_1, w_v_allGrudges_2, w_v_allGrudges_3, w_v_allGrudges_5, w_v_allGrudges_6, w_v_allGrudges_9, w_v_allGrudges_12, w_v_allGrudges_13, w_v_allGrudges_14, w_v_allGrudges_15, w_v_allGrudges_16, w_v_allGrudges_19, w_v_allGrudges_20, w_v_allGrudges_21, w_v_allGrudges_22, w_v_allGrudges_25, w_v_allGrudges_26, w_v_allGrudges_27, w_v_allGrudges_30, w_v_allGrudges_33, w_v_allGrudges_34, w_v_allGrudges_35, w_v_allGrudges_38, w_v_allGrudges_41, w_v_allGrudges_42, i10, Bool.false_eq_true, eq_self, true_or, or_true, if_true, if_false, gv_int, gv_ref, av_some, al_some, un_int, un_ref, un_mk, ok4_0, ok4_1, ok4_2, ok4_3, ok4_4, Kn_some, Kn_none, true_and, and_true]
  refine for_up (n := P) (P := fun k => WP 99 4 [.ref o, .ref p, .int (lp (fun q s => s + mx0 (wo W h N (l1 q) (nI (l2 q)) - wo W h N (l1 q) (nI (l1 q)))) k 0), .int (nI k)] [] (shw A B) (0, 0) M Q) ?_ ?_
  · rw [w_v_allGrudges_4]
    simp only [w_v_allGrudges_0, w_v_allGrudges_1, w_v_allGrudges_2, w_v_allGrudges_3, w_v_allGrudges_5, w_v_allGrudges_6, w_v_allGrudges_9, w_v_allGrudges_12, w_v_allGrudges_13, w_v_allGrudges_14, w_v_allGrudges_15, w_v_allGrudges_16, w_v_allGrudges_19, w_v_allGrudges_20, w_v_allGrudges_21, w_v_allGrudges_22, w_v_allGrudges_25, w_v_allGrudges_26, w_v_allGrudges_27, w_v_allGrudges_30, w_v_allGrudges_33, w_v_allGrudges_34, w_v_allGrudges_35, w_v_allGrudges_38, w_v_allGrudges_41, w_v_allGrudges_42, xpp_3 hp, p1, lt_irr, i10, Bool.false_eq_true, eq_self, true_or, or_true, if_true, if_false, gv_int, gv_ref, av_some, al_some, un_int, un_ref, un_mk, ok4_0, ok4_1, ok4_2, ok4_3, ok4_4, Kn_some, Kn_none, true_and, and_true]
    exact hQ
  · intro k hk ih
    have g1 : nI k < nI P := nI_lt hk (by omega)
    have g2 : vp_in (nI k) 12 := vp_in_nI (by omega) (by decide)
    obtain ⟨⟨q1, q2⟩, q3, q4⟩ := p3 k hk
    rw [lp_s] at ih
    generalize lp (fun q s => s + mx0 (wo W h N (l1 q) (nI (l2 q)) - wo W h N (l1 q) (nI (l1 q)))) k 0 = b0 at ih ⊢
    rw [← hw _ _ q3 q4, ← hw _ _ q3 q3] at ih
    rw [w_v_allGrudges_4]
    simp only [w_v_allGrudges_0, w_v_allGrudges_1, w_v_allGrudges_2, w_v_allGrudges_3, w_v_allGrudges_5, w_v_allGrudges_6, w_v_allGrudges_9, w_v_allGrudges_12, w_v_allGrudges_13, w_v_allGrudges_14, w_v_allGrudges_15, w_v_allGrudges_16, w_v_allGrudges_19, w_v_allGrudges_20, w_v_allGrudges_21, w_v_allGrudges_22, w_v_allGrudges_25, w_v_allGrudges_26, w_v_allGrudges_27, w_v_allGrudges_30, w_v_allGrudges_33, w_v_allGrudges_34, w_v_allGrudges_35, w_v_allGrudges_38, w_v_allGrudges_41, w_v_allGrudges_42, xpp_3 hp, p1, g1, g2, xpp_10 hp, xpp_11 hp, ypp_7 hp, ypp_8 hp, nI_clamp (show k < 2 ^ 31 by omega), q1, q2, e_v_lead ho (show l1 k < 4 by omega) (show l2 k < 4 by omega), zvv ho, nI_1, i10, Bool.false_eq_true, eq_self, true_or, or_true, if_true, if_false, gv_int, gv_ref, av_some, al_some, un_int, un_ref, un_mk, ok4_0, ok4_1, ok4_2, ok4_3, ok4_4, Kn_some, Kn_none, true_and, and_true]
    exact ih
/-- the set of pairs with envy -/
def enB (E : Nat → Nat → Int32) (C k : Nat) : Bool := decide (k / 4 < C) && (decide (k % 4 < C) && decide (0 < E (k / 4) (k % 4)))
theorem ev_pos {W : Nat → Nat → Int32} {lk h : Nat → Int32} {n i j : Nat} : 0 < ev W lk h n i j ↔ bt (lk i) (nI j) = true ∧ 0 < wo W h n i (nI j) - wo W h n i (nI i) := by
  unfold ev mx0
  cases bt (lk i) (nI j)
  · rw [if_neg (by decide)]; exact ⟨fun e => absurd e (by decide), fun e => absurd e.1 (by decide)⟩
  · rw [if_pos rfl]
    split
    · rename_i q; exact ⟨fun _ => ⟨rfl, q⟩, fun _ => q⟩
    · rename_i q; exact ⟨fun e => absurd e (by decide), fun e => absurd e.2 q⟩
theorem enE_g (W : Nat → Nat → Int32) (lk h : Nat → Int32) (n C : Nat) : bS (enB (ev W lk h n) C) 16 = lp (fun k s => s ||| (if lkB lk C k then (if 0 < wo W h n (k / 4) (nI (k % 4)) - wo W h n (k / 4) (nI (k / 4)) then 1 <<< (nI (k / 4 * 4 + k % 4) &&& 31) else 0) else 0)) 16 (0 : Int32) := by
  unfold bS
  refine lp_congr (fun k hk a => ?_) 0
  congr 1
  rw [show k / 4 * 4 + k % 4 = k by omega]
  by_cases q : lkB lk C k = true
  · rw [if_pos q]
    have q := lkB_iff.mp q
    by_cases r : 0 < wo W h n (k / 4) (nI (k % 4)) - wo W h n (k / 4) (nI (k / 4))
    · rw [if_pos r, if_pos]
      unfold enB
      rw [decide_eq_true q.1.1, decide_eq_true q.1.2, decide_eq_true (ev_pos.mpr ⟨q.2, r⟩)]; rfl
    · rw [if_neg r, if_neg]
      unfold enB
      rw [decide_eq_false (fun e => r (ev_pos.mp e).2), Bool.and_false, Bool.and_false]; decide
  · rw [if_neg q, if_neg]
    intro e
    unfold enB at e
    simp only [Bool.and_eq_true, decide_eq_true_eq] at e
    exact q (lkB_iff.mpr ⟨⟨e.1, e.2.1⟩, (ev_pos.mp e.2.2).1⟩)
theorem e_v_enviedPairs {A B o p K C N : Nat} {M : Mm} {Q : Po} {kd : Nat → Nat} {W : Nat → Nat → Int32} {lk h : Nat → Int32} (ho : isVV o) (hp : isPP p) (hq : CQ M p K C N kd W lk) (hw : WOk M o W h N C) : WP 101 0 [.ref o, .ref p, mk, mk, mk, mk] [] (shw A B) (0, 0) M Q = Q (some (.int (bS (enB (ev W lk h N) C) 16))) (shw A B) M := by
  obtain ⟨⟨h1, h4, h5, h6⟩, hk, hW, hl, P, l1, l2, p1, p2, p3, p4⟩ := hq
  refine WP.is (fun Q hQ => ?_)
  rw [enE_g W lk h N C, ← p4 Int32 (fun a b => a ||| b) 0 0 (fun i j => if 0 < wo W h N i (nI j) - wo W h N i (nI i) then 1 <<< (nI (i * 4 + j) &&& 31) else 0) o_rc (fun s => Int32.or_zero)] at hQ
  simp only [w_v_enviedPairs_0, w_v_enviedPairs_1, w_v_enviedPairs_2, w_v_enviedPairs_3, w_v_enviedPairs_5, w_v_enviedPairs_6, w_v_enviedPairs_9, w_v_enviedPairs_12, w_v_enviedPairs_13, w_v_enviedPairs_16, w_v_enviedPairs_17, w_v_enviedPairs_18, w_v_enviedPairs_20, w_v_enviedPairs_21, w_v_enviedPairs_24, w_v_enviedPairs_25, w_v_enviedPairs_26, w_v_enviedPairs_28, w_v_enviedPairs_29, w_v_enviedPairs_31, w_v_enviedPairs_33, w_v_enviedPairs_36, w_v_enviedPairs_39, w_v_enviedPairs_40, w_v_enviedPairs_42, w_v_enviedPairs_44, w_v_enviedPairs_47, w_v_enviedPairs_48, w_v_enviedPairs_49, w_v_enviedPairs_52, w_v_enviedPairs_55, w_v_enviedPairs_56, i10, Bool.false_eq_true, eq_self, true_or, or_true, if_true, if_false, gv_int, gv_ref, av_some, al_some, un_int, un_ref, un_mk, ok4_0, ok4_1, ok4_2, ok4_3, ok4_4, Kn_some, Kn_none, true_and, and_true]
  refine for_up (n := P) (P := fun k => ∀ j4 j5, WP 101 4 [.ref o, .ref p, .int (lp (fun q s => s ||| (if 0 < wo W h N (l1 q) (nI (l2 q)) - wo W h N (l1 q) (nI (l1 q)) then 1 <<< (nI (l1 q * 4 + l2 q) &&& 31) else 0)) k 0), .int (nI k), j4, j5] [] (shw A B) (0, 0) M Q) ?_ ?_ _ _
  · intro j4 j5
    rw [w_v_enviedPairs_4]
    simp only [w_v_enviedPairs_0, w_v_enviedPairs_1, w_v_enviedPairs_2, w_v_enviedPairs_3, w_v_enviedPairs_5, w_v_enviedPairs_6, w_v_enviedPairs_9, w_v_enviedPairs_12, w_v_enviedPairs_13, w_v_enviedPairs_16, w_v_enviedPairs_17, w_v_enviedPairs_18, w_v_enviedPairs_20, w_v_enviedPairs_21, w_v_enviedPairs_24, w_v_enviedPairs_25, w_v_enviedPairs_26, w_v_enviedPairs_28, w_v_enviedPairs_29, w_v_enviedPairs_31, w_v_enviedPairs_33, w_v_enviedPairs_36, w_v_enviedPairs_39, w_v_enviedPairs_40, w_v_enviedPairs_42, w_v_enviedPairs_44, w_v_enviedPairs_47, w_v_enviedPairs_48, w_v_enviedPairs_49, w_v_enviedPairs_52, w_v_enviedPairs_55, w_v_enviedPairs_56, xpp_3 hp, p1, lt_irr, i10, Bool.false_eq_true, eq_self, true_or, or_true, if_true, if_false, gv_int, gv_ref, av_some, al_some, un_int, un_ref, un_mk, ok4_0, ok4_1, ok4_2, ok4_3, ok4_4, Kn_some, Kn_none, true_and, and_true]
    exact hQ
  · intro k hk ih j4 j5
    have g1 : nI k < nI P := nI_lt hk (by omega)
    have g2 : vp_in (nI k) 12 := vp_in_nI (by omega) (by decide)
    obtain ⟨⟨q1, q2⟩, q3, q4⟩ := p3 k hk
    simp only [lp_s] at ih
    generalize lp (fun q s => s ||| (if 0 < wo W h N (l1 q) (nI (l2 q)) - wo W h N (l1 q) (nI (l1 q)) then 1 <<< (nI (l1 q * 4 + l2 q) &&& 31) else 0)) k (0 : Int32) = b0 at ih ⊢
    have e : wo W h N (l1 k) (nI (l2 k)) - wo W h N (l1 k) (nI (l1 k)) = ldE (M (o + 1)) (l1 k) (l2 k) := by unfold ldE; rw [hw _ _ q3 q4, hw _ _ q3 q3]
    rw [e] at ih
    rw [w_v_enviedPairs_4]
    by_cases r : 0 < ldE (M (o + 1)) (l1 k) (l2 k)
    · rw [if_pos r] at ih
      simp only [w_v_enviedPairs_0, w_v_enviedPairs_1, w_v_enviedPairs_2, w_v_enviedPairs_3, w_v_enviedPairs_5, w_v_enviedPairs_6, w_v_enviedPairs_9, w_v_enviedPairs_12, w_v_enviedPairs_13, w_v_enviedPairs_16, w_v_enviedPairs_17, w_v_enviedPairs_18, w_v_enviedPairs_20, w_v_enviedPairs_21, w_v_enviedPairs_24, w_v_enviedPairs_25, w_v_enviedPairs_26, w_v_enviedPairs_28, w_v_enviedPairs_29, w_v_enviedPairs_31, w_v_enviedPairs_33, w_v_enviedPairs_36, w_v_enviedPairs_39, w_v_enviedPairs_40, w_v_enviedPairs_42, w_v_enviedPairs_44, w_v_enviedPairs_47, w_v_enviedPairs_48, w_v_enviedPairs_49, w_v_enviedPairs_52, w_v_enviedPairs_55, w_v_enviedPairs_56, xpp_3 hp, p1, g1, g2, xpp_10 hp, xpp_11 hp, ypp_7 hp, ypp_8 hp, nI_clamp (show k < 2 ^ 31 by omega), q1, q2, e_v_lead ho (show l1 k < 4 by omega) (show l2 k < 4 by omega), eq_true r, e_v_pairBit, zvv ho, nI_1, i10, Bool.false_eq_true, eq_self, true_or, or_true, if_true, if_false, gv_int, gv_ref, av_some, al_some, un_int, un_ref, un_mk, ok4_0, ok4_1, ok4_2, ok4_3, ok4_4, Kn_some, Kn_none, true_and, and_true]
      exact ih _ _
    · rw [if_neg r, Int32.or_zero] at ih
      simp only [w_v_enviedPairs_0, w_v_enviedPairs_1, w_v_enviedPairs_2, w_v_enviedPairs_3, w_v_enviedPairs_5, w_v_enviedPairs_6, w_v_enviedPairs_9, w_v_enviedPairs_12, w_v_enviedPairs_13, w_v_enviedPairs_16, w_v_enviedPairs_17, w_v_enviedPairs_18, w_v_enviedPairs_20, w_v_enviedPairs_21, w_v_enviedPairs_24, w_v_enviedPairs_25, w_v_enviedPairs_26, w_v_enviedPairs_28, w_v_enviedPairs_29, w_v_enviedPairs_31, w_v_enviedPairs_33, w_v_enviedPairs_36, w_v_enviedPairs_39, w_v_enviedPairs_40, w_v_enviedPairs_42, w_v_enviedPairs_44, w_v_enviedPairs_47, w_v_enviedPairs_48, w_v_enviedPairs_49, w_v_enviedPairs_52, w_v_enviedPairs_55, w_v_enviedPairs_56, xpp_3 hp, p1, g1, g2, xpp_10 hp, xpp_11 hp, ypp_7 hp, ypp_8 hp, nI_clamp (show k < 2 ^ 31 by omega), q1, q2, e_v_lead ho (show l1 k < 4 by omega) (show l2 k < 4 by omega), eq_false r, zvv ho, nI_1, i10, Bool.false_eq_true, eq_self, true_or, or_true, if_true, if_false, gv_int, gv_ref, av_some, al_some, un_int, un_ref, un_mk, ok4_0, ok4_1, ok4_2, ok4_3, ok4_4, Kn_some, Kn_none, true_and, and_true]
      exact ih _ _
theorem nS_I (b : Nat → Bool) : ∀ m, nI (nS b m) = lp (fun k s => s + (if b k then 1 else 0)) m (0 : Int32)
  | 0 => rfl
  | m + 1 => by
    rw [nS_s, lp_s, ← nS_I b m, ← nI_add]
    cases b m <;> rfl
theorem tearE_n (W : Nat → Nat → Int32) (lk h : Nat → Int32) (n : Nat) {C : Nat} (hC : C ≤ 4) : tearE W lk h n C = nI (nS (enB (ev W lk h n) C) 16) := by
  unfold tearE
  rw [nS_I, grid (fun a b : Int32 => a + b) 0 (fun s => Int32.add_zero s) (fun i j => if 0 < ev W lk h n i j then 1 else 0) 0 hC]
  refine lp_congr (fun k hk a => ?_) 0
  congr 1
  unfold enB
  by_cases q1 : k / 4 < C <;> by_cases q2 : k % 4 < C <;> by_cases q3 : 0 < ev W lk h n (k / 4) (k % 4) <;> simp [q1, q2, q3]
theorem e_v_tears {A B o p K C N : Nat} {M : Mm} {Q : Po} {kd : Nat → Nat} {W : Nat → Nat → Int32} {lk h : Nat → Int32} (ho : isVV o) (hp : isPP p) (hq : CQ M p K C N kd W lk) (hw : WOk M o W h N C) : WP 100 0 [.ref o, .ref p] [] (shw A B) (0, 0) M Q = Q (some (.int (tearE W lk h N C))) (shw A B) M := by
  simp only [w_v_tears_0, w_v_tears_1, w_v_tears_2, w_v_tears_5, w_v_tears_8, e_v_enviedPairs ho hp hq hw, e_j_bitCount, zvv ho, bc_bS (enB (ev W lk h N) C) (show 16 ≤ 16 by decide), tearE_n W lk h N hq.1.2.2.1, i10, Bool.false_eq_true, eq_self, true_or, or_true, if_true, if_false, gv_int, gv_ref, av_some, al_some, un_int, un_ref, un_mk, ok4_0, ok4_1, ok4_2, ok4_3, ok4_4, Kn_some, Kn_none, true_and, and_true]
theorem WOk_count {M : Mm} {o p r K C N : Nat} {kd : Nat → Nat} {W : Nat → Nat → Int32} {lk h : Nat → Int32} (hq : CQ M p K C N kd W lk) (hh : ∀ t, t < N → M (r + 1) t = h t) (hv : HV h C) : WOk (st M (o + 1) (ctF (M (p + 6)) kd (M (r + 1)) C N (flF 0 16 (M (o + 1))))) o W h N C := by
  intro i j hi hj
  obtain ⟨⟨h1, h4, h5, h6⟩, hk, hW, hl, -⟩ := hq
  rw [st_at, if_pos rfl]
  have e : ∀ n, n ≤ N → ctF (M (p + 6)) kd (M (r + 1)) C n (flF 0 16 (M (o + 1))) = ctF (M (p + 6)) kd h C n (flF 0 16 (M (o + 1))) := by
    intro n hn
    unfold ctF
    exact lp_congr (fun t ht g => by rw [hh t (by omega)]) _
  rw [e N (Nat.le_refl N), ctF_at (M (p + 6)) kd h C _ h5 (fun x hx => by unfold flF; rw [if_pos hx]) i j hi hj N h6 hv]
  unfold wo
  exact lp_congr (fun t ht s => by dsimp only; rw [hW i t hi ht]) _
