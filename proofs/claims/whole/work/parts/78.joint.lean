/-! bounds; the relation of the two -/
def WB (W : Nat → Nat → Int32) (C N : Nat) : Prop := ∀ i t, i < C → t < N → ∃ x, x ≤ 99 ∧ W i t = nI x
theorem wo_b {W : Nat → Nat → Int32} {C N : Nat} (hW : WB W C N) (h : Nat → Int32) {i : Nat} (o : Int32) (hi : i < C) : ∀ n, n ≤ N → ∃ x, x ≤ 99 * n ∧ wo W h n i o = nI x
  | 0, _ => ⟨0, Nat.le_refl _, rfl⟩
  | n + 1, hn => by
    obtain ⟨x, x1, x2⟩ := wo_b hW h o hi n (by omega)
    obtain ⟨y, y1, y2⟩ := hW i n hi (by omega)
    rw [wo_s, x2]
    by_cases q : h n = o
    · rw [if_pos q, y2, nI_add]; exact ⟨x + y, by omega, rfl⟩
    · rw [if_neg q, Int32.add_zero]; exact ⟨x, by omega, rfl⟩
theorem mx0_b {a b : Nat} (ha : a < 2 ^ 30) (hb : b < 2 ^ 30) : mx0 (nI a - nI b) = nI (a - b) := by
  unfold mx0
  by_cases q : b < a
  · rw [pk_sub (by omega), if_pos (show 0 < nI (a - b) from nI_lt (a := 0) (by omega) (by omega))]
  · rw [show a - b = 0 by omega]
    by_cases r : a = b
    · rw [r, pk_sub (Nat.le_refl _), Nat.sub_self, if_neg (by decide)]; rfl
    · have := pk_sneg hb (show a < b by omega)
      rw [if_neg]
      · rfl
      · intro z
        have z1 := Int32.lt_iff_toInt_lt.mp z
        have z2 := Int32.lt_iff_toInt_lt.mp this
        omega
/-- what is envied, by a table of worths -/
def gZ (lk : Nat → Int32) (Z : Nat → Nat → Int32) (i j : Nat) : Int32 := if bt (lk i) (nI j) then mx0 (Z i j - Z i i) else 0
def allZ (lk : Nat → Int32) (Z : Nat → Nat → Int32) (C : Nat) : Int32 := lp (fun i s => lp (fun j s => s + gZ lk Z i j) C s) C 0
theorem allE_Z (W : Nat → Nat → Int32) (lk h : Nat → Int32) (n C : Nat) : allE W lk h n C = allZ lk (fun i j => wo W h n i (nI j)) C := rfl
theorem allZ_b {lk : Nat → Int32} {Z : Nat → Nat → Int32} {C D : Nat} (hC : C ≤ 4) (hD : D ≤ 10000) (hZ : ∀ i j, i < C → j < C → ∃ x, x ≤ D ∧ Z i j = nI x) : ∃ x, x ≤ 16 * D ∧ allZ lk Z C = nI x := by
  have hg : ∀ i j, i < C → j < C → ∃ x, x ≤ D ∧ gZ lk Z i j = nI x := by
    intro i j hi hj
    unfold gZ
    split
    · obtain ⟨x, x1, x2⟩ := hZ i j hi hj
      obtain ⟨y, y1, y2⟩ := hZ i i hi hi
      rw [x2, y2, mx0_b (by omega) (by omega)]
      exact ⟨x - y, by omega, rfl⟩
    · exact ⟨0, by omega, rfl⟩
  have inner : ∀ i, i < C → ∀ s, s ≤ 1000000 → ∀ k, k ≤ C → ∃ x, x ≤ s + k * D ∧ lp (fun j s => s + gZ lk Z i j) k (nI s) = nI x := by
    intro i hi s hs k
    induction k with
    | zero => intro _; exact ⟨s, by omega, rfl⟩
    | succ k ih =>
      intro hk
      obtain ⟨x, x1, x2⟩ := ih (by omega)
      obtain ⟨y, y1, y2⟩ := hg i k hi (by omega)
      rw [lp_s, x2, y2, nI_add]
      exact ⟨x + y, by rw [Nat.succ_mul]; omega, rfl⟩
  have outer : ∀ k, k ≤ C → ∃ x, x ≤ k * (4 * D) ∧ lp (fun i s => lp (fun j s => s + gZ lk Z i j) C s) k 0 = nI x := by
    intro k
    induction k with
    | zero => intro _; exact ⟨0, by omega, rfl⟩
    | succ k ih =>
      intro hk
      obtain ⟨x, x1, x2⟩ := ih (by omega)
      have hkd : k * (4 * D) ≤ 4 * (4 * D) := Nat.mul_le_mul_right _ (by omega)
      obtain ⟨y, y1, y2⟩ := inner k (by omega) x (by omega) C (Nat.le_refl C)
      rw [lp_s, x2, y2]
      have hcd : C * D ≤ 4 * D := Nat.mul_le_mul_right _ hC
      exact ⟨y, by rw [Nat.succ_mul]; omega, rfl⟩
  obtain ⟨x, x1, x2⟩ := outer C (Nat.le_refl C)
  have hcd : C * (4 * D) ≤ 4 * (4 * D) := Nat.mul_le_mul_right _ hC
  exact ⟨x, by omega, x2⟩
theorem allE_b {W : Nat → Nat → Int32} {C N : Nat} (hW : WB W C N) (hC : C ≤ 4) (hN : N ≤ 7) (lk h : Nat → Int32) : allE W lk h N C < 100000000 := by
  obtain ⟨x, x1, x2⟩ := allZ_b (lk := lk) (Z := fun i j => wo W h N i (nI j)) (D := 700) hC (by omega) (fun i j hi hj => by
    obtain ⟨x, x1, x2⟩ := wo_b hW h (nI j) hi N (Nat.le_refl N)
    exact ⟨x, by omega, x2⟩)
  rw [allE_Z, x2]
  exact nI_lt (b := 100000000) (by omega) (by decide)
theorem e_v_allZ {A B o p K C N : Nat} {M : Mm} {Q : Po} {kd : Nat → Nat} {W Z : Nat → Nat → Int32} {lk : Nat → Int32} (ho : isVV o) (hp : isPP p) (hq : CQ M p K C N kd W lk) (hw : ∀ i j, i < C → j < C → M (o + 1) (i * 4 + j) = Z i j) : WP 99 0 [.ref o, .ref p, mk, mk] [] (shw A B) (0, 0) M Q = Q (some (.int (allZ lk Z C))) (shw A B) M := by
  obtain ⟨⟨h1, h4, h5, h6⟩, hk, hW, hl, P, l1, l2, p1, p2, p3, p4⟩ := hq
  refine WP.is (fun Q hQ => ?_)
  have eg : allZ lk Z C = lp (fun q s => s + mx0 (Z (l1 q) (l2 q) - Z (l1 q) (l1 q))) P 0 := by
    rw [p4 Int32 (fun a b => a + b) 0 0 (fun i j => mx0 (Z i j - Z i i)) i_rc (fun s => Int32.add_zero s)]
    unfold allZ
    rw [grid (fun a b : Int32 => a + b) 0 (fun s => Int32.add_zero s) (gZ lk Z) 0 h5]
    refine lp_congr (fun k hk a => ?_) 0
    congr 1
    unfold gZ
    by_cases q : k / 4 < C ∧ k % 4 < C
    · rw [if_pos q]
      cases r : bt (lk (k / 4)) (nI (k % 4))
      · rw [if_neg (by decide), if_neg (fun e => by have := (lkB_iff.mp e).2; rw [r] at this; cases this)]
      · rw [if_pos rfl, if_pos (lkB_iff.mpr ⟨q, r⟩)]
    · rw [if_neg q, if_neg (fun e => q (lkB_iff.mp e).1)]
  rw [eg] at hQ
  simp only [w_v_allGrudges_0, w_v_allGrudges_1, w_v_allGrudges_2, w_v_allGrudges_3, w_v_allGrudges_5, w_v_allGrudges_6, w_v_allGrudges_9, w_v_allGrudges_12, w_v_allGrudges_13, w_v_allGrudges_14, w_v_allGrudges_15, w_v_allGrudges_16, w_v_allGrudges_19, w_v_allGrudges_20, w_v_allGrudges_21, w_v_allGrudges_22, w_v_allGrudges_25, w_v_allGrudges_26, w_v_allGrudges_27, w_v_allGrudges_30, w_v_allGrudges_33, w_v_allGrudges_34, w_v_allGrudges_35, w_v_allGrudges_38, w_v_allGrudges_41, w_v_allGrudges_42, i10, Bool.false_eq_true, eq_self, true_or, or_true, if_true, if_false, gv_int, gv_ref, av_some, al_some, un_int, un_ref, un_mk, ok4_0, ok4_1, ok4_2, ok4_3, ok4_4, Kn_some, Kn_none, true_and, and_true]
  refine for_up (n := P) (P := fun k => WP 99 4 [.ref o, .ref p, .int (lp (fun q s => s + mx0 (Z (l1 q) (l2 q) - Z (l1 q) (l1 q))) k 0), .int (nI k)] [] (shw A B) (0, 0) M Q) ?_ ?_
  · rw [w_v_allGrudges_4]
    simp only [w_v_allGrudges_0, w_v_allGrudges_1, w_v_allGrudges_2, w_v_allGrudges_3, w_v_allGrudges_5, w_v_allGrudges_6, w_v_allGrudges_9, w_v_allGrudges_12, w_v_allGrudges_13, w_v_allGrudges_14, w_v_allGrudges_15, w_v_allGrudges_16, w_v_allGrudges_19, w_v_allGrudges_20, w_v_allGrudges_21, w_v_allGrudges_22, w_v_allGrudges_25, w_v_allGrudges_26, w_v_allGrudges_27, w_v_allGrudges_30, w_v_allGrudges_33, w_v_allGrudges_34, w_v_allGrudges_35, w_v_allGrudges_38, w_v_allGrudges_41, w_v_allGrudges_42, xpp_3 hp, p1, lt_irr, i10, Bool.false_eq_true, eq_self, true_or, or_true, if_true, if_false, gv_int, gv_ref, av_some, al_some, un_int, un_ref, un_mk, ok4_0, ok4_1, ok4_2, ok4_3, ok4_4, Kn_some, Kn_none, true_and, and_true]
    exact hQ
  · intro k hk ih
    have g1 : nI k < nI P := nI_lt hk (by omega)
    have g2 : vp_in (nI k) 12 := vp_in_nI (by omega) (by decide)
    obtain ⟨⟨q1, q2⟩, q3, q4⟩ := p3 k hk
    rw [lp_s] at ih
    generalize lp (fun q s => s + mx0 (Z (l1 q) (l2 q) - Z (l1 q) (l1 q))) k 0 = b0 at ih ⊢
    rw [← hw _ _ q3 q4, ← hw _ _ q3 q3] at ih
    rw [w_v_allGrudges_4]
    simp only [w_v_allGrudges_0, w_v_allGrudges_1, w_v_allGrudges_2, w_v_allGrudges_3, w_v_allGrudges_5, w_v_allGrudges_6, w_v_allGrudges_9, w_v_allGrudges_12, w_v_allGrudges_13, w_v_allGrudges_14, w_v_allGrudges_15, w_v_allGrudges_16, w_v_allGrudges_19, w_v_allGrudges_20, w_v_allGrudges_21, w_v_allGrudges_22, w_v_allGrudges_25, w_v_allGrudges_26, w_v_allGrudges_27, w_v_allGrudges_30, w_v_allGrudges_33, w_v_allGrudges_34, w_v_allGrudges_35, w_v_allGrudges_38, w_v_allGrudges_41, w_v_allGrudges_42, xpp_3 hp, p1, g1, g2, xpp_10 hp, xpp_11 hp, ypp_7 hp, ypp_8 hp, nI_clamp (show k < 2 ^ 31 by omega), q1, q2, e_v_lead ho (show l1 k < 4 by omega) (show l2 k < 4 by omega), zvv ho, nI_1, i10, Bool.false_eq_true, eq_self, true_or, or_true, if_true, if_false, gv_int, gv_ref, av_some, al_some, un_int, un_ref, un_mk, ok4_0, ok4_1, ok4_2, ok4_3, ok4_4, Kn_some, Kn_none, true_and, and_true]
    exact ih
def rrN (C N : Nat) : Nat := lp (fun j s => s * C + j % C) N 0
set_option maxRecDepth 100000 in
theorem rr_ok : ∀ C, C < 5 → 0 < C → ∀ N, N < 8 → rrN C N < C ^ N ∧ evenE (gvF (fun _ => 0) C N (rrN C N)) N C = true := by decide +kernel
/-! the relation -/
def JP (M : Mm) (A K C N : Nat) : Prop := MD M K C N ∧ CQ M A K C N (kN M) (wT M) (M 63) ∧ (∀ k, k < K → M (A + 1) k = M 59 k ∧ M (A + 2) k = M 60 k) ∧ (∀ i, i < C → M (A + 3) i = M 61 i) ∧ (∀ i k, i < C → k < K → M (A + 5) (i * 5 + k) = M 62 (5 * i + k) ∧ M (A + 6) (i * 5 + k) = wN M i k) ∧ (∀ i j, i < C → j < 4 → bt (M 63 i) (nI j) = true → j < C) ∧ (∀ i k, i < C → k < K → ∃ x, x ≤ 99 ∧ M 62 (5 * i + k) = nI x) ∧ (∀ t, t < N → kN M t < K)
def JH (f4 f17 fn : Nat → Int32) (C : Nat) : Prop := f4 = fn ∧ HV fn C ∧ (∀ j, ¬ j < 7 → f17 j = fn j) ∧ (∀ j, ¬ j < 7 → fn j = 0)
def JT (x1 x5 : Int32) (f2 : Nat → Int32) (y1 y5 : Int32) (ft : Nat → Int32) : Prop := ∃ k, k ≤ 240 ∧ x1 = nI k ∧ y1 = nI k ∧ f2 = ft ∧ (∀ i, i < k → ¬ ft i < 0) ∧ x5 = y5
def JZ (x : Int32) (f8 : Nat → Int32) (y : Int32) (fp : Nat → Int32) (C : Nat) : Prop := ∃ u, u ≤ 20 ∧ x = nI u ∧ y = nI u ∧ ∀ j, j < u → f8 j = pkE (fun t => fp (7 * j + t)) 7 ∧ HV (fun t => fp (7 * j + t)) C
def JI (f9 f10 f11 fi fk : Nat → Int32) (C : Nat) : Prop := ∀ i, i < 2 → f11 i = fk i ∧ (f11 i = 0 ∨ (f11 i = 1 ∧ f9 i = pkE (fun t => fi (8 * i + t)) 7 ∧ HV (fun t => fi (8 * i + t)) C ∧ f10 i = fi (8 * i + 7) ∧ ¬ f10 i < 0))
/-- pair k was seen so -/
def seB (so sa si : Nat → Int32) (v : Int32) (s k : Nat) : Bool := lp (fun q b => b || (decide (si q = v) && decide (so q = nI (k / 4) ∧ sa q = nI (k % 4)))) s false
def JN (x0 x1 x2 y : Int32) (so sa si : Nat → Int32) (C : Nat) : Prop := ∃ s, s ≤ 6 ∧ x0 = nI s ∧ y = nI s ∧ (∀ q, q < s → (∃ i, i < C ∧ so q = nI i) ∧ (∃ j, j < C ∧ sa q = nI j) ∧ (si q = 0 ∨ si q = 1)) ∧ x1 = bS (seB so sa si 1 s) 16 ∧ x2 = bS (seB so sa si 0 s) 16
def JB (x5 y : Int32) (f13 f14 bo bw : Nat → Int32) : Prop := ∃ b, b ≤ 15 ∧ x5 = nI b ∧ y = nI b ∧ ∀ k, k < b → f13 k = bo k ∧ f14 k = bw k ∧ ∃ t, t < 7 ∧ bo k = nI t
def JC (x y : Int32) : Prop := x = y ∧ ¬ y < 0
def JS (M : Mm) (C N : Nat) : Prop := M 21 3 = 0 ∨ (M 21 3 = 1 ∧ SHK M (wT M) (M 63) C N)
def JG (M : Mm) (C N : Nat) : Prop := M 29 4 = 0 ∨ (M 29 4 = 1 ∧ GK M (wT M) (M 63) (M 76) (M 77) (M 78) (M 58 30).toNatClampNeg N C)
def AB (A B : Nat) : Prop := (A = 38 ∧ B = 48) ∨ (A = 48 ∧ B = 38)
def JX (M : Mm) (A B K C N : Nat) : Prop := AB A B ∧ JP M A K C N ∧ JH (M 4) (M 17) (M 65) C ∧ JT (M 1 1) (M 1 5) (M 2) (M 58 12) (M 58 13) (M 66) ∧ JZ (M 7 4) (M 8) (M 58 26) (M 73) C ∧ JI (M 9) (M 10) (M 11) (M 83) (M 84) C ∧ JN (M 12 0) (M 12 1) (M 12 2) (M 58 30) (M 76) (M 77) (M 78) C ∧ JB (M 12 5) (M 58 37) (M 13) (M 14) (M 81) (M 82) ∧ JC (M 0 10) (M 58 10) ∧ JS M C N ∧ JG M C N
def JJ (M : Mm) (A B : Nat) : Prop := ∃ K C N, JX M A B K C N
/-- the reference's answer is the same, and all is related again -/
def JR (A B : Nat) (r : Int32) : Po := fun v sh M => v = some (.int r) ∧ sh = shw A B ∧ JJ M A B
def JQ (z : Nat) (L : List Value) : Po := fun v sh M => ∃ r A B, v = some (.int r) ∧ sh = shw A B ∧ WP z 0 L [] (shw A B) (0, 0) M (JR A B r)
theorem JQ.mk {z A B : Nat} {L : List Value} {M : Mm} {r : Int32} (h : WP z 0 L [] (shw A B) (0, 0) M (JR A B r)) : JQ z L (some (.int r)) (shw A B) M := ⟨r, A, B, rfl, rfl, h⟩
theorem JP.fr {M M' : Mm} {A B K C N : Nat} (ha : AB A B) (h : JP M A K C N) (hf : ∀ c, 38 ≤ c → c ≤ 57 → M' c = M c) (h1 : M' 58 0 = M 58 0 ∧ M' 58 3 = M 58 3 ∧ M' 58 7 = M 58 7) (h2 : M' 59 = M 59 ∧ M' 60 = M 60 ∧ M' 61 = M 61 ∧ M' 62 = M 62 ∧ M' 63 = M 63 ∧ M' 64 = M 64) : JP M' A K C N := by
  obtain ⟨a0, a3, a7⟩ := h1
  obtain ⟨b1, b2, b3, b4, b5, b6⟩ := h2
  have hA : 38 ≤ A ∧ A ≤ 48 := by unfold AB at ha; omega
  have ek : kN M' = kN M := by unfold kN; rw [b6]
  have ew : wN M' = wN M := by unfold wN; rw [b3, b4]
  have et : wT M' = wT M := by unfold wT; rw [ew, ek]
  obtain ⟨c1, c2, c3, c4, c5, c6, c7, c8⟩ := h
  refine ⟨?_, ?_, ?_, ?_, ?_, ?_, ?_, ?_⟩
  · unfold MD at c1 ⊢; rw [a0, a3, a7, b6]; exact c1
  · rw [ek, et, b5]; exact c2.fr (fun c d1 d2 => hf c (by omega) (by omega))
  · rw [hf (A + 1) (by omega) (by omega), hf (A + 2) (by omega) (by omega), b1, b2]; exact c3
  · rw [hf (A + 3) (by omega) (by omega), b3]; exact c4
  · rw [hf (A + 5) (by omega) (by omega), hf (A + 6) (by omega) (by omega), b4, ew]; exact c5
  · rw [b5]; exact c6
  · rw [b4]; exact c7
  · rw [ek]; exact c8
theorem AB.pp {A B : Nat} (h : AB A B) : isPP A := by unfold AB at h; unfold isPP; omega
theorem JX.wb {M : Mm} {A B K C N : Nat} (h : JX M A B K C N) : WB (wT M) C N := by
  intro i t hi ht
  obtain ⟨-, ⟨-, -, -, -, -, -, c7, c8⟩, -⟩ := h
  obtain ⟨x, x1, x2⟩ := c7 i (kN M t) hi (c8 t ht)
  unfold wT wN
  split
  · exact ⟨0, by omega, rfl⟩
  · exact ⟨x, x1, x2⟩
theorem c_worthsNow {A B K C N : Nat} {M : Mm} {Q : Po} {kd : Nat → Nat} {W : Nat → Nat → Int32} {lk : Nat → Int32} (hp : isPP A) (hq : CQ M A K C N kd W lk) (hv : HV (M 4) C) (hQ : ∀ f, WOk (st M 6 f) 5 W (M 4) N C → Q (some (.ref 5)) (shw A B) (st M 6 f)) : WP 139 0 [.ref 0] [] (shw A B) (0, 0) M Q := by
  simp only [w_c_worthsNow_0, w_c_worthsNow_1, w_c_worthsNow_4, w_c_worthsNow_5, w_c_worthsNow_8, w_c_worthsNow_9, w_c_worthsNow_12, w_c_worthsNow_15, w_c_worthsNow_16, w_c_worthsNow_19, xc_2, xc_8, xc_1, cl_5, i10, Bool.false_eq_true, eq_self, true_or, or_true, if_true, if_false, gv_int, gv_ref, av_some, al_some, un_int, un_ref, un_mk, ok4_0, ok4_1, ok4_2, ok4_3, ok4_4, Kn_some, Kn_none, true_and, and_true]
  refine c_count isVV_5 hp isHH_3 hq (fun t ht => rfl) hv (fun f hf => ?_)
  simp only [w_c_worthsNow_0, w_c_worthsNow_1, w_c_worthsNow_4, w_c_worthsNow_5, w_c_worthsNow_8, w_c_worthsNow_9, w_c_worthsNow_12, w_c_worthsNow_15, w_c_worthsNow_16, w_c_worthsNow_19, xc_2, xc_8, xc_1, i10, Bool.false_eq_true, eq_self, true_or, or_true, if_true, if_false, gv_int, gv_ref, av_some, al_some, un_int, un_ref, un_mk, ok4_0, ok4_1, ok4_2, ok4_3, ok4_4, Kn_some, Kn_none, true_and, and_true]
  exact hQ f hf
/-- only the counted worths have changed -/
theorem JX.s6 {M : Mm} {A B K C N : Nat} (h : JX M A B K C N) (f : Nat → Int32) : JX (st M 6 f) A B K C N := by
  obtain ⟨h0, h1, h2⟩ := h
  exact ⟨h0, h1.fr h0 (fun c c1 c2 => if_neg (by omega)) ⟨rfl, rfl, rfl⟩ ⟨rfl, rfl, rfl, rfl, rfl, rfl⟩, h2⟩
