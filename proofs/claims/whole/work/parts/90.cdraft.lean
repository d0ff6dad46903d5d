/-! the component: a draft is what the text said so far -/
def FB (o : Nat) (M M' : Mm) : Prop := ∀ c j, ¬ (o ≤ c ∧ c ≤ o + 9) → (c = 1 → ¬ j = 2 ∧ ¬ j = 3 ∧ ¬ j = 4 ∧ ¬ j = 5) → M' c j = M c j
theorem Fc.fb {o : Nat} {M M' : Mm} (h : Fc M M') : FB o M M' := fun c j _ hc => h c j hc
theorem FB.tr {o : Nat} {M M' M'' : Mm} (h : FB o M M') (h' : FB o M' M'') : FB o M M'' := fun c j h1 h2 => (h' c j h1 h2).trans (h c j h1 h2)
theorem FB.uo {o a k : Nat} {M : Mm} {x : Int32} (h1 : o ≤ a) (h2 : a ≤ o + 9) : FB o M (up M a k x) := by
  intro c j hc _
  rw [up_at, if_neg (by omega)]
theorem FB.so {o a : Nat} {M : Mm} {f : Nat → Int32} (h1 : o ≤ a) (h2 : a ≤ o + 9) : FB o M (st M a f) := by
  intro c j hc _
  rw [st_at, if_neg (by omega)]
theorem FB.text {o : Nat} {M M' : Mm} (h : FB o M M') (ho : isPP o) : M' 2 = M 2 := funext (fun j => h 2 j (by unfold isPP at ho; omega) (fun e => absurd e (by decide)))
theorem TC.uo {M : Mm} {tl p a k : Nat} {x : Int32} (h : TC M tl p) (ha : ¬ a = 1) : TC (up M a k x) tl p := by
  unfold TC at h ⊢
  rw [up_c, if_neg (fun e => ha e.symm)]
  exact h
theorem TC.so {M : Mm} {tl p a : Nat} {f : Nat → Int32} (h : TC M tl p) (ha : ¬ a = 1) : TC (st M a f) tl p := by
  unfold TC at h ⊢
  rw [st_at, if_neg (fun e => ha e.symm)]
  exact h
def CD (M : Mm) (o K C N : Nat) (F : Mm) : Prop := CP M o K C N ∧ (∀ i, i < K → M (o + 1) i = F 67 i ∧ M (o + 2) i = F 68 i) ∧ (∀ i, i < C → M (o + 3) i = F 69 i ∧ M (o + 4) i = F 71 i) ∧ (∀ i k, i < C → k < K → M (o + 5) (i * 5 + k) = F 70 (5 * i + k) ∧ M (o + 6) (i * 5 + k) = if bt (F 69 i) (nI k) then 0 else F 70 (5 * i + k)) ∧ (∀ t, t < N → M (o + 9) t = F 72 t) ∧ (∃ P l1 l2, M o 3 = nI P ∧ P ≤ 12 ∧ (∀ q, q < P → (M (o + 7) q = nI (l1 q) ∧ M (o + 8) q = nI (l2 q)) ∧ l1 q < C ∧ l2 q < C) ∧ PL l1 l2 P (F 71) C) ∧ (∀ i j, i < C → j < 4 → bt (F 71 i) (nI j) = true → j < C ∧ ¬ j = i)
theorem CD.fr {M M' : Mm} {o K C N : Nat} {F : Mm} (h : CD M o K C N F) (hf : ∀ c, o ≤ c → c ≤ o + 9 → M' c = M c) : CD M' o K C N F := by
  unfold CD CP at h ⊢
  rw [hf o (by omega) (by omega), hf (o + 1) (by omega) (by omega), hf (o + 2) (by omega) (by omega), hf (o + 3) (by omega) (by omega), hf (o + 4) (by omega) (by omega), hf (o + 5) (by omega) (by omega), hf (o + 6) (by omega) (by omega), hf (o + 7) (by omega) (by omega), hf (o + 8) (by omega) (by omega), hf (o + 9) (by omega) (by omega)]
  exact h
theorem CD.fc {M M' : Mm} {o K C N : Nat} {F : Mm} (h : CD M o K C N F) (hf : Fc M M') (ho : isPP o) : CD M' o K C N F :=
  h.fr (fun c c1 c2 => hf.cell (by unfold isPP at ho; omega))
theorem CD_kind {M : Mm} {o K N : Nat} {F : Mm} {v w : Int32} (h : CD M o K 0 N F) (hK : K < 5) : CD (up (up (up M (o + 1) K v) (o + 2) K w) o 0 (nI (K + 1))) o (K + 1) 0 N (up (up F 67 K v) 68 K w) := by
  obtain ⟨⟨⟨a0, a1, a2⟩, b1, b2, b3⟩, t1, t2, t3, t4, ⟨P, l1, l2, p1, p2, p3, p4⟩, dd⟩ := h
  unfold CD CP
  simp only [uo_0_0, uo_0_1, uo_0_2, uo_0_3, uo_0_4, uo_0_5, uo_0_6, uo_0_7, uo_0_8, uo_0_9, uo_1_0, uo_1_1, uo_1_2, uo_1_3, uo_1_4, uo_1_5, uo_1_6, uo_1_7, uo_1_8, uo_1_9, uo_2_0, uo_2_1, uo_2_2, uo_2_3, uo_2_4, uo_2_5, uo_2_6, uo_2_7, uo_2_8, uo_2_9, uo_3_0, uo_3_1, uo_3_2, uo_3_3, uo_3_4, uo_3_5, uo_3_6, uo_3_7, uo_3_8, uo_3_9, uo_4_0, uo_4_1, uo_4_2, uo_4_3, uo_4_4, uo_4_5, uo_4_6, uo_4_7, uo_4_8, uo_4_9, uo_5_0, uo_5_1, uo_5_2, uo_5_3, uo_5_4, uo_5_5, uo_5_6, uo_5_7, uo_5_8, uo_5_9, uo_6_0, uo_6_1, uo_6_2, uo_6_3, uo_6_4, uo_6_5, uo_6_6, uo_6_7, uo_6_8, uo_6_9, uo_7_0, uo_7_1, uo_7_2, uo_7_3, uo_7_4, uo_7_5, uo_7_6, uo_7_7, uo_7_8, uo_7_9, uo_8_0, uo_8_1, uo_8_2, uo_8_3, uo_8_4, uo_8_5, uo_8_6, uo_8_7, uo_8_8, uo_8_9, uo_9_0, uo_9_1, uo_9_2, uo_9_3, uo_9_4, uo_9_5, uo_9_6, uo_9_7, uo_9_8, uo_9_9]
  refine ⟨⟨⟨?_, ?_, ?_⟩, by omega, by omega, b3⟩, ?_, fun i hi => absurd hi (Nat.not_lt_zero _), fun i k hi => absurd hi (Nat.not_lt_zero _), ?_, ⟨P, l1, l2, ?_, p2, p3, p4⟩, fun i j hi => absurd hi (Nat.not_lt_zero _)⟩
  · rw [upd_at, if_pos rfl]
  · rw [upd_at, if_neg (by decide)]; exact a1
  · rw [upd_at, if_neg (by decide)]; exact a2
  · intro i hi
    show upd (M (o + 1)) K v i = upd (F 67) K v i ∧ upd (M (o + 2)) K w i = upd (F 68) K w i
    simp only [upd_at]
    by_cases q : i = K
    · simp only [q, if_true]; exact ⟨trivial, trivial⟩
    · simp only [q, if_false]; exact t1 i (by omega)
  · exact t4
  · rw [upd_at, if_neg (by decide)]; exact p1
theorem CD_thing {M : Mm} {o K C N : Nat} {F : Mm} {v : Int32} (h : CD M o K C N F) (hN : N < 7) : CD (up (up M (o + 9) N v) o 2 (nI (N + 1))) o K C (N + 1) (up F 72 N v) := by
  obtain ⟨⟨⟨a0, a1, a2⟩, b1, b2, b3⟩, t1, t2, t3, t4, ⟨P, l1, l2, p1, p2, p3, p4⟩, dd⟩ := h
  unfold CD CP
  simp only [uo_0_0, uo_0_1, uo_0_2, uo_0_3, uo_0_4, uo_0_5, uo_0_6, uo_0_7, uo_0_8, uo_0_9, uo_1_0, uo_1_1, uo_1_2, uo_1_3, uo_1_4, uo_1_5, uo_1_6, uo_1_7, uo_1_8, uo_1_9, uo_2_0, uo_2_1, uo_2_2, uo_2_3, uo_2_4, uo_2_5, uo_2_6, uo_2_7, uo_2_8, uo_2_9, uo_3_0, uo_3_1, uo_3_2, uo_3_3, uo_3_4, uo_3_5, uo_3_6, uo_3_7, uo_3_8, uo_3_9, uo_4_0, uo_4_1, uo_4_2, uo_4_3, uo_4_4, uo_4_5, uo_4_6, uo_4_7, uo_4_8, uo_4_9, uo_5_0, uo_5_1, uo_5_2, uo_5_3, uo_5_4, uo_5_5, uo_5_6, uo_5_7, uo_5_8, uo_5_9, uo_6_0, uo_6_1, uo_6_2, uo_6_3, uo_6_4, uo_6_5, uo_6_6, uo_6_7, uo_6_8, uo_6_9, uo_7_0, uo_7_1, uo_7_2, uo_7_3, uo_7_4, uo_7_5, uo_7_6, uo_7_7, uo_7_8, uo_7_9, uo_8_0, uo_8_1, uo_8_2, uo_8_3, uo_8_4, uo_8_5, uo_8_6, uo_8_7, uo_8_8, uo_8_9, uo_9_0, uo_9_1, uo_9_2, uo_9_3, uo_9_4, uo_9_5, uo_9_6, uo_9_7, uo_9_8, uo_9_9]
  refine ⟨⟨⟨?_, ?_, ?_⟩, b1, b2, by omega⟩, t1, t2, t3, ?_, ⟨P, l1, l2, ?_, p2, p3, p4⟩, dd⟩
  · rw [upd_at, if_neg (by decide)]; exact a0
  · rw [upd_at, if_neg (by decide)]; exact a1
  · rw [upd_at, if_pos rfl]
  · intro t ht
    show upd (M (o + 9)) N v t = upd (F 72) N v t
    simp only [upd_at]
    by_cases q : t = N
    · simp only [q, if_true]
    · simp only [q, if_false]; exact t4 t (by omega)
  · rw [upd_at, if_neg (by decide)]; exact p1
theorem CD_look {M : Mm} {o K C N P i j : Nat} {F : Mm} (h : CD M o K C N F) (hP : M o 3 = nI P) (h12 : P < 12) (hi : i < C) (hj : j < C) (hij : ¬ i = j) (hb : bt (F 71 i) (nI j) = false) : CD (up (up (up (up M (o + 4) i (M (o + 4) i ||| 1 <<< (nI j &&& 31))) (o + 7) P (nI i)) (o + 8) P (nI j)) o 3 (nI (P + 1))) o K C N (up F 71 i (F 71 i ||| 1 <<< (nI j &&& 31))) := by
  obtain ⟨⟨⟨a0, a1, a2⟩, b1, b2, b3⟩, t1, t2, t3, t4, ⟨P', l1, l2, p1, p2, p3, p4⟩, dd⟩ := h
  have eP : P' = P := nI_iq (by omega) (by omega) (p1.symm.trans hP)
  subst eP
  have e4 := (t2 i hi).2
  unfold CD CP
  simp only [uo_0_0, uo_0_1, uo_0_2, uo_0_3, uo_0_4, uo_0_5, uo_0_6, uo_0_7, uo_0_8, uo_0_9, uo_1_0, uo_1_1, uo_1_2, uo_1_3, uo_1_4, uo_1_5, uo_1_6, uo_1_7, uo_1_8, uo_1_9, uo_2_0, uo_2_1, uo_2_2, uo_2_3, uo_2_4, uo_2_5, uo_2_6, uo_2_7, uo_2_8, uo_2_9, uo_3_0, uo_3_1, uo_3_2, uo_3_3, uo_3_4, uo_3_5, uo_3_6, uo_3_7, uo_3_8, uo_3_9, uo_4_0, uo_4_1, uo_4_2, uo_4_3, uo_4_4, uo_4_5, uo_4_6, uo_4_7, uo_4_8, uo_4_9, uo_5_0, uo_5_1, uo_5_2, uo_5_3, uo_5_4, uo_5_5, uo_5_6, uo_5_7, uo_5_8, uo_5_9, uo_6_0, uo_6_1, uo_6_2, uo_6_3, uo_6_4, uo_6_5, uo_6_6, uo_6_7, uo_6_8, uo_6_9, uo_7_0, uo_7_1, uo_7_2, uo_7_3, uo_7_4, uo_7_5, uo_7_6, uo_7_7, uo_7_8, uo_7_9, uo_8_0, uo_8_1, uo_8_2, uo_8_3, uo_8_4, uo_8_5, uo_8_6, uo_8_7, uo_8_8, uo_8_9, uo_9_0, uo_9_1, uo_9_2, uo_9_3, uo_9_4, uo_9_5, uo_9_6, uo_9_7, uo_9_8, uo_9_9]
  refine ⟨⟨⟨?_, ?_, ?_⟩, b1, b2, b3⟩, t1, ?_, t3, t4, ⟨P' + 1, fun q => if q = P' then i else l1 q, fun q => if q = P' then j else l2 q, ?_, by omega, ?_, ?_⟩, ?_⟩
  · rw [upd_at, if_neg (by decide)]; exact a0
  · rw [upd_at, if_neg (by decide)]; exact a1
  · rw [upd_at, if_neg (by decide)]; exact a2
  · intro k hk
    refine ⟨(t2 k hk).1, ?_⟩
    show upd (M (o + 4)) i _ k = upd (F 71) i _ k
    rw [upd_at, upd_at, e4]
    by_cases q : k = i
    · rw [if_pos q, if_pos q]
    · rw [if_neg q, if_neg q]; exact (t2 k hk).2
  · rw [upd_at, if_pos rfl]
  · intro q hq
    simp only [upd_at]
    by_cases z : q = P'
    · simp only [z, if_true]; exact ⟨⟨trivial, trivial⟩, hi, hj⟩
    · simp only [z, if_false]; exact p3 q (by omega)
  · show PL _ _ _ (upd (F 71) i (F 71 i ||| 1 <<< (nI j &&& 31))) C
    exact PL_look p4 b2 hi hj hb
  · intro a b ha hb2
    show bt (upd (F 71) i (F 71 i ||| 1 <<< (nI j &&& 31)) a) (nI b) = true → _
    rw [upd_at]
    by_cases q : a = i
    · rw [if_pos q, bt_set (by omega) (by omega)]
      intro z
      by_cases r : b = j
      · rw [r, q]; exact ⟨hj, fun e => hij e.symm⟩
      · rw [decide_eq_false r, Bool.or_false, ← q] at z
        exact dd a b ha hb2 z
    · rw [if_neg q]; exact dd a b ha hb2
theorem CD_child {M : Mm} {o K C N : Nat} {F : Mm} {b : Int32} (h : CD M o K C N F) (hC : C < 4) (hp : ∀ k, k < K → M (o + 5) (C * 5 + k) = F 70 (5 * C + k)) (h69 : F 69 C = b) (h71 : F 71 C = 0) : CD (up (st (up (up M (o + 3) C b) (o + 4) C 0) (o + 6) (acF b (M (o + 5)) (M (o + 6)) C K)) o 1 (nI (C + 1))) o K (C + 1) N F := by
  obtain ⟨⟨⟨a0, a1, a2⟩, b1, b2, b3⟩, t1, t2, t3, t4, ⟨P, l1, l2, p1, p2, p3, p4⟩, dd⟩ := h
  have r0 : st (up (up M (o + 3) C b) (o + 4) C 0) (o + 6) (acF b (M (o + 5)) (M (o + 6)) C K) o = M o := (if_neg (by omega)).trans (uo_0_4.trans uo_0_3)
  have rr : ∀ d, ¬ d = 0 → ¬ d = 3 → ¬ d = 4 → ¬ d = 6 → up (st (up (up M (o + 3) C b) (o + 4) C 0) (o + 6) (acF b (M (o + 5)) (M (o + 6)) C K)) o 1 (nI (C + 1)) (o + d) = M (o + d) := by
    intro d d0 d3 d4 d6
    rw [up_c, if_neg (by omega), st_at, if_neg (by omega), up_c, if_neg (by omega), up_c, if_neg (by omega)]
  have r3 : up (st (up (up M (o + 3) C b) (o + 4) C 0) (o + 6) (acF b (M (o + 5)) (M (o + 6)) C K)) o 1 (nI (C + 1)) (o + 3) = upd (M (o + 3)) C b := by
    rw [up_c, if_neg (by omega), st_at, if_neg (by omega), uo_3_4, uo_3_3]
  have r4 : up (st (up (up M (o + 3) C b) (o + 4) C 0) (o + 6) (acF b (M (o + 5)) (M (o + 6)) C K)) o 1 (nI (C + 1)) (o + 4) = upd (M (o + 4)) C 0 := by
    rw [up_c, if_neg (by omega), st_at, if_neg (by omega), uo_4_4, uo_4_3]
  have r6 : up (st (up (up M (o + 3) C b) (o + 4) C 0) (o + 6) (acF b (M (o + 5)) (M (o + 6)) C K)) o 1 (nI (C + 1)) (o + 6) = acF b (M (o + 5)) (M (o + 6)) C K := by
    rw [up_c, if_neg (by omega), st_at, if_pos rfl]
  unfold CD CP
  rw [rr 1 (by decide) (by decide) (by decide) (by decide), rr 2 (by decide) (by decide) (by decide) (by decide), rr 5 (by decide) (by decide) (by decide) (by decide), rr 7 (by decide) (by decide) (by decide) (by decide), rr 8 (by decide) (by decide) (by decide) (by decide), rr 9 (by decide) (by decide) (by decide) (by decide), r3, r4, r6, uo_0_0, r0]
  refine ⟨⟨⟨?_, ?_, ?_⟩, b1, by omega, b3⟩, t1, ?_, ?_, t4, ⟨P, l1, l2, ?_, p2, fun q hq => ⟨(p3 q hq).1, by have := (p3 q hq).2; omega, by have := (p3 q hq).2; omega⟩, ?_⟩, ?_⟩
  · rw [upd_at, if_neg (by decide)]; exact a0
  · rw [upd_at, if_pos rfl]
  · rw [upd_at, if_neg (by decide)]; exact a2
  · intro i hi
    rw [upd_at, upd_at]
    by_cases q : i = C
    · rw [if_pos q, if_pos q, q, h69, h71]; exact ⟨rfl, rfl⟩
    · rw [if_neg q, if_neg q]; exact t2 i (by omega)
  · intro i k hi hk
    unfold acF
    by_cases q : i = C
    · subst q
      rw [if_pos (by omega), show i * 5 + k - i * 5 = k by omega, h69, hp k hk]
      exact ⟨rfl, rfl⟩
    · rw [if_neg (by omega)]; exact t3 i k (by omega) hk
  · rw [upd_at, if_neg (by decide)]; exact p1
  · exact PL_eq p4 (fun k hk => lkB_child hC hk h71 (fun _ _ => rfl) (fun i j hi hj hbt => (dd i j hi hj hbt).1))
  · intro i j hi hj hbt
    by_cases q : i = C
    · rw [q, h71, bt_gb 0 (by omega), gb_0] at hbt
      cases hbt
    · have := dd i j (by omega) hj hbt
      exact ⟨by omega, this.2⟩
