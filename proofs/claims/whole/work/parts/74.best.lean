/-! the component: the best order -/
theorem c_count {A B o p r K C N : Nat} {M : Mm} {Q : Po} {kd : Nat → Nat} {W : Nat → Nat → Int32} {lk h : Nat → Int32} (ho : isVV o) (hp : isPP p) (hr : isHH r) (hq : CQ M p K C N kd W lk) (hh : ∀ t, t < N → M (r + 1) t = h t) (hv : HV h C) (hQ : ∀ f, WOk (st M (o + 1) f) o W h N C → Q none (shw A B) (st M (o + 1) f)) : WP 95 0 [.ref o, .ref p, .ref r, mk] [] (shw A B) (0, 0) M Q := by
  rw [e_v_count ho hp hr hq.1 hq.2.1]
  exact hQ _ (WOk_count hq hh hv)
theorem bsB_skip {ok : Nat → Bool} {V : Nat → Int32} {a : Nat} : ∀ d, (∀ k, a ≤ k → k < a + d → ok k = false) → bsB ok V (a + d) = bsB ok V a
  | 0, _ => rfl
  | d + 1, hd => by
    rw [← Nat.add_assoc, bsB_s, hd (a + d) (by omega) (by omega), if_neg (by decide)]
    exact bsB_skip d (fun k h1 h2 => hd k h1 (by omega))
theorem bsB_form {ok : Nat → Bool} {V : Nat → Int32} (hV : ∀ k, V k < 100000000) : ∀ n, (bsB ok V n = (-1, 100000000) ∧ ∀ k, k < n → ok k = false) ∨ ∃ j, j < n ∧ (bsB ok V n).1 = nI j
  | 0 => Or.inl ⟨rfl, fun k hk => absurd hk (Nat.not_lt_zero _)⟩
  | n + 1 => by
    rw [bsB_s]
    rcases bsB_form hV n with ⟨e, h⟩ | ⟨j, j1, j2⟩
    · cases q : ok n
      · rw [if_neg (by decide)]
        exact Or.inl ⟨e, fun k hk => by
          by_cases r : k = n
          · rw [r]; exact q
          · exact h k (by omega)⟩
      · rw [if_pos rfl, e, if_pos (hV n)]
        exact Or.inr ⟨n, by omega, rfl⟩
    · cases q : ok n
      · rw [if_neg (by decide)]
        exact Or.inr ⟨j, by omega, j2⟩
      · rw [if_pos rfl]
        split
        · exact Or.inr ⟨n, by omega, rfl⟩
        · exact Or.inr ⟨j, by omega, j2⟩
/-- only what the trials write on has changed -/
def FT (M M' : Mm) : Prop := (∀ c, ¬ (c = 15 ∨ c = 17 ∨ c = 19 ∨ c = 20) → M' c = M c) ∧ ∀ j, ¬ j < 7 → M' 17 j = M 17 j
theorem FT.rf {M : Mm} : FT M M := ⟨fun _ _ => rfl, fun _ _ => rfl⟩
theorem FT.sa {M M' : Mm} {a : Nat} {f : Nat → Int32} (h : FT M M') (ha : a = 19 ∨ a = 20) : FT M (st M' a f) :=
  ⟨fun c hc => (if_neg (by omega)).trans (h.1 c hc), fun j hj => (congrFun (if_neg (by omega)) j).trans (h.2 j hj)⟩
theorem FT.s17 {M M' : Mm} {f : Nat → Int32} (h : FT M M') (hf : ∀ j, ¬ j < 7 → f j = M 17 j) : FT M (st M' 17 f) :=
  ⟨fun c hc => (if_neg (by omega)).trans (h.1 c hc), fun j hj => hf j hj⟩
theorem FT.ua {M M' : Mm} {k : Nat} {x : Int32} (h : FT M M') : FT M (up M' 15 k x) :=
  ⟨fun c hc => (if_neg (by omega)).trans (h.1 c hc), h.2⟩
theorem FT.cq {M M' : Mm} {p K C N : Nat} {kd : Nat → Nat} {W : Nat → Nat → Int32} {lk : Nat → Int32} (h : FT M M') (hp : isPP p) (hq : CQ M p K C N kd W lk) : CQ M' p K C N kd W lk :=
  hq.fr (fun c c1 c2 => h.1 c (by have := T_ne (k := 0) hp; omega))
theorem chE_HV {W : Nat → Nat → Int32} {n c : Nat} {r : Nat → Nat} (hn : n ≤ 7) (hc : 0 < c) (hr : ∀ j, j < c → r j < c) : ∀ (f k : Nat) (h : Nat → Int32), HV h c → HV (chE W n c r f k h) c
  | 0, k, h, hh => hh
  | f + 1, k, h, hh => by
    unfold chE
    split
    · exact hh
    · exact chE_HV hn hc hr f (k + 1) _ (HV_upd hh (hr _ (Nat.mod_lt _ hc)))
theorem row_lt {c : Nat} {o : Int32} (h : tOK c o = true) (hc : c ≤ 4) : ∀ j, j < c → rwN c o j < c := by
  intro j hj
  unfold tOK at h
  simp only [Bool.and_eq_true] at h
  have := tG_good h.1 (c - 1 - j) (by omega)
  obtain ⟨i, i1, i2⟩ := inb_of this (by omega)
  unfold rwN
  rw [i2, nI_clamp (by omega)]
  exact i1
theorem c_bestOrderOf {A B p K C N : Nat} {M : Mm} {Q : Po} {kd : Nat → Nat} {W : Nat → Nat → Int32} {lk : Nat → Int32} (hp : isPP p) (hq : CQ M p K C N kd W lk) (hv : HV (M 4) C) (ht : ∀ j, ¬ j < 7 → M 17 j = M 4 j) (hC : 0 < C) (hV : ∀ k, bsV W lk (M 4) N C k < 100000000) (hQ : ∀ M', FT M M' → (∃ j, (boE W lk (M 4) N C).1 = nI j ∧ j < 4322) → M' 15 3 = (boE W lk (M 4) N C).2 → Q (some (.int (boE W lk (M 4) N C).1)) (shw A B) M') : WP 88 0 [.ref 15, .ref p, .ref 3, mk, mk, mk, mk, mk] [] (shw A B) (0, 0) M Q := by
  obtain ⟨⟨h1, h2, h3⟩, h4, h5, h6⟩ := id hq.1
  obtain ⟨f1, f2, f3⟩ := or_fl C (by omega)
  have hin : ∀ k, k < 4340 → ¬ (fiN C ≤ k ∧ k ≤ laN C C ∧ (k - fiN C) % 9 = 0) → tOK C (nI k) = false := by
    intro k hk hn
    cases e : tOK C (nI k) with
    | false => rfl
    | true => exact absurd (or_in hC h5 hk e) hn
  have hfin : bsB (fun k => tOK C (nI k)) (bsV W lk (M 4) N C) (laN C C + 9) = boE W lk (M 4) N C := by
    unfold boE
    have e1 := bsB_skip (ok := fun k => tOK C (nI k)) (V := bsV W lk (M 4) N C) (a := laN C C + 1) 8 (fun k k1 k2 => hin k (by omega) (by omega))
    have e2 := bsB_skip (ok := fun k => tOK C (nI k)) (V := bsV W lk (M 4) N C) (a := laN C C + 1) (4321 - laN C C) (fun k k1 k2 => hin k (by omega) (by omega))
    rw [show laN C C + 1 + (4321 - laN C C) = 4322 by omega] at e2
    rw [e2]
    exact e1
  have h0 : bsB (fun k => tOK C (nI k)) (bsV W lk (M 4) N C) (fiN C) = (-1, 100000000) := by
    have := bsB_skip (ok := fun k => tOK C (nI k)) (V := bsV W lk (M 4) N C) (a := 0) (fiN C) (fun k k1 k2 => hin k (by omega) (by omega))
    rw [Nat.zero_add] at this
    rw [this]; rfl
  have two : ∀ m, fiN C + 9 * m ≤ laN C C + 9 → ∀ M', FT M M' → (∀ j, (bsB (fun k => tOK C (nI k)) (bsV W lk (M 4) N C) (fiN C + 9 * m)).1 = nI j → j < 4400 → M' 15 3 = (bsB (fun k => tOK C (nI k)) (bsV W lk (M 4) N C) (fiN C + 9 * m)).2) → ∀ j7, WP 88 54 [.ref 15, .ref p, .ref 3, .int (nI (fiN C)), .int (nI (laN C C)), .int (bsB (fun k => tOK C (nI k)) (bsV W lk (M 4) N C) (fiN C + 9 * m)).1, .int (nI (fiN C + 9 * m)), j7] [] (shw A B) (0, 0) M' Q := by
    have hT : ∀ f m, m + f = (laN C C - fiN C) / 9 + 1 → ∀ M', FT M M' → (∀ j, (bsB (fun k => tOK C (nI k)) (bsV W lk (M 4) N C) (fiN C + 9 * m)).1 = nI j → j < 4400 → M' 15 3 = (bsB (fun k => tOK C (nI k)) (bsV W lk (M 4) N C) (fiN C + 9 * m)).2) → ∀ j7, WP 88 54 [.ref 15, .ref p, .ref 3, .int (nI (fiN C)), .int (nI (laN C C)), .int (bsB (fun k => tOK C (nI k)) (bsV W lk (M 4) N C) (fiN C + 9 * m)).1, .int (nI (fiN C + 9 * m)), j7] [] (shw A B) (0, 0) M' Q := by
      intro f
      induction f with
      | zero =>
        intro m hm M' hF hM j7
        rw [show fiN C + 9 * m = laN C C + 9 by omega, hfin] at hM ⊢
        have g1 : nI (laN C C) < nI (laN C C + 9) := nI_lt (by omega) (by omega)
        rw [w_t_bestOrderOf_54]
        simp only [w_t_bestOrderOf_0, w_t_bestOrderOf_1, w_t_bestOrderOf_2, w_t_bestOrderOf_3, w_t_bestOrderOf_5, w_t_bestOrderOf_6, w_t_bestOrderOf_10, w_t_bestOrderOf_11, w_t_bestOrderOf_14, w_t_bestOrderOf_17, w_t_bestOrderOf_18, w_t_bestOrderOf_20, w_t_bestOrderOf_21, w_t_bestOrderOf_23, w_t_bestOrderOf_24, w_t_bestOrderOf_25, w_t_bestOrderOf_26, w_t_bestOrderOf_27, w_t_bestOrderOf_29, w_t_bestOrderOf_31, w_t_bestOrderOf_32, w_t_bestOrderOf_33, w_t_bestOrderOf_36, w_t_bestOrderOf_37, w_t_bestOrderOf_39, w_t_bestOrderOf_40, w_t_bestOrderOf_42, w_t_bestOrderOf_45, w_t_bestOrderOf_48, w_t_bestOrderOf_49, w_t_bestOrderOf_51, w_t_bestOrderOf_52, w_t_bestOrderOf_56, w_t_bestOrderOf_58, w_t_bestOrderOf_61, w_t_bestOrderOf_62, w_t_bestOrderOf_63, w_t_bestOrderOf_65, w_t_bestOrderOf_68, w_t_bestOrderOf_71, w_t_bestOrderOf_72, w_t_bestOrderOf_73, w_t_bestOrderOf_74, w_t_bestOrderOf_77, w_t_bestOrderOf_78, w_t_bestOrderOf_81, w_t_bestOrderOf_82, w_t_bestOrderOf_83, w_t_bestOrderOf_86, w_t_bestOrderOf_89, w_t_bestOrderOf_90, w_t_bestOrderOf_93, w_t_bestOrderOf_94, w_t_bestOrderOf_97, w_t_bestOrderOf_99, w_t_bestOrderOf_101, w_t_bestOrderOf_102, w_t_bestOrderOf_105, w_t_bestOrderOf_107, w_t_bestOrderOf_108, w_t_bestOrderOf_111, w_t_bestOrderOf_114, w_t_bestOrderOf_116, w_t_bestOrderOf_118, w_t_bestOrderOf_119, w_t_bestOrderOf_121, w_t_bestOrderOf_124, w_t_bestOrderOf_127, w_t_bestOrderOf_130, w_t_bestOrderOf_132, cl_15, xt_1, xt_0, xt_3, g1, i10, Bool.false_eq_true, eq_self, true_or, or_true, if_true, if_false, gv_int, gv_ref, av_some, al_some, un_int, un_ref, un_mk, ok4_0, ok4_1, ok4_2, ok4_3, ok4_4, Kn_some, Kn_none, true_and, and_true]
        have hform := bsB_form (ok := fun k => tOK C (nI k)) hV 4322
        rcases hform with ⟨e, hno⟩ | ⟨j, j1, j2⟩
        · have := hno (fiN C) (by omega)
          rw [or_fi C (by omega) hC] at this
          cases this
        · exact hQ M' hF ⟨j, j2, j1⟩ (hM j j2 (by omega))
      | succ f ih =>
        intro m hm M' hF hM j7
        have g1 : (nI (laN C C) < nI (fiN C + 9 * m)) = False := eq_false (nI_nlt (by omega) (by omega))
        have ih := ih (m + 1) (by omega)
        have e9 : nI (fiN C + 9 * m) + 9 = nI (fiN C + 9 * (m + 1)) := by rw [show (9 : Int32) = nI 9 from rfl, nI_add, show fiN C + 9 * m + 9 = fiN C + 9 * (m + 1) by omega]
        have esk := bsB_skip (ok := fun k => tOK C (nI k)) (V := bsV W lk (M 4) N C) (a := fiN C + 9 * m + 1) 8 (fun k k1 k2 => hin k (by omega) (by omega))
        rw [show fiN C + 9 * m + 1 + 8 = fiN C + 9 * (m + 1) by omega, bsB_s] at esk
        rw [esk] at ih
        have hform := bsB_form (ok := fun k => tOK C (nI k)) hV (fiN C + 9 * m)
        generalize hs0 : bsB (fun k => tOK C (nI k)) (bsV W lk (M 4) N C) (fiN C + 9 * m) = s0 at ih hM hform ⊢
        generalize hkk : fiN C + 9 * m = k0 at ih hform e9 g1 ⊢
        rw [w_t_bestOrderOf_54]
        simp only [w_t_bestOrderOf_0, w_t_bestOrderOf_1, w_t_bestOrderOf_2, w_t_bestOrderOf_3, w_t_bestOrderOf_5, w_t_bestOrderOf_6, w_t_bestOrderOf_10, w_t_bestOrderOf_11, w_t_bestOrderOf_14, w_t_bestOrderOf_17, w_t_bestOrderOf_18, w_t_bestOrderOf_20, w_t_bestOrderOf_21, w_t_bestOrderOf_23, w_t_bestOrderOf_24, w_t_bestOrderOf_25, w_t_bestOrderOf_26, w_t_bestOrderOf_27, w_t_bestOrderOf_29, w_t_bestOrderOf_31, w_t_bestOrderOf_32, w_t_bestOrderOf_33, w_t_bestOrderOf_36, w_t_bestOrderOf_37, w_t_bestOrderOf_39, w_t_bestOrderOf_40, w_t_bestOrderOf_42, w_t_bestOrderOf_45, w_t_bestOrderOf_48, w_t_bestOrderOf_49, w_t_bestOrderOf_51, w_t_bestOrderOf_52, w_t_bestOrderOf_56, w_t_bestOrderOf_58, w_t_bestOrderOf_61, w_t_bestOrderOf_62, w_t_bestOrderOf_63, w_t_bestOrderOf_65, w_t_bestOrderOf_68, w_t_bestOrderOf_71, w_t_bestOrderOf_72, w_t_bestOrderOf_73, w_t_bestOrderOf_74, w_t_bestOrderOf_77, w_t_bestOrderOf_78, w_t_bestOrderOf_81, w_t_bestOrderOf_82, w_t_bestOrderOf_83, w_t_bestOrderOf_86, w_t_bestOrderOf_89, w_t_bestOrderOf_90, w_t_bestOrderOf_93, w_t_bestOrderOf_94, w_t_bestOrderOf_97, w_t_bestOrderOf_99, w_t_bestOrderOf_101, w_t_bestOrderOf_102, w_t_bestOrderOf_105, w_t_bestOrderOf_107, w_t_bestOrderOf_108, w_t_bestOrderOf_111, w_t_bestOrderOf_114, w_t_bestOrderOf_116, w_t_bestOrderOf_118, w_t_bestOrderOf_119, w_t_bestOrderOf_121, w_t_bestOrderOf_124, w_t_bestOrderOf_127, w_t_bestOrderOf_130, w_t_bestOrderOf_132, cl_15, xt_1, xt_0, xt_3, g1, cl_15, i10, Bool.false_eq_true, eq_self, true_or, or_true, if_true, if_false, gv_int, gv_ref, av_some, al_some, un_int, un_ref, un_mk, ok4_0, ok4_1, ok4_2, ok4_3, ok4_4, Kn_some, Kn_none, true_and, and_true]
        refine c_isOrder hp (hF.cq hp hq) ?_ ?_
        · intro hok
          rw [hok, if_pos rfl] at ih
          have hr : ∀ j, j < C → rwN C (nI k0) j < C ∧ st M' 20 (rowF C (nI k0) (M' 20) C) 20 j = nI (rwN C (nI k0) j) := fun j hj => ⟨row_lt hok h5 j hj, (row_ok (f := M' 20) hok h5 j hj).2⟩
          have hF2 : FT M (st M' 20 (rowF C (nI k0) (M' 20) C)) := hF.sa (by omega)
          have e4 : st M' 20 (rowF C (nI k0) (M' 20) C) 4 = M 4 := hF2.1 4 (by omega)
          have e17 : ∀ j, ¬ j < 7 → st M' 20 (rowF C (nI k0) (M' 20) C) 17 j = st M' 20 (rowF C (nI k0) (M' 20) C) (3 + 1) j := fun j hj => (hF2.2 j hj).trans ((ht j hj).trans (congrFun e4.symm j))
          have hvX : HV (st M' 20 (rowF C (nI k0) (M' 20) C) (3 + 1)) C := by
            show HV (st M' 20 (rowF C (nI k0) (M' 20) C) 4) C
            rw [e4]; exact hv
          have e15 : st M' 20 (rowF C (nI k0) (M' 20) C) 15 = M' 15 := rfl
          generalize st M' 20 (rowF C (nI k0) (M' 20) C) = X at hr hF2 e4 e17 hvX e15 ⊢
          simp only [w_t_bestOrderOf_0, w_t_bestOrderOf_1, w_t_bestOrderOf_2, w_t_bestOrderOf_3, w_t_bestOrderOf_5, w_t_bestOrderOf_6, w_t_bestOrderOf_10, w_t_bestOrderOf_11, w_t_bestOrderOf_14, w_t_bestOrderOf_17, w_t_bestOrderOf_18, w_t_bestOrderOf_20, w_t_bestOrderOf_21, w_t_bestOrderOf_23, w_t_bestOrderOf_24, w_t_bestOrderOf_25, w_t_bestOrderOf_26, w_t_bestOrderOf_27, w_t_bestOrderOf_29, w_t_bestOrderOf_31, w_t_bestOrderOf_32, w_t_bestOrderOf_33, w_t_bestOrderOf_36, w_t_bestOrderOf_37, w_t_bestOrderOf_39, w_t_bestOrderOf_40, w_t_bestOrderOf_42, w_t_bestOrderOf_45, w_t_bestOrderOf_48, w_t_bestOrderOf_49, w_t_bestOrderOf_51, w_t_bestOrderOf_52, w_t_bestOrderOf_56, w_t_bestOrderOf_58, w_t_bestOrderOf_61, w_t_bestOrderOf_62, w_t_bestOrderOf_63, w_t_bestOrderOf_65, w_t_bestOrderOf_68, w_t_bestOrderOf_71, w_t_bestOrderOf_72, w_t_bestOrderOf_73, w_t_bestOrderOf_74, w_t_bestOrderOf_77, w_t_bestOrderOf_78, w_t_bestOrderOf_81, w_t_bestOrderOf_82, w_t_bestOrderOf_83, w_t_bestOrderOf_86, w_t_bestOrderOf_89, w_t_bestOrderOf_90, w_t_bestOrderOf_93, w_t_bestOrderOf_94, w_t_bestOrderOf_97, w_t_bestOrderOf_99, w_t_bestOrderOf_101, w_t_bestOrderOf_102, w_t_bestOrderOf_105, w_t_bestOrderOf_107, w_t_bestOrderOf_108, w_t_bestOrderOf_111, w_t_bestOrderOf_114, w_t_bestOrderOf_116, w_t_bestOrderOf_118, w_t_bestOrderOf_119, w_t_bestOrderOf_121, w_t_bestOrderOf_124, w_t_bestOrderOf_127, w_t_bestOrderOf_130, w_t_bestOrderOf_132, cl_15, xt_1, xt_0, xt_3, e_t_choose hp isHH_3 (hF2.cq hp hq) hvX e17 hC hr, show (3 + 1 : Nat) = 4 from rfl, e4, cl_15, cl_18, i10, Bool.false_eq_true, eq_self, true_or, or_true, if_true, if_false, gv_int, gv_ref, av_some, al_some, un_int, un_ref, un_mk, ok4_0, ok4_1, ok4_2, ok4_3, ok4_4, Kn_some, Kn_none, true_and, and_true]
          have hF3 : FT M (st X 17 (chE W N C (rwN C (nI k0)) 8 0 (M 4))) := hF2.s17 (fun j hj => (chE_far (W := W) (n := N) (c := C) (r := rwN C (nI k0)) 8 0 (M 4) j (by omega)).trans (ht j hj).symm)
          refine c_count (h := chE W N C (rwN C (nI k0)) 8 0 (M 4)) isVV_18 hp isHH_16 (hF3.cq hp hq) (fun t ht => rfl) (chE_HV h6 hC (fun j hj => row_lt hok h5 j hj) 8 0 _ hv) ?_
          intro f hW
          have hF4 : FT M (st (st X 17 (chE W N C (rwN C (nI k0)) 8 0 (M 4))) (18 + 1) f) := hF3.sa (by omega)
          have f15 : st (st X 17 (chE W N C (rwN C (nI k0)) 8 0 (M 4))) (18 + 1) f 15 = M' 15 := e15
          generalize st (st X 17 (chE W N C (rwN C (nI k0)) 8 0 (M 4))) (18 + 1) f = Y at hW hF4 f15 ⊢
          have eV : allE W lk (chE W N C (rwN C (nI k0)) 8 0 (M 4)) N C = bsV W lk (M 4) N C k0 := rfl
          rcases hform with ⟨e, -⟩ | ⟨j, j1, j2⟩
          · rw [e, if_pos (hV k0)] at ih
            rw [e]
            simp only [w_t_bestOrderOf_0, w_t_bestOrderOf_1, w_t_bestOrderOf_2, w_t_bestOrderOf_3, w_t_bestOrderOf_5, w_t_bestOrderOf_6, w_t_bestOrderOf_10, w_t_bestOrderOf_11, w_t_bestOrderOf_14, w_t_bestOrderOf_17, w_t_bestOrderOf_18, w_t_bestOrderOf_20, w_t_bestOrderOf_21, w_t_bestOrderOf_23, w_t_bestOrderOf_24, w_t_bestOrderOf_25, w_t_bestOrderOf_26, w_t_bestOrderOf_27, w_t_bestOrderOf_29, w_t_bestOrderOf_31, w_t_bestOrderOf_32, w_t_bestOrderOf_33, w_t_bestOrderOf_36, w_t_bestOrderOf_37, w_t_bestOrderOf_39, w_t_bestOrderOf_40, w_t_bestOrderOf_42, w_t_bestOrderOf_45, w_t_bestOrderOf_48, w_t_bestOrderOf_49, w_t_bestOrderOf_51, w_t_bestOrderOf_52, w_t_bestOrderOf_56, w_t_bestOrderOf_58, w_t_bestOrderOf_61, w_t_bestOrderOf_62, w_t_bestOrderOf_63, w_t_bestOrderOf_65, w_t_bestOrderOf_68, w_t_bestOrderOf_71, w_t_bestOrderOf_72, w_t_bestOrderOf_73, w_t_bestOrderOf_74, w_t_bestOrderOf_77, w_t_bestOrderOf_78, w_t_bestOrderOf_81, w_t_bestOrderOf_82, w_t_bestOrderOf_83, w_t_bestOrderOf_86, w_t_bestOrderOf_89, w_t_bestOrderOf_90, w_t_bestOrderOf_93, w_t_bestOrderOf_94, w_t_bestOrderOf_97, w_t_bestOrderOf_99, w_t_bestOrderOf_101, w_t_bestOrderOf_102, w_t_bestOrderOf_105, w_t_bestOrderOf_107, w_t_bestOrderOf_108, w_t_bestOrderOf_111, w_t_bestOrderOf_114, w_t_bestOrderOf_116, w_t_bestOrderOf_118, w_t_bestOrderOf_119, w_t_bestOrderOf_121, w_t_bestOrderOf_124, w_t_bestOrderOf_127, w_t_bestOrderOf_130, w_t_bestOrderOf_132, cl_15, xt_1, xt_0, xt_3, e_v_allGrudges isVV_18 hp (hF4.cq hp hq) hW, eV, cl_18, e9, i10, Bool.false_eq_true, eq_self, true_or, or_true, if_true, if_false, gv_int, gv_ref, av_some, al_some, un_int, un_ref, un_mk, ok4_0, ok4_1, ok4_2, ok4_3, ok4_4, Kn_some, Kn_none, true_and, and_true]
            exact ih _ hF4.ua (fun _ _ _ => rfl) _
          · have n1 : (nI j = -1) = False := eq_false (nI_ne_m1 (by omega))
            have hl : Y 15 3 = s0.2 := by rw [f15]; exact hM j j2 (by omega)
            rw [j2]
            by_cases q : bsV W lk (M 4) N C k0 < s0.2
            · rw [if_pos q] at ih
              simp only [w_t_bestOrderOf_0, w_t_bestOrderOf_1, w_t_bestOrderOf_2, w_t_bestOrderOf_3, w_t_bestOrderOf_5, w_t_bestOrderOf_6, w_t_bestOrderOf_10, w_t_bestOrderOf_11, w_t_bestOrderOf_14, w_t_bestOrderOf_17, w_t_bestOrderOf_18, w_t_bestOrderOf_20, w_t_bestOrderOf_21, w_t_bestOrderOf_23, w_t_bestOrderOf_24, w_t_bestOrderOf_25, w_t_bestOrderOf_26, w_t_bestOrderOf_27, w_t_bestOrderOf_29, w_t_bestOrderOf_31, w_t_bestOrderOf_32, w_t_bestOrderOf_33, w_t_bestOrderOf_36, w_t_bestOrderOf_37, w_t_bestOrderOf_39, w_t_bestOrderOf_40, w_t_bestOrderOf_42, w_t_bestOrderOf_45, w_t_bestOrderOf_48, w_t_bestOrderOf_49, w_t_bestOrderOf_51, w_t_bestOrderOf_52, w_t_bestOrderOf_56, w_t_bestOrderOf_58, w_t_bestOrderOf_61, w_t_bestOrderOf_62, w_t_bestOrderOf_63, w_t_bestOrderOf_65, w_t_bestOrderOf_68, w_t_bestOrderOf_71, w_t_bestOrderOf_72, w_t_bestOrderOf_73, w_t_bestOrderOf_74, w_t_bestOrderOf_77, w_t_bestOrderOf_78, w_t_bestOrderOf_81, w_t_bestOrderOf_82, w_t_bestOrderOf_83, w_t_bestOrderOf_86, w_t_bestOrderOf_89, w_t_bestOrderOf_90, w_t_bestOrderOf_93, w_t_bestOrderOf_94, w_t_bestOrderOf_97, w_t_bestOrderOf_99, w_t_bestOrderOf_101, w_t_bestOrderOf_102, w_t_bestOrderOf_105, w_t_bestOrderOf_107, w_t_bestOrderOf_108, w_t_bestOrderOf_111, w_t_bestOrderOf_114, w_t_bestOrderOf_116, w_t_bestOrderOf_118, w_t_bestOrderOf_119, w_t_bestOrderOf_121, w_t_bestOrderOf_124, w_t_bestOrderOf_127, w_t_bestOrderOf_130, w_t_bestOrderOf_132, cl_15, xt_1, xt_0, xt_3, e_v_allGrudges isVV_18 hp (hF4.cq hp hq) hW, eV, cl_18, e9, n1, hl, q, i10, Bool.false_eq_true, eq_self, true_or, or_true, if_true, if_false, gv_int, gv_ref, av_some, al_some, un_int, un_ref, un_mk, ok4_0, ok4_1, ok4_2, ok4_3, ok4_4, Kn_some, Kn_none, true_and, and_true]
              exact ih _ hF4.ua (fun _ _ _ => rfl) _
            · rw [if_neg q] at ih
              simp only [w_t_bestOrderOf_0, w_t_bestOrderOf_1, w_t_bestOrderOf_2, w_t_bestOrderOf_3, w_t_bestOrderOf_5, w_t_bestOrderOf_6, w_t_bestOrderOf_10, w_t_bestOrderOf_11, w_t_bestOrderOf_14, w_t_bestOrderOf_17, w_t_bestOrderOf_18, w_t_bestOrderOf_20, w_t_bestOrderOf_21, w_t_bestOrderOf_23, w_t_bestOrderOf_24, w_t_bestOrderOf_25, w_t_bestOrderOf_26, w_t_bestOrderOf_27, w_t_bestOrderOf_29, w_t_bestOrderOf_31, w_t_bestOrderOf_32, w_t_bestOrderOf_33, w_t_bestOrderOf_36, w_t_bestOrderOf_37, w_t_bestOrderOf_39, w_t_bestOrderOf_40, w_t_bestOrderOf_42, w_t_bestOrderOf_45, w_t_bestOrderOf_48, w_t_bestOrderOf_49, w_t_bestOrderOf_51, w_t_bestOrderOf_52, w_t_bestOrderOf_56, w_t_bestOrderOf_58, w_t_bestOrderOf_61, w_t_bestOrderOf_62, w_t_bestOrderOf_63, w_t_bestOrderOf_65, w_t_bestOrderOf_68, w_t_bestOrderOf_71, w_t_bestOrderOf_72, w_t_bestOrderOf_73, w_t_bestOrderOf_74, w_t_bestOrderOf_77, w_t_bestOrderOf_78, w_t_bestOrderOf_81, w_t_bestOrderOf_82, w_t_bestOrderOf_83, w_t_bestOrderOf_86, w_t_bestOrderOf_89, w_t_bestOrderOf_90, w_t_bestOrderOf_93, w_t_bestOrderOf_94, w_t_bestOrderOf_97, w_t_bestOrderOf_99, w_t_bestOrderOf_101, w_t_bestOrderOf_102, w_t_bestOrderOf_105, w_t_bestOrderOf_107, w_t_bestOrderOf_108, w_t_bestOrderOf_111, w_t_bestOrderOf_114, w_t_bestOrderOf_116, w_t_bestOrderOf_118, w_t_bestOrderOf_119, w_t_bestOrderOf_121, w_t_bestOrderOf_124, w_t_bestOrderOf_127, w_t_bestOrderOf_130, w_t_bestOrderOf_132, cl_15, xt_1, xt_0, xt_3, e_v_allGrudges isVV_18 hp (hF4.cq hp hq) hW, eV, cl_18, e9, n1, hl, q, i10, Bool.false_eq_true, eq_self, true_or, or_true, if_true, if_false, gv_int, gv_ref, av_some, al_some, un_int, un_ref, un_mk, ok4_0, ok4_1, ok4_2, ok4_3, ok4_4, Kn_some, Kn_none, true_and, and_true]
              rw [j2] at ih
              exact ih _ hF4 (fun _ _ _ => hl) _
        · intro hno f
          rw [hno, if_neg (by decide)] at ih
          simp only [w_t_bestOrderOf_0, w_t_bestOrderOf_1, w_t_bestOrderOf_2, w_t_bestOrderOf_3, w_t_bestOrderOf_5, w_t_bestOrderOf_6, w_t_bestOrderOf_10, w_t_bestOrderOf_11, w_t_bestOrderOf_14, w_t_bestOrderOf_17, w_t_bestOrderOf_18, w_t_bestOrderOf_20, w_t_bestOrderOf_21, w_t_bestOrderOf_23, w_t_bestOrderOf_24, w_t_bestOrderOf_25, w_t_bestOrderOf_26, w_t_bestOrderOf_27, w_t_bestOrderOf_29, w_t_bestOrderOf_31, w_t_bestOrderOf_32, w_t_bestOrderOf_33, w_t_bestOrderOf_36, w_t_bestOrderOf_37, w_t_bestOrderOf_39, w_t_bestOrderOf_40, w_t_bestOrderOf_42, w_t_bestOrderOf_45, w_t_bestOrderOf_48, w_t_bestOrderOf_49, w_t_bestOrderOf_51, w_t_bestOrderOf_52, w_t_bestOrderOf_56, w_t_bestOrderOf_58, w_t_bestOrderOf_61, w_t_bestOrderOf_62, w_t_bestOrderOf_63, w_t_bestOrderOf_65, w_t_bestOrderOf_68, w_t_bestOrderOf_71, w_t_bestOrderOf_72, w_t_bestOrderOf_73, w_t_bestOrderOf_74, w_t_bestOrderOf_77, w_t_bestOrderOf_78, w_t_bestOrderOf_81, w_t_bestOrderOf_82, w_t_bestOrderOf_83, w_t_bestOrderOf_86, w_t_bestOrderOf_89, w_t_bestOrderOf_90, w_t_bestOrderOf_93, w_t_bestOrderOf_94, w_t_bestOrderOf_97, w_t_bestOrderOf_99, w_t_bestOrderOf_101, w_t_bestOrderOf_102, w_t_bestOrderOf_105, w_t_bestOrderOf_107, w_t_bestOrderOf_108, w_t_bestOrderOf_111, w_t_bestOrderOf_114, w_t_bestOrderOf_116, w_t_bestOrderOf_118, w_t_bestOrderOf_119, w_t_bestOrderOf_121, w_t_bestOrderOf_124, w_t_bestOrderOf_127, w_t_bestOrderOf_130, w_t_bestOrderOf_132, cl_15, xt_1, xt_0, xt_3, e9, i10, Bool.false_eq_true, eq_self, true_or, or_true, if_true, if_false, gv_int, gv_ref, av_some, al_some, un_int, un_ref, un_mk, ok4_0, ok4_1, ok4_2, ok4_3, ok4_4, Kn_some, Kn_none, true_and, and_true]
          exact ih (st M' 20 f) (hF.sa (by omega)) (fun j e hj => hM j e hj) _
    intro m hm
    exact hT ((laN C C - fiN C) / 9 + 1 - m) m (by omega)
  simp only [w_t_bestOrderOf_0, w_t_bestOrderOf_1, w_t_bestOrderOf_2, w_t_bestOrderOf_3, w_t_bestOrderOf_5, w_t_bestOrderOf_6, w_t_bestOrderOf_10, w_t_bestOrderOf_11, w_t_bestOrderOf_14, w_t_bestOrderOf_17, w_t_bestOrderOf_18, w_t_bestOrderOf_20, w_t_bestOrderOf_21, w_t_bestOrderOf_23, w_t_bestOrderOf_24, w_t_bestOrderOf_25, w_t_bestOrderOf_26, w_t_bestOrderOf_27, w_t_bestOrderOf_29, w_t_bestOrderOf_31, w_t_bestOrderOf_32, w_t_bestOrderOf_33, w_t_bestOrderOf_36, w_t_bestOrderOf_37, w_t_bestOrderOf_39, w_t_bestOrderOf_40, w_t_bestOrderOf_42, w_t_bestOrderOf_45, w_t_bestOrderOf_48, w_t_bestOrderOf_49, w_t_bestOrderOf_51, w_t_bestOrderOf_52, w_t_bestOrderOf_56, w_t_bestOrderOf_58, w_t_bestOrderOf_61, w_t_bestOrderOf_62, w_t_bestOrderOf_63, w_t_bestOrderOf_65, w_t_bestOrderOf_68, w_t_bestOrderOf_71, w_t_bestOrderOf_72, w_t_bestOrderOf_73, w_t_bestOrderOf_74, w_t_bestOrderOf_77, w_t_bestOrderOf_78, w_t_bestOrderOf_81, w_t_bestOrderOf_82, w_t_bestOrderOf_83, w_t_bestOrderOf_86, w_t_bestOrderOf_89, w_t_bestOrderOf_90, w_t_bestOrderOf_93, w_t_bestOrderOf_94, w_t_bestOrderOf_97, w_t_bestOrderOf_99, w_t_bestOrderOf_101, w_t_bestOrderOf_102, w_t_bestOrderOf_105, w_t_bestOrderOf_107, w_t_bestOrderOf_108, w_t_bestOrderOf_111, w_t_bestOrderOf_114, w_t_bestOrderOf_116, w_t_bestOrderOf_118, w_t_bestOrderOf_119, w_t_bestOrderOf_121, w_t_bestOrderOf_124, w_t_bestOrderOf_127, w_t_bestOrderOf_130, w_t_bestOrderOf_132, cl_15, xt_1, xt_0, xt_3, i10, Bool.false_eq_true, eq_self, true_or, or_true, if_true, if_false, gv_int, gv_ref, av_some, al_some, un_int, un_ref, un_mk, ok4_0, ok4_1, ok4_2, ok4_3, ok4_4, Kn_some, Kn_none, true_and, and_true]
  refine for_up (n := C) (P := fun c => WP 88 8 [.ref 15, .ref p, .ref 3, .int (nI (fiN c)), .int (nI (laN C c)), .int (nI c), mk, mk] [] (shw A B) (0, 0) M Q) ?_ ?_
  · rw [w_t_bestOrderOf_8]
    simp only [w_t_bestOrderOf_0, w_t_bestOrderOf_1, w_t_bestOrderOf_2, w_t_bestOrderOf_3, w_t_bestOrderOf_5, w_t_bestOrderOf_6, w_t_bestOrderOf_10, w_t_bestOrderOf_11, w_t_bestOrderOf_14, w_t_bestOrderOf_17, w_t_bestOrderOf_18, w_t_bestOrderOf_20, w_t_bestOrderOf_21, w_t_bestOrderOf_23, w_t_bestOrderOf_24, w_t_bestOrderOf_25, w_t_bestOrderOf_26, w_t_bestOrderOf_27, w_t_bestOrderOf_29, w_t_bestOrderOf_31, w_t_bestOrderOf_32, w_t_bestOrderOf_33, w_t_bestOrderOf_36, w_t_bestOrderOf_37, w_t_bestOrderOf_39, w_t_bestOrderOf_40, w_t_bestOrderOf_42, w_t_bestOrderOf_45, w_t_bestOrderOf_48, w_t_bestOrderOf_49, w_t_bestOrderOf_51, w_t_bestOrderOf_52, w_t_bestOrderOf_56, w_t_bestOrderOf_58, w_t_bestOrderOf_61, w_t_bestOrderOf_62, w_t_bestOrderOf_63, w_t_bestOrderOf_65, w_t_bestOrderOf_68, w_t_bestOrderOf_71, w_t_bestOrderOf_72, w_t_bestOrderOf_73, w_t_bestOrderOf_74, w_t_bestOrderOf_77, w_t_bestOrderOf_78, w_t_bestOrderOf_81, w_t_bestOrderOf_82, w_t_bestOrderOf_83, w_t_bestOrderOf_86, w_t_bestOrderOf_89, w_t_bestOrderOf_90, w_t_bestOrderOf_93, w_t_bestOrderOf_94, w_t_bestOrderOf_97, w_t_bestOrderOf_99, w_t_bestOrderOf_101, w_t_bestOrderOf_102, w_t_bestOrderOf_105, w_t_bestOrderOf_107, w_t_bestOrderOf_108, w_t_bestOrderOf_111, w_t_bestOrderOf_114, w_t_bestOrderOf_116, w_t_bestOrderOf_118, w_t_bestOrderOf_119, w_t_bestOrderOf_121, w_t_bestOrderOf_124, w_t_bestOrderOf_127, w_t_bestOrderOf_130, w_t_bestOrderOf_132, cl_15, xt_1, xt_0, xt_3, xpp_1 hp, h2, lt_irr, i10, Bool.false_eq_true, eq_self, true_or, or_true, if_true, if_false, gv_int, gv_ref, av_some, al_some, un_int, un_ref, un_mk, ok4_0, ok4_1, ok4_2, ok4_3, ok4_4, Kn_some, Kn_none, true_and, and_true]
    have := two 0 (by omega) M FT.rf (by rw [Nat.mul_zero, Nat.add_zero, h0]; intro j e hj; exact absurd e.symm (nI_ne_m1 (by omega))) mk
    rw [Nat.mul_zero, Nat.add_zero, h0] at this
    exact this
  · intro c hc ih
    have g1 : nI c < nI C := nI_lt hc (by omega)
    have e1 : nI (fiN c) * 10 + nI c + 1 = nI (fiN (c + 1)) := by
      rw [show (10 : Int32) = nI 10 from rfl, pk_mul, nI_add, nI_1]; rfl
    have e2 : nI (laN C c) * 10 + nI C - nI c = nI (laN C (c + 1)) := by
      rw [show (10 : Int32) = nI 10 from rfl, pk_mul, nI_add, pk_sub (by omega)]; rfl
    rw [w_t_bestOrderOf_8]
    simp only [w_t_bestOrderOf_0, w_t_bestOrderOf_1, w_t_bestOrderOf_2, w_t_bestOrderOf_3, w_t_bestOrderOf_5, w_t_bestOrderOf_6, w_t_bestOrderOf_10, w_t_bestOrderOf_11, w_t_bestOrderOf_14, w_t_bestOrderOf_17, w_t_bestOrderOf_18, w_t_bestOrderOf_20, w_t_bestOrderOf_21, w_t_bestOrderOf_23, w_t_bestOrderOf_24, w_t_bestOrderOf_25, w_t_bestOrderOf_26, w_t_bestOrderOf_27, w_t_bestOrderOf_29, w_t_bestOrderOf_31, w_t_bestOrderOf_32, w_t_bestOrderOf_33, w_t_bestOrderOf_36, w_t_bestOrderOf_37, w_t_bestOrderOf_39, w_t_bestOrderOf_40, w_t_bestOrderOf_42, w_t_bestOrderOf_45, w_t_bestOrderOf_48, w_t_bestOrderOf_49, w_t_bestOrderOf_51, w_t_bestOrderOf_52, w_t_bestOrderOf_56, w_t_bestOrderOf_58, w_t_bestOrderOf_61, w_t_bestOrderOf_62, w_t_bestOrderOf_63, w_t_bestOrderOf_65, w_t_bestOrderOf_68, w_t_bestOrderOf_71, w_t_bestOrderOf_72, w_t_bestOrderOf_73, w_t_bestOrderOf_74, w_t_bestOrderOf_77, w_t_bestOrderOf_78, w_t_bestOrderOf_81, w_t_bestOrderOf_82, w_t_bestOrderOf_83, w_t_bestOrderOf_86, w_t_bestOrderOf_89, w_t_bestOrderOf_90, w_t_bestOrderOf_93, w_t_bestOrderOf_94, w_t_bestOrderOf_97, w_t_bestOrderOf_99, w_t_bestOrderOf_101, w_t_bestOrderOf_102, w_t_bestOrderOf_105, w_t_bestOrderOf_107, w_t_bestOrderOf_108, w_t_bestOrderOf_111, w_t_bestOrderOf_114, w_t_bestOrderOf_116, w_t_bestOrderOf_118, w_t_bestOrderOf_119, w_t_bestOrderOf_121, w_t_bestOrderOf_124, w_t_bestOrderOf_127, w_t_bestOrderOf_130, w_t_bestOrderOf_132, cl_15, xt_1, xt_0, xt_3, xpp_1 hp, h2, g1, e1, e2, nI_1, i10, Bool.false_eq_true, eq_self, true_or, or_true, if_true, if_false, gv_int, gv_ref, av_some, al_some, un_int, un_ref, un_mk, ok4_0, ok4_1, ok4_2, ok4_3, ok4_4, Kn_some, Kn_none, true_and, and_true]
    exact ih
