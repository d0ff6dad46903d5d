/-! the component: the guess -/
def FG (M M' : Mm) : Prop := ∀ c, ¬ (c = 29 ∨ c = 32 ∨ c = 34 ∨ c = 36 ∨ c = 37) → M' c = M c
theorem FG.cq {M M' : Mm} {p K C N : Nat} {kd : Nat → Nat} {W : Nat → Nat → Int32} {lk : Nat → Int32} (h : FG M M') (hp : isPP p) (hq : CQ M p K C N kd W lk) : CQ M' p K C N kd W lk :=
  hq.fr (fun c c1 c2 => h c (by unfold isPP at hp; omega))
/-- surely, as the component tells it -/
def suC (f : Nat) (sur : Nat → Int32) (t : Nat) : Int32 := if f = 0 then -1 else if sur t = 4 then -1 else sur t
def GI (M : Mm) (N f : Nat) (env sur : Nat → Int32) : Prop := M 29 3 = nI f ∧ (∀ k, k < 16 → M 37 k = env k) ∧ ∀ t, t < N → M 36 t = suC f sur t
theorem bit_of (b : Nat → Bool) {k : Nat} (hk : k < 16) : (bS b 16 >>> (nI k &&& 31)) &&& 1 = if b k then 1 else 0 := by
  have e := bt_bS b (m := 16) (k := k) (by omega) (by decide)
  rw [decide_eq_true hk, Bool.true_and] at e
  rcases and1 (bS b 16 >>> (nI k &&& 31)) with h | h
  · rw [h]
    rw [bt0.mp h] at e
    rw [← e]; rfl
  · rw [h]
    rw [bt_iff.mpr h] at e
    rw [← e]; rfl
theorem c_addWay {A B p K C N f : Nat} {M : Mm} {Q : Po} {kd : Nat → Nat} {W : Nat → Nat → Int32} {lk env sur h : Nat → Int32} {E : Nat → Nat → Int32} (hp : isPP p) (hq : CQ M p K C N kd W lk) (hf : f < 2 ^ 30) (hi : GI M N f env sur) (hh : ∀ t, t < N → M 32 t = h t) (hv : ∀ t, t < N → ∃ j, j < C ∧ h t = nI j) (hQ : ∀ M', (∀ c, ¬ (c = 29 ∨ c = 36 ∨ c = 37) → M' c = M c) → GI M' N (f + 1) (envF C E env 16) (surF f N sur h) → M' 29 4 = M 29 4 → Q none (shw A B) M') : WP 4 0 [.ref 29, .ref p, .int (bS (enB E C) 16), mk] [] (shw A B) (0, 0) M Q := by
  obtain ⟨⟨h1, h2, h3⟩, h4, h5, h6⟩ := id hq.1
  obtain ⟨i1, i2, i3⟩ := hi
  have two : ∀ g, (∀ t, t < N → g t = suC (f + 1) (surF f N sur h) t) → ∀ x, WP 4 76 [.ref 29, .ref p, .int (bS (enB E C) 16), x] [] (shw A B) (0, 0) (st M 36 g) Q := by
    intro g hg x
    simp only [w_g_addWay_0, w_g_addWay_1, w_g_addWay_3, w_g_addWay_4, w_g_addWay_7, w_g_addWay_10, w_g_addWay_11, w_g_addWay_14, w_g_addWay_17, w_g_addWay_18, w_g_addWay_21, w_g_addWay_22, w_g_addWay_23, w_g_addWay_26, w_g_addWay_29, w_g_addWay_30, w_g_addWay_33, w_g_addWay_36, w_g_addWay_39, w_g_addWay_40, w_g_addWay_43, w_g_addWay_44, w_g_addWay_47, w_g_addWay_48, w_g_addWay_51, w_g_addWay_54, w_g_addWay_55, w_g_addWay_58, w_g_addWay_61, w_g_addWay_62, w_g_addWay_65, w_g_addWay_66, w_g_addWay_67, w_g_addWay_70, w_g_addWay_73, w_g_addWay_76, w_g_addWay_77, w_g_addWay_79, w_g_addWay_80, w_g_addWay_83, w_g_addWay_84, w_g_addWay_87, w_g_addWay_88, w_g_addWay_91, w_g_addWay_92, w_g_addWay_93, w_g_addWay_94, w_g_addWay_95, w_g_addWay_96, w_g_addWay_97, w_g_addWay_98, w_g_addWay_99, w_g_addWay_100, w_g_addWay_101, w_g_addWay_104, w_g_addWay_107, w_g_addWay_108, w_g_addWay_109, w_g_addWay_112, w_g_addWay_113, w_g_addWay_114, w_g_addWay_117, xg_3, xg_1, xg_0, xg_2, al_37, i10, Bool.false_eq_true, eq_self, true_or, or_true, if_true, if_false, gv_int, gv_ref, av_some, al_some, un_int, un_ref, un_mk, ok4_0, ok4_1, ok4_2, ok4_3, ok4_4, Kn_some, Kn_none, true_and, and_true]
    have := for_up (n := 16) (P := fun k => WP 4 78 [.ref 29, .ref p, .int (bS (enB E C) 16), .int (nI k)] [] (shw A B) (0, 0) (st (st M 36 g) 37 (fun j => if j < k then envF C E env 16 j else M 37 j)) Q) ?_ ?_
    · rw [show (fun j => if j < 0 then envF C E env 16 j else M 37 j) = M 37 from by funext j; rw [if_neg (by omega)], show st (st M 36 g) 37 (M 37) = st M 36 g from st_self (st M 36 g) 37] at this
      exact this
    · rw [w_g_addWay_78]
      simp only [w_g_addWay_0, w_g_addWay_1, w_g_addWay_3, w_g_addWay_4, w_g_addWay_7, w_g_addWay_10, w_g_addWay_11, w_g_addWay_14, w_g_addWay_17, w_g_addWay_18, w_g_addWay_21, w_g_addWay_22, w_g_addWay_23, w_g_addWay_26, w_g_addWay_29, w_g_addWay_30, w_g_addWay_33, w_g_addWay_36, w_g_addWay_39, w_g_addWay_40, w_g_addWay_43, w_g_addWay_44, w_g_addWay_47, w_g_addWay_48, w_g_addWay_51, w_g_addWay_54, w_g_addWay_55, w_g_addWay_58, w_g_addWay_61, w_g_addWay_62, w_g_addWay_65, w_g_addWay_66, w_g_addWay_67, w_g_addWay_70, w_g_addWay_73, w_g_addWay_76, w_g_addWay_77, w_g_addWay_79, w_g_addWay_80, w_g_addWay_83, w_g_addWay_84, w_g_addWay_87, w_g_addWay_88, w_g_addWay_91, w_g_addWay_92, w_g_addWay_93, w_g_addWay_94, w_g_addWay_95, w_g_addWay_96, w_g_addWay_97, w_g_addWay_98, w_g_addWay_99, w_g_addWay_100, w_g_addWay_101, w_g_addWay_104, w_g_addWay_107, w_g_addWay_108, w_g_addWay_109, w_g_addWay_112, w_g_addWay_113, w_g_addWay_114, w_g_addWay_117, xg_3, xg_1, xg_0, xg_2, al_37, lt_irr, show ∀ f, st (st M 36 g) 37 f 29 = M 29 from fun _ => rfl, i1, nI_1, i10, Bool.false_eq_true, eq_self, true_or, or_true, if_true, if_false, gv_int, gv_ref, av_some, al_some, un_int, un_ref, un_mk, ok4_0, ok4_1, ok4_2, ok4_3, ok4_4, Kn_some, Kn_none, true_and, and_true]
      refine hQ _ (fun c hc => ?_) ⟨rfl, fun k hk => ?_, fun t ht => hg t ht⟩ rfl
      · rw [up_c, if_neg (by omega), st_at, if_neg (by omega), st_at, if_neg (by omega)]
      · show (if k < 16 then envF C E env 16 k else M 37 k) = _
        rw [if_pos hk]
    · intro k hk ih
      have g1 : nI k < nI 16 := nI_lt hk (by decide)
      have g2 : vp_in (nI k) 16 := vp_in_nI hk (by decide)
      rw [w_g_addWay_78]
      simp only [w_g_addWay_0, w_g_addWay_1, w_g_addWay_3, w_g_addWay_4, w_g_addWay_7, w_g_addWay_10, w_g_addWay_11, w_g_addWay_14, w_g_addWay_17, w_g_addWay_18, w_g_addWay_21, w_g_addWay_22, w_g_addWay_23, w_g_addWay_26, w_g_addWay_29, w_g_addWay_30, w_g_addWay_33, w_g_addWay_36, w_g_addWay_39, w_g_addWay_40, w_g_addWay_43, w_g_addWay_44, w_g_addWay_47, w_g_addWay_48, w_g_addWay_51, w_g_addWay_54, w_g_addWay_55, w_g_addWay_58, w_g_addWay_61, w_g_addWay_62, w_g_addWay_65, w_g_addWay_66, w_g_addWay_67, w_g_addWay_70, w_g_addWay_73, w_g_addWay_76, w_g_addWay_77, w_g_addWay_79, w_g_addWay_80, w_g_addWay_83, w_g_addWay_84, w_g_addWay_87, w_g_addWay_88, w_g_addWay_91, w_g_addWay_92, w_g_addWay_93, w_g_addWay_94, w_g_addWay_95, w_g_addWay_96, w_g_addWay_97, w_g_addWay_98, w_g_addWay_99, w_g_addWay_100, w_g_addWay_101, w_g_addWay_104, w_g_addWay_107, w_g_addWay_108, w_g_addWay_109, w_g_addWay_112, w_g_addWay_113, w_g_addWay_114, w_g_addWay_117, xg_3, xg_1, xg_0, xg_2, al_37, g1, g2, nI_clamp (show k < 2 ^ 31 by omega), bit_of (enB E C) hk, show ∀ f, st (st M 36 g) 37 f 37 = f from fun _ => rfl, up_st, nI_1, i10, Bool.false_eq_true, eq_self, true_or, or_true, if_true, if_false, gv_int, gv_ref, av_some, al_some, un_int, un_ref, un_mk, ok4_0, ok4_1, ok4_2, ok4_3, ok4_4, Kn_some, Kn_none, true_and, and_true]
      rw [show upd (fun j => if j < k then envF C E env 16 j else M 37 j) k ((if k < k then envF C E env 16 k else M 37 k) + (if enB E C k then 1 else 0)) = (fun j => if j < k + 1 then envF C E env 16 j else M 37 j) from ?_]
      · exact ih
      · funext j
        rw [upd_at]
        by_cases q : j = k
        · subst q
          rw [if_pos rfl, if_neg (Nat.lt_irrefl j), if_pos (show j < j + 1 by omega), i2 j hk]
          unfold envF enB
          rw [if_pos hk]
          by_cases q1 : j / 4 < C <;> by_cases q2 : j % 4 < C <;> by_cases q3 : 0 < E (j / 4) (j % 4) <;> simp [q1, q2, q3]
        · rw [if_neg q]
          by_cases r : j < k
          · rw [if_pos r, if_pos (by omega)]
          · rw [if_neg r, if_neg (by omega)]
  simp only [w_g_addWay_0, w_g_addWay_1, w_g_addWay_3, w_g_addWay_4, w_g_addWay_7, w_g_addWay_10, w_g_addWay_11, w_g_addWay_14, w_g_addWay_17, w_g_addWay_18, w_g_addWay_21, w_g_addWay_22, w_g_addWay_23, w_g_addWay_26, w_g_addWay_29, w_g_addWay_30, w_g_addWay_33, w_g_addWay_36, w_g_addWay_39, w_g_addWay_40, w_g_addWay_43, w_g_addWay_44, w_g_addWay_47, w_g_addWay_48, w_g_addWay_51, w_g_addWay_54, w_g_addWay_55, w_g_addWay_58, w_g_addWay_61, w_g_addWay_62, w_g_addWay_65, w_g_addWay_66, w_g_addWay_67, w_g_addWay_70, w_g_addWay_73, w_g_addWay_77, w_g_addWay_79, w_g_addWay_80, w_g_addWay_83, w_g_addWay_84, w_g_addWay_87, w_g_addWay_88, w_g_addWay_91, w_g_addWay_92, w_g_addWay_93, w_g_addWay_94, w_g_addWay_95, w_g_addWay_96, w_g_addWay_97, w_g_addWay_98, w_g_addWay_99, w_g_addWay_100, w_g_addWay_101, w_g_addWay_104, w_g_addWay_107, w_g_addWay_108, w_g_addWay_109, w_g_addWay_112, w_g_addWay_113, w_g_addWay_114, w_g_addWay_117, xg_3, xg_1, xg_0, xg_2, al_37, i10, Bool.false_eq_true, eq_self, true_or, or_true, if_true, if_false, gv_int, gv_ref, av_some, al_some, un_int, un_ref, un_mk, ok4_0, ok4_1, ok4_2, ok4_3, ok4_4, Kn_some, Kn_none, true_and, and_true]
  have := for_up (n := N) (P := fun k => WP 4 2 [.ref 29, .ref p, .int (bS (enB E C) 16), .int (nI k)] [] (shw A B) (0, 0) (st M 36 (fun t => if t < k then suC (f + 1) (surF f N sur h) t else M 36 t)) Q) ?_ ?_
  · rw [show (fun t => if t < 0 then suC (f + 1) (surF f N sur h) t else M 36 t) = M 36 from by funext j; rw [if_neg (by omega)], st_self] at this
    exact this
  · have s0 : ∀ g, st M 36 g p = M p := fun g => if_neg (by unfold isPP at hp; omega)
    rw [w_g_addWay_2]
    simp only [w_g_addWay_0, w_g_addWay_1, w_g_addWay_3, w_g_addWay_4, w_g_addWay_7, w_g_addWay_10, w_g_addWay_11, w_g_addWay_14, w_g_addWay_17, w_g_addWay_18, w_g_addWay_21, w_g_addWay_22, w_g_addWay_23, w_g_addWay_26, w_g_addWay_29, w_g_addWay_30, w_g_addWay_33, w_g_addWay_36, w_g_addWay_39, w_g_addWay_40, w_g_addWay_43, w_g_addWay_44, w_g_addWay_47, w_g_addWay_48, w_g_addWay_51, w_g_addWay_54, w_g_addWay_55, w_g_addWay_58, w_g_addWay_61, w_g_addWay_62, w_g_addWay_65, w_g_addWay_66, w_g_addWay_67, w_g_addWay_70, w_g_addWay_73, w_g_addWay_77, w_g_addWay_79, w_g_addWay_80, w_g_addWay_83, w_g_addWay_84, w_g_addWay_87, w_g_addWay_88, w_g_addWay_91, w_g_addWay_92, w_g_addWay_93, w_g_addWay_94, w_g_addWay_95, w_g_addWay_96, w_g_addWay_97, w_g_addWay_98, w_g_addWay_99, w_g_addWay_100, w_g_addWay_101, w_g_addWay_104, w_g_addWay_107, w_g_addWay_108, w_g_addWay_109, w_g_addWay_112, w_g_addWay_113, w_g_addWay_114, w_g_addWay_117, xg_3, xg_1, xg_0, xg_2, al_37, xpp_2 hp, s0, h3, lt_irr, i10, Bool.false_eq_true, eq_self, true_or, or_true, if_true, if_false, gv_int, gv_ref, av_some, al_some, un_int, un_ref, un_mk, ok4_0, ok4_1, ok4_2, ok4_3, ok4_4, Kn_some, Kn_none, true_and, and_true]
    exact two _ (fun t ht => by rw [if_pos ht]) _
  · intro k hk ih
    have s0 : ∀ g, st M 36 g p = M p := fun g => if_neg (by unfold isPP at hp; omega)
    have g1 : nI k < nI N := nI_lt hk (by omega)
    obtain ⟨j, j1, j2⟩ := hv k hk
    have e4 : ¬ nI j = 4 := fun e => by have := nI_iq (by omega) (by decide) (e.trans (show (4 : Int32) = nI 4 from rfl)); omega
    have hold : ∀ x : Int32, x = suC (f + 1) (surF f N sur h) k → upd (fun t => if t < k then suC (f + 1) (surF f N sur h) t else M 36 t) k x = (fun t => if t < k + 1 then suC (f + 1) (surF f N sur h) t else M 36 t) := by
      intro x hx
      funext t
      rw [upd_at]
      by_cases q : t = k
      · rw [if_pos q, if_pos (by omega), hx, q]
      · rw [if_neg q]
        by_cases r : t < k
        · rw [if_pos r, if_pos (by omega)]
        · rw [if_neg r, if_neg (by omega)]
    have esu : suC (f + 1) (surF f N sur h) k = if f = 0 ∨ sur k = h k then h k else -1 := by
      unfold suC surF
      rw [if_neg (by omega), if_pos hk]
      by_cases q : f = 0 ∨ sur k = h k
      · rw [if_pos q, if_pos q, j2, if_neg e4]
      · rw [if_neg q, if_neg q, if_pos rfl]
    rw [w_g_addWay_2]
    by_cases q : f = 0
    · subst q
      simp only [w_g_addWay_0, w_g_addWay_1, w_g_addWay_3, w_g_addWay_4, w_g_addWay_7, w_g_addWay_10, w_g_addWay_11, w_g_addWay_14, w_g_addWay_17, w_g_addWay_18, w_g_addWay_21, w_g_addWay_22, w_g_addWay_23, w_g_addWay_26, w_g_addWay_29, w_g_addWay_30, w_g_addWay_33, w_g_addWay_36, w_g_addWay_39, w_g_addWay_40, w_g_addWay_43, w_g_addWay_44, w_g_addWay_47, w_g_addWay_48, w_g_addWay_51, w_g_addWay_54, w_g_addWay_55, w_g_addWay_58, w_g_addWay_61, w_g_addWay_62, w_g_addWay_65, w_g_addWay_66, w_g_addWay_67, w_g_addWay_70, w_g_addWay_73, w_g_addWay_77, w_g_addWay_79, w_g_addWay_80, w_g_addWay_83, w_g_addWay_84, w_g_addWay_87, w_g_addWay_88, w_g_addWay_91, w_g_addWay_92, w_g_addWay_93, w_g_addWay_94, w_g_addWay_95, w_g_addWay_96, w_g_addWay_97, w_g_addWay_98, w_g_addWay_99, w_g_addWay_100, w_g_addWay_101, w_g_addWay_104, w_g_addWay_107, w_g_addWay_108, w_g_addWay_109, w_g_addWay_112, w_g_addWay_113, w_g_addWay_114, w_g_addWay_117, xg_3, xg_1, xg_0, xg_2, al_37, xpp_2 hp, s0, h3, g1, show ∀ g, st M 36 g 29 = M 29 from fun _ => rfl, i1, show (nI 0 = 0) = True by decide, xww_0 isWW_30, e_h_holderOf (sww_1 isWW_30) (show k < 7 by omega), zhh (sww_1 isWW_30), show ∀ g, st M 36 g (30 + 1 + 1) = M 32 from fun _ => rfl, hh k hk, e_h_put isHH_35 (show k < 7 by omega), cl_35, show (35 + 1 : Nat) = 36 from rfl, up_st, nI_1, i10, Bool.false_eq_true, eq_self, true_or, or_true, if_true, if_false, gv_int, gv_ref, av_some, al_some, un_int, un_ref, un_mk, ok4_0, ok4_1, ok4_2, ok4_3, ok4_4, Kn_some, Kn_none, true_and, and_true]
      rw [hold (h k) (by rw [esu, if_pos (Or.inl rfl)])]
      exact ih
    · have q0 : (nI f = 0) = False := eq_false (nI_ne0 (by omega) (by omega))
      have es : (if k < k then suC (f + 1) (surF f N sur h) k else M 36 k) = suC f sur k := by rw [if_neg (by omega), i3 k hk]
      by_cases r : suC f sur k = h k
      · have e5 : h k = suC (f + 1) (surF f N sur h) k := by
          rw [esu, if_pos (Or.inr ?_)]
          unfold suC at r
          rw [if_neg q] at r
          split at r
          · rw [j2] at r; exact absurd r.symm (nI_ne_m1 (by omega))
          · exact r
        simp only [w_g_addWay_0, w_g_addWay_1, w_g_addWay_3, w_g_addWay_4, w_g_addWay_7, w_g_addWay_10, w_g_addWay_11, w_g_addWay_14, w_g_addWay_17, w_g_addWay_18, w_g_addWay_21, w_g_addWay_22, w_g_addWay_23, w_g_addWay_26, w_g_addWay_29, w_g_addWay_30, w_g_addWay_33, w_g_addWay_36, w_g_addWay_39, w_g_addWay_40, w_g_addWay_43, w_g_addWay_44, w_g_addWay_47, w_g_addWay_48, w_g_addWay_51, w_g_addWay_54, w_g_addWay_55, w_g_addWay_58, w_g_addWay_61, w_g_addWay_62, w_g_addWay_65, w_g_addWay_66, w_g_addWay_67, w_g_addWay_70, w_g_addWay_73, w_g_addWay_77, w_g_addWay_79, w_g_addWay_80, w_g_addWay_83, w_g_addWay_84, w_g_addWay_87, w_g_addWay_88, w_g_addWay_91, w_g_addWay_92, w_g_addWay_93, w_g_addWay_94, w_g_addWay_95, w_g_addWay_96, w_g_addWay_97, w_g_addWay_98, w_g_addWay_99, w_g_addWay_100, w_g_addWay_101, w_g_addWay_104, w_g_addWay_107, w_g_addWay_108, w_g_addWay_109, w_g_addWay_112, w_g_addWay_113, w_g_addWay_114, w_g_addWay_117, xg_3, xg_1, xg_0, xg_2, al_37, xpp_2 hp, s0, h3, g1, show ∀ g, st M 36 g 29 = M 29 from fun _ => rfl, i1, q0, xww_0 isWW_30, e_h_holderOf (sww_1 isWW_30) (show k < 7 by omega), e_h_holderOf isHH_35 (show k < 7 by omega), zhh (sww_1 isWW_30), show ∀ g, st M 36 g (30 + 1 + 1) = M 32 from fun _ => rfl, show ∀ g, st M 36 g (35 + 1) = g from fun _ => rfl, es, r, hh k hk, cl_35, nI_1, i10, Bool.false_eq_true, eq_self, true_or, or_true, if_true, if_false, gv_int, gv_ref, av_some, al_some, un_int, un_ref, un_mk, ok4_0, ok4_1, ok4_2, ok4_3, ok4_4, Kn_some, Kn_none, true_and, and_true]
        have e6 := hold (h k) e5
        rw [show upd (fun t => if t < k then suC (f + 1) (surF f N sur h) t else M 36 t) k (h k) = (fun t => if t < k then suC (f + 1) (surF f N sur h) t else M 36 t) from ?_] at e6
        · rw [e6]; exact ih
        · funext t
          rw [upd_at]
          by_cases z : t = k
          · rw [if_pos z, z, es, r]
          · rw [if_neg z]
      · have e5 : (-1 : Int32) = suC (f + 1) (surF f N sur h) k := by
          rw [esu, if_neg]
          intro z
          rcases z with z | z
          · exact q z
          · apply r
            unfold suC
            rw [if_neg q, z, j2, if_neg e4]
        simp only [w_g_addWay_0, w_g_addWay_1, w_g_addWay_3, w_g_addWay_4, w_g_addWay_7, w_g_addWay_10, w_g_addWay_11, w_g_addWay_14, w_g_addWay_17, w_g_addWay_18, w_g_addWay_21, w_g_addWay_22, w_g_addWay_23, w_g_addWay_26, w_g_addWay_29, w_g_addWay_30, w_g_addWay_33, w_g_addWay_36, w_g_addWay_39, w_g_addWay_40, w_g_addWay_43, w_g_addWay_44, w_g_addWay_47, w_g_addWay_48, w_g_addWay_51, w_g_addWay_54, w_g_addWay_55, w_g_addWay_58, w_g_addWay_61, w_g_addWay_62, w_g_addWay_65, w_g_addWay_66, w_g_addWay_67, w_g_addWay_70, w_g_addWay_73, w_g_addWay_77, w_g_addWay_79, w_g_addWay_80, w_g_addWay_83, w_g_addWay_84, w_g_addWay_87, w_g_addWay_88, w_g_addWay_91, w_g_addWay_92, w_g_addWay_93, w_g_addWay_94, w_g_addWay_95, w_g_addWay_96, w_g_addWay_97, w_g_addWay_98, w_g_addWay_99, w_g_addWay_100, w_g_addWay_101, w_g_addWay_104, w_g_addWay_107, w_g_addWay_108, w_g_addWay_109, w_g_addWay_112, w_g_addWay_113, w_g_addWay_114, w_g_addWay_117, xg_3, xg_1, xg_0, xg_2, al_37, xpp_2 hp, s0, h3, g1, show ∀ g, st M 36 g 29 = M 29 from fun _ => rfl, i1, q0, xww_0 isWW_30, e_h_holderOf (sww_1 isWW_30) (show k < 7 by omega), e_h_holderOf isHH_35 (show k < 7 by omega), zhh (sww_1 isWW_30), show ∀ g, st M 36 g (30 + 1 + 1) = M 32 from fun _ => rfl, show ∀ g, st M 36 g (35 + 1) = g from fun _ => rfl, es, eq_false r, hh k hk, e_h_put isHH_35 (show k < 7 by omega), cl_35, show (35 + 1 : Nat) = 36 from rfl, up_st, nI_1, i10, Bool.false_eq_true, eq_self, true_or, or_true, if_true, if_false, gv_int, gv_ref, av_some, al_some, un_int, un_ref, un_mk, ok4_0, ok4_1, ok4_2, ok4_3, ok4_4, Kn_some, Kn_none, true_and, and_true]
        rw [hold (-1) e5]
        exact ih
/-- all ways that fit, whoever has what now -/
def gwE (W : Nat → Nat → Int32) (lk : Nat → Int32) (so sa si : Nat → Int32) (sn N C k : Nat) : Nat × (Nat → Int32) × (Nat → Int32) := fwE W lk (fun _ => 0) so sa si sn N C (fun _ => 0) (fun _ => 0) k
theorem gwE_s (W : Nat → Nat → Int32) (lk : Nat → Int32) (so sa si : Nat → Int32) (sn N C k : Nat) : gwE W lk so sa si sn N C (k + 1) = if asE (ev W lk (gvF (fun _ => 0) C N k) N) so sa si sn then ((gwE W lk so sa si sn N C k).1 + 1, envF C (ev W lk (gvF (fun _ => 0) C N k) N) (gwE W lk so sa si sn N C k).2.1 16, surF (gwE W lk so sa si sn N C k).1 N (gwE W lk so sa si sn N C k).2.2 (gvF (fun _ => 0) C N k)) else gwE W lk so sa si sn N C k := rfl
/-- the guess kept is right -/
def GK (M : Mm) (W : Nat → Nat → Int32) (lk : Nat → Int32) (so sa si : Nat → Int32) (sn N C : Nat) : Prop := GI M N (gwE W lk so sa si sn N C (if C = 0 then 0 else C ^ N)).1 (gwE W lk so sa si sn N C (if C = 0 then 0 else C ^ N)).2.1 (gwE W lk so sa si sn N C (if C = 0 then 0 else C ^ N)).2.2
theorem c_g_known {A B p : Nat} {M : Mm} {Q : Po} (hk : M 29 4 = 1) (hQ : Q none (shw A B) M) : WP 3 0 [.ref 29, .ref p, .ref 12, mk, mk, mk] [] (shw A B) (0, 0) M Q := by
  simp only [w_g_find_0, w_g_find_1, w_g_find_4, w_g_find_7, w_g_find_8, w_g_find_9, w_g_find_10, w_g_find_13, w_g_find_14, w_g_find_17, w_g_find_20, w_g_find_21, w_g_find_24, w_g_find_25, w_g_find_28, w_g_find_29, w_g_find_32, w_g_find_33, w_g_find_34, w_g_find_37, w_g_find_38, w_g_find_41, w_g_find_42, w_g_find_46, w_g_find_47, w_g_find_50, w_g_find_51, w_g_find_54, w_g_find_57, w_g_find_58, w_g_find_61, w_g_find_63, w_g_find_64, w_g_find_66, w_g_find_69, w_g_find_72, w_g_find_73, w_g_find_74, w_g_find_76, w_g_find_79, w_g_find_80, w_g_find_83, w_g_find_84, w_g_find_87, w_g_find_90, w_g_find_93, w_g_find_94, w_g_find_95, w_g_find_98, xg_4, xg_3, xg_1, xg_2, al_37, xg_0, cl_12, cl_29, hk, i10, Bool.false_eq_true, eq_self, true_or, or_true, if_true, if_false, gv_int, gv_ref, av_some, al_some, un_int, un_ref, un_mk, ok4_0, ok4_1, ok4_2, ok4_3, ok4_4, Kn_some, Kn_none, true_and, and_true]
  exact hQ
theorem c_g_find {A B p K C N sn : Nat} {M : Mm} {Q : Po} {kd : Nat → Nat} {W : Nat → Nat → Int32} {lk so sa si : Nat → Int32} (hp : isPP p) (hq : CQ M p K C N kd W lk) (hk : M 29 4 = 0) (hfit : ∀ E : Nat → Nat → Int32, (bS (enB E C) 16 &&& M 12 1 = M 12 1 ∧ bS (enB E C) 16 &&& M 12 2 = 0) ↔ asE E so sa si sn = true) (hQ : ∀ M', FG M M' → M' 29 4 = 1 → GK M' W lk so sa si sn N C → Q none (shw A B) M') : WP 3 0 [.ref 29, .ref p, .ref 12, mk, mk, mk] [] (shw A B) (0, 0) M Q := by
  obtain ⟨⟨h1, h2, h3⟩, h4, h5, h6⟩ := id hq.1
  have hp16 := pow_le h5 h6
  have two : ∀ T, T = (if C = 0 then 0 else C ^ N) → ∀ f m, m + f = T → ∀ M', FG M M' → (0 < C → WS M' 30 W C N m) → M' 29 4 = 0 → GI M' N (gwE W lk so sa si sn N C m).1 (gwE W lk so sa si sn N C m).2.1 (gwE W lk so sa si sn N C m).2.2 → ∀ j5, WP 3 44 [.ref 29, .ref p, .ref 12, .int (nI T), .int (nI m), j5] [] (shw A B) (0, 0) M' Q := by
    intro T hT f
    have hT16 : T ≤ 16384 := by rw [hT]; split <;> omega
    induction f with
    | zero =>
      intro m hm M' hF hw h0 hi j5
      have hm : m = T := hm
      subst hm
      rw [w_g_find_44]
      simp only [w_g_find_0, w_g_find_1, w_g_find_4, w_g_find_7, w_g_find_8, w_g_find_9, w_g_find_10, w_g_find_13, w_g_find_14, w_g_find_17, w_g_find_20, w_g_find_21, w_g_find_24, w_g_find_25, w_g_find_28, w_g_find_29, w_g_find_32, w_g_find_33, w_g_find_34, w_g_find_37, w_g_find_38, w_g_find_41, w_g_find_42, w_g_find_46, w_g_find_47, w_g_find_50, w_g_find_51, w_g_find_54, w_g_find_57, w_g_find_58, w_g_find_61, w_g_find_63, w_g_find_64, w_g_find_66, w_g_find_69, w_g_find_72, w_g_find_73, w_g_find_74, w_g_find_76, w_g_find_79, w_g_find_80, w_g_find_83, w_g_find_84, w_g_find_87, w_g_find_90, w_g_find_93, w_g_find_94, w_g_find_95, w_g_find_98, xg_4, xg_3, xg_1, xg_2, al_37, xg_0, cl_12, cl_29, lt_irr, i10, Bool.false_eq_true, eq_self, true_or, or_true, if_true, if_false, gv_int, gv_ref, av_some, al_some, un_int, un_ref, un_mk, ok4_0, ok4_1, ok4_2, ok4_3, ok4_4, Kn_some, Kn_none, true_and, and_true]
      refine hQ _ (fun c hc => (if_neg (by omega)).trans (hF c hc)) rfl ?_
      unfold GK
      rw [← hT]
      exact hi
    | succ f ih =>
      intro m hm M' hF hw h0 hi j5
      have hC : 0 < C := by
        by_cases q : C = 0
        · rw [if_pos q] at hT; omega
        · omega
      have hw := hw hC
      have g1 : nI m < nI T := nI_lt (by omega) (by omega)
      have hq' := hF.cq hp hq
      have hdig : ∀ t, t < N → M' (30 + 1 + 1) t = gvF (fun _ => 0) C N m t := fun t ht => by rw [gvF_in ht]; exact hw.1 t ht
      have eg := fun (Q : Po) => e_v_enviedPairs (A := A) (B := B) (o := 30 + 3) (p := p) (M := M') (Q := Q) (h := gvF (fun _ => 0) C N m) isVV_33 hp hq' (fun i j hi hj => (hw.2 i j hi hj).trans (wo_congr N hdig))
      have ih := ih (m + 1) (by omega)
      rw [gwE_s] at ih
      have hle := fwE_le W lk (fun _ => 0) so sa si sn N C (fun _ => 0) (fun _ => 0) m
      change (gwE W lk so sa si sn N C m).1 ≤ m at hle
      generalize gwE W lk so sa si sn N C m = s0 at ih hi hle ⊢
      have fin : ∀ M1, FG M M1 → WS M1 30 W C N m → ∀ j5, (∀ M2, FW 30 M1 M2 → WS M2 30 W C N (m + 1) → ∀ j5, WP 3 44 [.ref 29, .ref p, .ref 12, .int (nI T), .int (nI (m + 1)), j5] [] (shw A B) (0, 0) M2 Q) → WP 3 79 [.ref 29, .ref p, .ref 12, .int (nI T), .int (nI m), j5] [] (shw A B) (0, 0) M1 Q := by
        intro M1 hF1 hw1 j5 h
        simp only [w_g_find_0, w_g_find_1, w_g_find_4, w_g_find_7, w_g_find_8, w_g_find_9, w_g_find_10, w_g_find_13, w_g_find_14, w_g_find_17, w_g_find_20, w_g_find_21, w_g_find_24, w_g_find_25, w_g_find_28, w_g_find_29, w_g_find_32, w_g_find_33, w_g_find_34, w_g_find_37, w_g_find_38, w_g_find_41, w_g_find_42, w_g_find_46, w_g_find_47, w_g_find_50, w_g_find_51, w_g_find_54, w_g_find_57, w_g_find_58, w_g_find_61, w_g_find_63, w_g_find_64, w_g_find_66, w_g_find_69, w_g_find_72, w_g_find_73, w_g_find_74, w_g_find_76, w_g_find_79, w_g_find_80, w_g_find_83, w_g_find_84, w_g_find_87, w_g_find_90, w_g_find_93, w_g_find_94, w_g_find_95, w_g_find_98, xg_4, xg_3, xg_1, xg_2, al_37, xg_0, cl_12, cl_29, cl_30, i10, Bool.false_eq_true, eq_self, true_or, or_true, if_true, if_false, gv_int, gv_ref, av_some, al_some, un_int, un_ref, un_mk, ok4_0, ok4_1, ok4_2, ok4_3, ok4_4, Kn_some, Kn_none, true_and, and_true]
        refine c_advance isWW_30 hp (hF1.cq hp hq) hC hw1 (fun M2 hF2 hw2 => ?_)
        simp only [w_g_find_0, w_g_find_1, w_g_find_4, w_g_find_7, w_g_find_8, w_g_find_9, w_g_find_10, w_g_find_13, w_g_find_14, w_g_find_17, w_g_find_20, w_g_find_21, w_g_find_24, w_g_find_25, w_g_find_28, w_g_find_29, w_g_find_32, w_g_find_33, w_g_find_34, w_g_find_37, w_g_find_38, w_g_find_41, w_g_find_42, w_g_find_46, w_g_find_47, w_g_find_50, w_g_find_51, w_g_find_54, w_g_find_57, w_g_find_58, w_g_find_61, w_g_find_63, w_g_find_64, w_g_find_66, w_g_find_69, w_g_find_72, w_g_find_73, w_g_find_74, w_g_find_76, w_g_find_79, w_g_find_80, w_g_find_83, w_g_find_84, w_g_find_87, w_g_find_90, w_g_find_93, w_g_find_94, w_g_find_95, w_g_find_98, xg_4, xg_3, xg_1, xg_2, al_37, xg_0, cl_12, cl_29, nI_1, i10, Bool.false_eq_true, eq_self, true_or, or_true, if_true, if_false, gv_int, gv_ref, av_some, al_some, un_int, un_ref, un_mk, ok4_0, ok4_1, ok4_2, ok4_3, ok4_4, Kn_some, Kn_none, true_and, and_true]
        exact h M2 hF2 hw2 _
      have hFW : ∀ M1 M2, FG M M1 → FW 30 M1 M2 → FG M M2 := fun M1 M2 a b c hc => (b c (by omega) (by omega)).trans (a c hc)
      have hGI : ∀ M1 M2 a b c, FW 30 M1 M2 → GI M1 N a b c → GI M2 N a b c := by
        intro M1 M2 a b c hF hG
        unfold GI at hG ⊢
        rw [hF 29 (by decide) (by decide), hF 36 (by decide) (by decide), hF 37 (by decide) (by decide)]
        exact hG
      have e12 : M' 12 = M 12 := hF 12 (by decide)
      have hfit := hfit (ev W lk (gvF (fun _ => 0) C N m) N)
      rw [w_g_find_44]
      cases he : asE (ev W lk (gvF (fun _ => 0) C N m) N) so sa si sn
      · rw [he] at hfit ih
        rw [if_neg (by decide)] at ih
        have hno := eq_false (fun z => absurd (hfit.mp z) (by decide))
        simp only [w_g_find_0, w_g_find_1, w_g_find_4, w_g_find_7, w_g_find_8, w_g_find_9, w_g_find_10, w_g_find_13, w_g_find_14, w_g_find_17, w_g_find_20, w_g_find_21, w_g_find_24, w_g_find_25, w_g_find_28, w_g_find_29, w_g_find_32, w_g_find_33, w_g_find_34, w_g_find_37, w_g_find_38, w_g_find_41, w_g_find_42, w_g_find_46, w_g_find_47, w_g_find_50, w_g_find_51, w_g_find_54, w_g_find_57, w_g_find_58, w_g_find_61, w_g_find_63, w_g_find_64, w_g_find_66, w_g_find_69, w_g_find_72, w_g_find_73, w_g_find_74, w_g_find_76, w_g_find_80, w_g_find_83, w_g_find_84, w_g_find_87, w_g_find_90, w_g_find_93, w_g_find_94, w_g_find_95, w_g_find_98, xg_4, xg_3, xg_1, xg_2, al_37, xg_0, cl_12, cl_29, g1, xww_1 isWW_30, zvv (sww_3 isWW_30), eg, e_n_fits, e12, hno, cl_12, i10, Bool.false_eq_true, eq_self, true_or, or_true, if_true, if_false, gv_int, gv_ref, av_some, al_some, un_int, un_ref, un_mk, ok4_0, ok4_1, ok4_2, ok4_3, ok4_4, Kn_some, Kn_none, true_and, and_true]
        exact fin M' hF hw _ (fun M2 hF2 hw2 j5 => ih M2 (hFW _ _ hF hF2) (fun _ => hw2) (by rw [hF2 29 (by decide) (by decide)]; exact h0) (hGI _ _ _ _ _ hF2 hi) j5)
      · rw [he] at hfit ih
        rw [if_pos rfl] at ih
        have hyes := eq_true (hfit.mpr rfl)
        simp only [w_g_find_0, w_g_find_1, w_g_find_4, w_g_find_7, w_g_find_8, w_g_find_9, w_g_find_10, w_g_find_13, w_g_find_14, w_g_find_17, w_g_find_20, w_g_find_21, w_g_find_24, w_g_find_25, w_g_find_28, w_g_find_29, w_g_find_32, w_g_find_33, w_g_find_34, w_g_find_37, w_g_find_38, w_g_find_41, w_g_find_42, w_g_find_46, w_g_find_47, w_g_find_50, w_g_find_51, w_g_find_54, w_g_find_57, w_g_find_58, w_g_find_61, w_g_find_63, w_g_find_64, w_g_find_66, w_g_find_69, w_g_find_72, w_g_find_73, w_g_find_74, w_g_find_76, w_g_find_80, w_g_find_83, w_g_find_84, w_g_find_87, w_g_find_90, w_g_find_93, w_g_find_94, w_g_find_95, w_g_find_98, xg_4, xg_3, xg_1, xg_2, al_37, xg_0, cl_12, cl_29, g1, xww_1 isWW_30, zvv (sww_3 isWW_30), eg, e_n_fits, e12, hyes, cl_12, cl_29, i10, Bool.false_eq_true, eq_self, true_or, or_true, if_true, if_false, gv_int, gv_ref, av_some, al_some, un_int, un_ref, un_mk, ok4_0, ok4_1, ok4_2, ok4_3, ok4_4, Kn_some, Kn_none, true_and, and_true]
        refine c_addWay (env := s0.2.1) (sur := s0.2.2) (h := gvF (fun _ => 0) C N m) hp hq' (show s0.1 < 2 ^ 30 by omega) hi hdig (fun t ht => ⟨dg C N m t, dg_lt hC, gvF_in ht⟩) (fun M1 hF1 hi1 h41 => ?_)
        have hF1' : FG M M1 := fun c hc => (hF1 c (by omega)).trans (hF c hc)
        have hw1 : WS M1 30 W C N m := by
          unfold WS WOk at hw ⊢
          rw [hF1 (30 + 1 + 1) (by decide), hF1 (30 + 3 + 1) (by decide)]
          exact hw
        simp only [w_g_find_0, w_g_find_1, w_g_find_4, w_g_find_7, w_g_find_8, w_g_find_9, w_g_find_10, w_g_find_13, w_g_find_14, w_g_find_17, w_g_find_20, w_g_find_21, w_g_find_24, w_g_find_25, w_g_find_28, w_g_find_29, w_g_find_32, w_g_find_33, w_g_find_34, w_g_find_37, w_g_find_38, w_g_find_41, w_g_find_42, w_g_find_46, w_g_find_47, w_g_find_50, w_g_find_51, w_g_find_54, w_g_find_57, w_g_find_58, w_g_find_61, w_g_find_63, w_g_find_64, w_g_find_66, w_g_find_69, w_g_find_72, w_g_find_73, w_g_find_74, w_g_find_76, w_g_find_80, w_g_find_83, w_g_find_84, w_g_find_87, w_g_find_90, w_g_find_93, w_g_find_94, w_g_find_95, w_g_find_98, xg_4, xg_3, xg_1, xg_2, al_37, xg_0, cl_12, cl_29, i10, Bool.false_eq_true, eq_self, true_or, or_true, if_true, if_false, gv_int, gv_ref, av_some, al_some, un_int, un_ref, un_mk, ok4_0, ok4_1, ok4_2, ok4_3, ok4_4, Kn_some, Kn_none, true_and, and_true]
        exact fin M1 hF1' hw1 _ (fun M2 hF2 hw2 j5 => ih M2 (hFW _ _ hF1' hF2) (fun _ => hw2) (by rw [hF2 29 (by decide) (by decide), h41]; exact h0) (hGI _ _ _ _ _ hF2 hi1) j5)
  simp only [w_g_find_0, w_g_find_1, w_g_find_4, w_g_find_7, w_g_find_8, w_g_find_9, w_g_find_10, w_g_find_13, w_g_find_14, w_g_find_17, w_g_find_20, w_g_find_21, w_g_find_24, w_g_find_25, w_g_find_28, w_g_find_29, w_g_find_32, w_g_find_33, w_g_find_34, w_g_find_37, w_g_find_38, w_g_find_41, w_g_find_42, w_g_find_46, w_g_find_47, w_g_find_50, w_g_find_51, w_g_find_54, w_g_find_57, w_g_find_58, w_g_find_61, w_g_find_63, w_g_find_64, w_g_find_66, w_g_find_69, w_g_find_72, w_g_find_73, w_g_find_74, w_g_find_76, w_g_find_79, w_g_find_80, w_g_find_83, w_g_find_84, w_g_find_87, w_g_find_90, w_g_find_93, w_g_find_94, w_g_find_95, w_g_find_98, xg_4, xg_3, xg_1, xg_2, al_37, xg_0, cl_12, cl_29, hk, e_h_layAllOnTable isHH_35, cl_35, e_j_fill (o := 37) al_37 (by decide), show (35 + 1 : Nat) = 36 from rfl, i10, Bool.false_eq_true, eq_self, true_or, or_true, if_true, if_false, gv_int, gv_ref, av_some, al_some, un_int, un_ref, un_mk, ok4_0, ok4_1, ok4_2, ok4_3, ok4_4, Kn_some, Kn_none, true_and, and_true]
  have hF0 : FG M (st (st (up M 29 3 0) 36 (flF (-1) 7 (up M 29 3 0 36))) 37 (flF 0 16 (st (up M 29 3 0) 36 (flF (-1) 7 (up M 29 3 0 36)) 37))) := fun c hc => by rw [st_at, if_neg (by omega), st_at, if_neg (by omega), up_c, if_neg (by omega)]
  have hi0 : GI (st (st (up M 29 3 0) 36 (flF (-1) 7 (up M 29 3 0 36))) 37 (flF 0 16 (st (up M 29 3 0) 36 (flF (-1) 7 (up M 29 3 0 36)) 37))) N 0 (fun _ => 0) (fun _ => 0) := by
    refine ⟨rfl, fun k hk => ?_, fun t ht => ?_⟩
    · show flF 0 16 _ k = 0
      unfold flF; rw [if_pos hk]
    · show flF (-1) 7 _ t = suC 0 _ t
      unfold flF suC; rw [if_pos (by omega), if_pos rfl]
  have h40 : st (st (up M 29 3 0) 36 (flF (-1) 7 (up M 29 3 0 36))) 37 (flF 0 16 (st (up M 29 3 0) 36 (flF (-1) 7 (up M 29 3 0 36)) 37)) 29 4 = 0 := hk
  generalize st (st (up M 29 3 0) 36 (flF (-1) 7 (up M 29 3 0 36))) 37 (flF 0 16 (st (up M 29 3 0) 36 (flF (-1) 7 (up M 29 3 0 36)) 37)) = M0 at hF0 hi0 h40 ⊢
  simp only [w_g_find_0, w_g_find_1, w_g_find_4, w_g_find_7, w_g_find_8, w_g_find_9, w_g_find_10, w_g_find_13, w_g_find_14, w_g_find_17, w_g_find_20, w_g_find_21, w_g_find_24, w_g_find_25, w_g_find_28, w_g_find_29, w_g_find_32, w_g_find_33, w_g_find_34, w_g_find_37, w_g_find_38, w_g_find_41, w_g_find_42, w_g_find_46, w_g_find_47, w_g_find_50, w_g_find_51, w_g_find_54, w_g_find_57, w_g_find_58, w_g_find_61, w_g_find_63, w_g_find_64, w_g_find_66, w_g_find_69, w_g_find_72, w_g_find_73, w_g_find_74, w_g_find_76, w_g_find_79, w_g_find_80, w_g_find_83, w_g_find_84, w_g_find_87, w_g_find_90, w_g_find_93, w_g_find_94, w_g_find_95, w_g_find_98, xg_4, xg_3, xg_1, xg_2, al_37, xg_0, cl_12, cl_29, e_w_countOf hp (hF0.cq hp hq).1, cl_30, i10, Bool.false_eq_true, eq_self, true_or, or_true, if_true, if_false, gv_int, gv_ref, av_some, al_some, un_int, un_ref, un_mk, ok4_0, ok4_1, ok4_2, ok4_3, ok4_4, Kn_some, Kn_none, true_and, and_true]
  refine c_start isWW_30 hp (hF0.cq hp hq) (fun M1 hF1 hw1 => ?_)
  simp only [w_g_find_0, w_g_find_1, w_g_find_4, w_g_find_7, w_g_find_8, w_g_find_9, w_g_find_10, w_g_find_13, w_g_find_14, w_g_find_17, w_g_find_20, w_g_find_21, w_g_find_24, w_g_find_25, w_g_find_28, w_g_find_29, w_g_find_32, w_g_find_33, w_g_find_34, w_g_find_37, w_g_find_38, w_g_find_41, w_g_find_42, w_g_find_46, w_g_find_47, w_g_find_50, w_g_find_51, w_g_find_54, w_g_find_57, w_g_find_58, w_g_find_61, w_g_find_63, w_g_find_64, w_g_find_66, w_g_find_69, w_g_find_72, w_g_find_73, w_g_find_74, w_g_find_76, w_g_find_79, w_g_find_80, w_g_find_83, w_g_find_84, w_g_find_87, w_g_find_90, w_g_find_93, w_g_find_94, w_g_find_95, w_g_find_98, xg_4, xg_3, xg_1, xg_2, al_37, xg_0, cl_12, cl_29, i10, Bool.false_eq_true, eq_self, true_or, or_true, if_true, if_false, gv_int, gv_ref, av_some, al_some, un_int, un_ref, un_mk, ok4_0, ok4_1, ok4_2, ok4_3, ok4_4, Kn_some, Kn_none, true_and, and_true]
  refine two _ rfl _ 0 (Nat.zero_add _) M1 (fun c hc => (hF1 c (by omega) (by omega)).trans (hF0 c hc)) hw1 (by rw [hF1 29 (by decide) (by decide)]; exact h40) ?_ _
  show GI M1 N 0 (fun _ => 0) (fun _ => 0)
  unfold GI at hi0 ⊢
  rw [hF1 29 (by decide) (by decide), hF1 36 (by decide) (by decide), hF1 37 (by decide) (by decide)]
  exact hi0
theorem grid2 {α : Type} (g : Nat → Nat → α → α) (z : α) {C : Nat} (hC : C ≤ 4) : lp (fun i s => lp (fun j s => g i j s) C s) C z = lp (fun k s => if k / 4 < C ∧ k % 4 < C then g (k / 4) (k % 4) s else s) 16 z := by
  have : C = 0 ∨ C = 1 ∨ C = 2 ∨ C = 3 ∨ C = 4 := by omega
  rcases this with rfl | rfl | rfl | rfl | rfl <;> simp [lp]
def bpS (lk env : Nat → Int32) (f : Int32) (i j : Nat) (s : Int32 × Int32) : Int32 × Int32 := if bt (lk i) (nI j) then (if wtP f (env (i * 4 + j)) < s.2 then (nI (10 * i + j), wtP f (env (i * 4 + j))) else s) else s
theorem wtE_g {lk env : Nat → Int32} {f : Int32} {C : Nat} (hC : C ≤ 4) (hl : ∀ i j, i < C → j < 4 → bt (lk i) (nI j) = true → j < C) : wtE lk env f C 16 = lp (fun i s => lp (fun j s => bpS lk env f i j s) C s) C (-1, f) := by
  rw [grid2 (fun i j s => bpS lk env f i j s) (-1, f) hC]
  unfold wtE
  refine lp_congr (fun k hk s => ?_) _
  unfold wtS bpS
  rw [show k / 4 * 4 + k % 4 = k by omega]
  by_cases q1 : k / 4 < C
  · rw [if_pos q1]
    by_cases q2 : k % 4 < C
    · rw [if_pos (show k / 4 < C ∧ k % 4 < C from ⟨q1, q2⟩)]
    · rw [if_neg (show ¬ (k / 4 < C ∧ k % 4 < C) from fun e => q2 e.2), if_neg (show ¬ bt (lk (k / 4)) (nI (k % 4)) = true from fun e => q2 (hl _ _ q1 (by omega) e))]
  · rw [if_neg q1, if_neg (show ¬ (k / 4 < C ∧ k % 4 < C) from fun e => q1 e.1)]
theorem mx_wtP (f e : Int32) : (if e < f - e then f - e else e) = wtP f e := by
  unfold wtP
  by_cases q : f - e < e
  · rw [if_pos q, if_neg]
    intro z
    have := Int32.lt_iff_toInt_lt.mp q
    have := Int32.lt_iff_toInt_lt.mp z
    omega
  · rw [if_neg q]
    by_cases r : e < f - e
    · rw [if_pos r]
    · rw [if_neg r]
      apply Int32.toInt_inj.mp
      have := mt Int32.lt_iff_toInt_lt.mpr q
      have := mt Int32.lt_iff_toInt_lt.mpr r
      omega
theorem e_g_bestPair {A B p K C N f : Nat} {M : Mm} {Q : Po} {kd : Nat → Nat} {W : Nat → Nat → Int32} {lk env sur : Nat → Int32} (hp : isPP p) (hq : CQ M p K C N kd W lk) (hi : GI M N f env sur) (hl : ∀ i j, i < C → j < 4 → bt (lk i) (nI j) = true → j < C) : WP 7 0 [.ref 29, .ref p, mk, mk, mk, mk, mk, mk] [] (shw A B) (0, 0) M Q = Q (some (.int (wtE lk env (nI f) C 16).1)) (shw A B) M := by
  obtain ⟨⟨h1, h2, h3⟩, h4, h5, h6⟩ := id hq.1
  obtain ⟨i1, i2, i3⟩ := hi
  refine WP.is (fun Q hQ => ?_)
  rw [wtE_g h5 hl] at hQ
  simp only [w_g_bestPair_0, w_g_bestPair_1, w_g_bestPair_2, w_g_bestPair_3, w_g_bestPair_6, w_g_bestPair_7, w_g_bestPair_8, w_g_bestPair_12, w_g_bestPair_13, w_g_bestPair_16, w_g_bestPair_19, w_g_bestPair_20, w_g_bestPair_24, w_g_bestPair_25, w_g_bestPair_28, w_g_bestPair_31, w_g_bestPair_32, w_g_bestPair_35, w_g_bestPair_37, w_g_bestPair_38, w_g_bestPair_39, w_g_bestPair_41, w_g_bestPair_42, w_g_bestPair_43, w_g_bestPair_45, w_g_bestPair_47, w_g_bestPair_48, w_g_bestPair_51, w_g_bestPair_53, w_g_bestPair_54, w_g_bestPair_57, w_g_bestPair_59, w_g_bestPair_60, w_g_bestPair_62, w_g_bestPair_64, w_g_bestPair_67, w_g_bestPair_70, w_g_bestPair_72, w_g_bestPair_73, w_g_bestPair_76, w_g_bestPair_78, w_g_bestPair_80, w_g_bestPair_81, w_g_bestPair_83, w_g_bestPair_84, w_g_bestPair_85, w_g_bestPair_87, w_g_bestPair_88, w_g_bestPair_91, w_g_bestPair_94, w_g_bestPair_97, w_g_bestPair_100, w_g_bestPair_101, xg_3, xg_2, al_37, i1, i10, Bool.false_eq_true, eq_self, true_or, or_true, if_true, if_false, gv_int, gv_ref, av_some, al_some, un_int, un_ref, un_mk, ok4_0, ok4_1, ok4_2, ok4_3, ok4_4, Kn_some, Kn_none, true_and, and_true]
  refine for_up (n := C) (P := fun i => ∀ j5 j6 j7, WP 7 10 [.ref 29, .ref p, .int (lp (fun i s => lp (fun j s => bpS lk env (nI f) i j s) C s) i (-1, nI f)).1, .int (lp (fun i s => lp (fun j s => bpS lk env (nI f) i j s) C s) i (-1, nI f)).2, .int (nI i), j5, j6, j7] [] (shw A B) (0, 0) M Q) ?_ ?_ _ _ _
  · intro j5 j6 j7
    rw [w_g_bestPair_10]
    simp only [w_g_bestPair_0, w_g_bestPair_1, w_g_bestPair_2, w_g_bestPair_3, w_g_bestPair_6, w_g_bestPair_7, w_g_bestPair_8, w_g_bestPair_12, w_g_bestPair_13, w_g_bestPair_16, w_g_bestPair_19, w_g_bestPair_20, w_g_bestPair_24, w_g_bestPair_25, w_g_bestPair_28, w_g_bestPair_31, w_g_bestPair_32, w_g_bestPair_35, w_g_bestPair_37, w_g_bestPair_38, w_g_bestPair_39, w_g_bestPair_41, w_g_bestPair_42, w_g_bestPair_43, w_g_bestPair_45, w_g_bestPair_47, w_g_bestPair_48, w_g_bestPair_51, w_g_bestPair_53, w_g_bestPair_54, w_g_bestPair_57, w_g_bestPair_59, w_g_bestPair_60, w_g_bestPair_62, w_g_bestPair_64, w_g_bestPair_67, w_g_bestPair_70, w_g_bestPair_72, w_g_bestPair_73, w_g_bestPair_76, w_g_bestPair_78, w_g_bestPair_80, w_g_bestPair_81, w_g_bestPair_83, w_g_bestPair_84, w_g_bestPair_85, w_g_bestPair_87, w_g_bestPair_88, w_g_bestPair_91, w_g_bestPair_94, w_g_bestPair_97, w_g_bestPair_100, w_g_bestPair_101, xg_3, xg_2, al_37, xpp_1 hp, h2, lt_irr, i10, Bool.false_eq_true, eq_self, true_or, or_true, if_true, if_false, gv_int, gv_ref, av_some, al_some, un_int, un_ref, un_mk, ok4_0, ok4_1, ok4_2, ok4_3, ok4_4, Kn_some, Kn_none, true_and, and_true]
    exact hQ
  · intro i hi ih j5 j6 j7
    have g1 : nI i < nI C := nI_lt hi (by omega)
    rw [w_g_bestPair_10]
    simp only [w_g_bestPair_0, w_g_bestPair_1, w_g_bestPair_2, w_g_bestPair_3, w_g_bestPair_6, w_g_bestPair_7, w_g_bestPair_8, w_g_bestPair_12, w_g_bestPair_13, w_g_bestPair_16, w_g_bestPair_19, w_g_bestPair_20, w_g_bestPair_24, w_g_bestPair_25, w_g_bestPair_28, w_g_bestPair_31, w_g_bestPair_32, w_g_bestPair_35, w_g_bestPair_37, w_g_bestPair_38, w_g_bestPair_39, w_g_bestPair_41, w_g_bestPair_42, w_g_bestPair_43, w_g_bestPair_45, w_g_bestPair_47, w_g_bestPair_48, w_g_bestPair_51, w_g_bestPair_53, w_g_bestPair_54, w_g_bestPair_57, w_g_bestPair_59, w_g_bestPair_60, w_g_bestPair_62, w_g_bestPair_64, w_g_bestPair_67, w_g_bestPair_70, w_g_bestPair_72, w_g_bestPair_73, w_g_bestPair_76, w_g_bestPair_78, w_g_bestPair_80, w_g_bestPair_81, w_g_bestPair_83, w_g_bestPair_84, w_g_bestPair_85, w_g_bestPair_87, w_g_bestPair_88, w_g_bestPair_91, w_g_bestPair_94, w_g_bestPair_97, w_g_bestPair_100, w_g_bestPair_101, xg_3, xg_2, al_37, xpp_1 hp, h2, g1, i10, Bool.false_eq_true, eq_self, true_or, or_true, if_true, if_false, gv_int, gv_ref, av_some, al_some, un_int, un_ref, un_mk, ok4_0, ok4_1, ok4_2, ok4_3, ok4_4, Kn_some, Kn_none, true_and, and_true]
    simp only [lp_s] at ih
    generalize lp (fun i s => lp (fun j s => bpS lk env (nI f) i j s) C s) i (-1, nI f) = s0 at ih ⊢
    refine for_up (n := C) (P := fun j => ∀ j6 j7, WP 7 22 [.ref 29, .ref p, .int (lp (fun j s => bpS lk env (nI f) i j s) j s0).1, .int (lp (fun j s => bpS lk env (nI f) i j s) j s0).2, .int (nI i), .int (nI j), j6, j7] [] (shw A B) (0, 0) M Q) ?_ ?_ _ _
    · intro j6 j7
      rw [w_g_bestPair_22]
      simp only [w_g_bestPair_0, w_g_bestPair_1, w_g_bestPair_2, w_g_bestPair_3, w_g_bestPair_6, w_g_bestPair_7, w_g_bestPair_8, w_g_bestPair_12, w_g_bestPair_13, w_g_bestPair_16, w_g_bestPair_19, w_g_bestPair_20, w_g_bestPair_24, w_g_bestPair_25, w_g_bestPair_28, w_g_bestPair_31, w_g_bestPair_32, w_g_bestPair_35, w_g_bestPair_37, w_g_bestPair_38, w_g_bestPair_39, w_g_bestPair_41, w_g_bestPair_42, w_g_bestPair_43, w_g_bestPair_45, w_g_bestPair_47, w_g_bestPair_48, w_g_bestPair_51, w_g_bestPair_53, w_g_bestPair_54, w_g_bestPair_57, w_g_bestPair_59, w_g_bestPair_60, w_g_bestPair_62, w_g_bestPair_64, w_g_bestPair_67, w_g_bestPair_70, w_g_bestPair_72, w_g_bestPair_73, w_g_bestPair_76, w_g_bestPair_78, w_g_bestPair_80, w_g_bestPair_81, w_g_bestPair_83, w_g_bestPair_84, w_g_bestPair_85, w_g_bestPair_87, w_g_bestPair_88, w_g_bestPair_91, w_g_bestPair_94, w_g_bestPair_97, w_g_bestPair_100, w_g_bestPair_101, xg_3, xg_2, al_37, xpp_1 hp, h2, lt_irr, nI_1, i10, Bool.false_eq_true, eq_self, true_or, or_true, if_true, if_false, gv_int, gv_ref, av_some, al_some, un_int, un_ref, un_mk, ok4_0, ok4_1, ok4_2, ok4_3, ok4_4, Kn_some, Kn_none, true_and, and_true]
      exact ih _ _ _
    · intro j hj ih2 j6 j7
      have g2 : nI j < nI C := nI_lt hj (by omega)
      have g3 : vp_in (nI (i * 4 + j)) 16 := vp_in_nI (by omega) (by decide)
      have e4 : nI i * 4 + nI j = nI (i * 4 + j) := by rw [show (4 : Int32) = nI 4 from rfl, pk_mul, nI_add]
      have e10 : (10 : Int32) * nI i + nI j = nI (10 * i + j) := by rw [show (10 : Int32) = nI 10 from rfl, pk_mul, nI_add]
      have n1 : inb (nI i) C = true := inb_nI hi (by omega)
      have n2 : inb (nI j) C = true := inb_nI hj (by omega)
      simp only [lp_s] at ih2
      generalize lp (fun j s => bpS lk env (nI f) i j s) j s0 = s1 at ih2 ⊢
      unfold bpS at ih2
      rw [w_g_bestPair_22]
      cases r : bt (lk i) (nI j)
      · rw [r] at ih2
        simp only [Bool.false_eq_true, if_false] at ih2
        simp only [w_g_bestPair_0, w_g_bestPair_1, w_g_bestPair_2, w_g_bestPair_3, w_g_bestPair_6, w_g_bestPair_7, w_g_bestPair_8, w_g_bestPair_12, w_g_bestPair_13, w_g_bestPair_16, w_g_bestPair_19, w_g_bestPair_20, w_g_bestPair_24, w_g_bestPair_25, w_g_bestPair_28, w_g_bestPair_31, w_g_bestPair_32, w_g_bestPair_35, w_g_bestPair_37, w_g_bestPair_38, w_g_bestPair_39, w_g_bestPair_41, w_g_bestPair_42, w_g_bestPair_43, w_g_bestPair_45, w_g_bestPair_47, w_g_bestPair_48, w_g_bestPair_51, w_g_bestPair_53, w_g_bestPair_54, w_g_bestPair_57, w_g_bestPair_59, w_g_bestPair_60, w_g_bestPair_62, w_g_bestPair_64, w_g_bestPair_67, w_g_bestPair_70, w_g_bestPair_72, w_g_bestPair_73, w_g_bestPair_76, w_g_bestPair_78, w_g_bestPair_80, w_g_bestPair_81, w_g_bestPair_83, w_g_bestPair_84, w_g_bestPair_85, w_g_bestPair_87, w_g_bestPair_88, w_g_bestPair_91, w_g_bestPair_94, w_g_bestPair_97, w_g_bestPair_100, w_g_bestPair_101, xg_3, xg_2, al_37, xpp_1 hp, h2, g2, e4, g3, nI_clamp (show i * 4 + j < 2 ^ 31 by omega), i2 (i * 4 + j) (by omega), i1, mx_wtP, e_p_looksAt hp hq.1, n1, n2, nI_clamp (show i < 2 ^ 31 by omega), hq.2.2.2.1 i hi, r, zpp hp, nI_1, i10, Bool.false_eq_true, eq_self, true_or, or_true, if_true, if_false, gv_int, gv_ref, av_some, al_some, un_int, un_ref, un_mk, ok4_0, ok4_1, ok4_2, ok4_3, ok4_4, Kn_some, Kn_none, true_and, and_true]
        exact ih2 _ _
      · rw [r] at ih2
        simp only [if_true] at ih2
        simp only [w_g_bestPair_0, w_g_bestPair_1, w_g_bestPair_2, w_g_bestPair_3, w_g_bestPair_6, w_g_bestPair_7, w_g_bestPair_8, w_g_bestPair_12, w_g_bestPair_13, w_g_bestPair_16, w_g_bestPair_19, w_g_bestPair_20, w_g_bestPair_24, w_g_bestPair_25, w_g_bestPair_28, w_g_bestPair_31, w_g_bestPair_32, w_g_bestPair_35, w_g_bestPair_37, w_g_bestPair_38, w_g_bestPair_39, w_g_bestPair_41, w_g_bestPair_42, w_g_bestPair_43, w_g_bestPair_45, w_g_bestPair_47, w_g_bestPair_48, w_g_bestPair_51, w_g_bestPair_53, w_g_bestPair_54, w_g_bestPair_57, w_g_bestPair_59, w_g_bestPair_60, w_g_bestPair_62, w_g_bestPair_64, w_g_bestPair_67, w_g_bestPair_70, w_g_bestPair_72, w_g_bestPair_73, w_g_bestPair_76, w_g_bestPair_78, w_g_bestPair_80, w_g_bestPair_81, w_g_bestPair_83, w_g_bestPair_84, w_g_bestPair_85, w_g_bestPair_87, w_g_bestPair_88, w_g_bestPair_91, w_g_bestPair_94, w_g_bestPair_97, w_g_bestPair_100, w_g_bestPair_101, xg_3, xg_2, al_37, xpp_1 hp, h2, g2, e4, g3, nI_clamp (show i * 4 + j < 2 ^ 31 by omega), i2 (i * 4 + j) (by omega), i1, mx_wtP, e_p_looksAt hp hq.1, n1, n2, nI_clamp (show i < 2 ^ 31 by omega), hq.2.2.2.1 i hi, r, zpp hp, nI_1, e10, i10, Bool.false_eq_true, eq_self, true_or, or_true, if_true, if_false, gv_int, gv_ref, av_some, al_some, un_int, un_ref, un_mk, ok4_0, ok4_1, ok4_2, ok4_3, ok4_4, Kn_some, Kn_none, true_and, and_true]
        by_cases z : wtP (nI f) (env (i * 4 + j)) < s1.2
        · simp only [z, if_true] at ih2 ⊢; exact ih2 _ _
        · simp only [z, if_false] at ih2 ⊢; exact ih2 _ _
