/-! the component: sharing -/
theorem cntE_s (h : Nat → Int32) (n i : Nat) : cntE h (n + 1) i = cntE h n i + (if h n = nI i then 1 else 0) := rfl
theorem cntE_congr {h h' : Nat → Int32} {i : Nat} : ∀ n, (∀ t, t < n → h t = h' t) → cntE h n i = cntE h' n i
  | 0, _ => rfl
  | n + 1, hh => by rw [cntE_s, cntE_s, cntE_congr n (fun t ht => hh t (by omega)), hh n (by omega)]
theorem evenE_congr {h h' : Nat → Int32} {n c : Nat} (hh : ∀ t, t < n → h t = h' t) : evenE h n c = evenE h' n c := by
  have e : cntE h n = cntE h' n := funext (fun i => cntE_congr n hh)
  unfold evenE mostE leastE
  rw [e]
theorem ev_congr {W : Nat → Nat → Int32} {lk h h' : Nat → Int32} {n : Nat} (hh : ∀ t, t < n → h t = h' t) : ev W lk h n = ev W lk h' n := by
  funext i j
  unfold ev
  rw [wo_congr n hh, wo_congr n hh]
theorem allE_congr {W : Nat → Nat → Int32} {lk h h' : Nat → Int32} {n c : Nat} (hh : ∀ t, t < n → h t = h' t) : allE W lk h n c = allE W lk h' n c := by
  unfold allE
  rw [ev_congr hh]
theorem gvF_in {h : Nat → Int32} {c n m t : Nat} (ht : t < n) : gvF h c n m t = nI (dg c n m t) := by unfold gvF; rw [if_pos ht]
theorem shV_h (W : Nat → Nat → Int32) (lk h h' : Nat → Int32) (n c : Nat) : shV W lk h n c = shV W lk h' n c := by
  funext m
  have hh : ∀ t, t < n → gvF h c n m t = gvF h' c n m t := fun t ht => by rw [gvF_in ht, gvF_in ht]
  unfold shV
  rw [evenE_congr hh, allE_congr hh]
theorem spB_form {V : Nat → Int32} (hV : ∀ k, ¬ 100000000 < V k) : ∀ n, (spB V n = (-1, 100000000) ∧ ∀ k, k < n → ¬ V k < 100000000) ∨ ∃ b, b < n ∧ (spB V n).1 = nI b ∧ ¬ 100000000 < (spB V n).2
  | 0 => Or.inl ⟨rfl, fun k hk => absurd hk (Nat.not_lt_zero _)⟩
  | n + 1 => by
    rw [spB_s]
    rcases spB_form hV n with ⟨e, h⟩ | ⟨b, b1, b2, b3⟩
    · rw [e]
      by_cases q : V n < 100000000
      · rw [if_pos q]; exact Or.inr ⟨n, by omega, rfl, hV n⟩
      · rw [if_neg q]
        exact Or.inl ⟨rfl, fun k hk => by
          by_cases r : k = n
          · rw [r]; exact q
          · exact h k (by omega)⟩
    · split
      · exact Or.inr ⟨n, by omega, rfl, hV n⟩
      · exact Or.inr ⟨b, by omega, b2, b3⟩
/-- the best way to share, whoever has what now -/
def shB (W : Nat → Nat → Int32) (lk : Nat → Int32) (C N k : Nat) : Int32 × Int32 := spB (shV W lk (fun _ => 0) N C) k
theorem shB_s (W : Nat → Nat → Int32) (lk : Nat → Int32) (C N k : Nat) : shB W lk C N (k + 1) = if shV W lk (fun _ => 0) N C k < (shB W lk C N k).2 then (nI k, shV W lk (fun _ => 0) N C k) else shB W lk C N k := rfl
def FS (M M' : Mm) : Prop := ∀ c, ¬ (c = 21 ∨ c = 24 ∨ c = 26 ∨ c = 28) → M' c = M c
theorem FS.cq {M M' : Mm} {p K C N : Nat} {kd : Nat → Nat} {W : Nat → Nat → Int32} {lk : Nat → Int32} (h : FS M M') (hp : isPP p) (hq : CQ M p K C N kd W lk) : CQ M' p K C N kd W lk :=
  hq.fr (fun c c1 c2 => h c (by unfold isPP at hp; omega))
/-- the sharing kept is right -/
def SHK (M : Mm) (W : Nat → Nat → Int32) (lk : Nat → Int32) (C N : Nat) : Prop := ∃ b, (shB W lk C N (C ^ N)).1 = nI b ∧ b < C ^ N ∧ M 21 2 = (shB W lk C N (C ^ N)).2 ∧ ∀ t, t < N → M 28 t = nI (dg C N b t)
theorem c_s_known {A B p : Nat} {M : Mm} {Q : Po} (hk : M 21 3 = 1) (hQ : Q none (shw A B) M) : WP 74 0 [.ref 21, .ref p, mk, mk, mk, mk] [] (shw A B) (0, 0) M Q := by
  simp only [w_s_find_0, w_s_find_1, w_s_find_4, w_s_find_7, w_s_find_8, w_s_find_9, w_s_find_12, w_s_find_13, w_s_find_14, w_s_find_15, w_s_find_16, w_s_find_19, w_s_find_20, w_s_find_23, w_s_find_24, w_s_find_28, w_s_find_29, w_s_find_32, w_s_find_33, w_s_find_36, w_s_find_37, w_s_find_40, w_s_find_43, w_s_find_44, w_s_find_47, w_s_find_50, w_s_find_51, w_s_find_54, w_s_find_56, w_s_find_57, w_s_find_60, w_s_find_62, w_s_find_63, w_s_find_66, w_s_find_69, w_s_find_70, w_s_find_71, w_s_find_72, w_s_find_74, w_s_find_77, w_s_find_78, w_s_find_81, w_s_find_82, w_s_find_85, w_s_find_88, w_s_find_91, w_s_find_92, w_s_find_95, w_s_find_96, w_s_find_99, w_s_find_102, w_s_find_105, w_s_find_106, w_s_find_107, w_s_find_110, xs_3, xs_0, xs_2, xs_1, hk, i10, Bool.false_eq_true, eq_self, true_or, or_true, if_true, if_false, gv_int, gv_ref, av_some, al_some, un_int, un_ref, un_mk, ok4_0, ok4_1, ok4_2, ok4_3, ok4_4, Kn_some, Kn_none, true_and, and_true]
  exact hQ
theorem c_s_find {A B p K C N : Nat} {M : Mm} {Q : Po} {kd : Nat → Nat} {W : Nat → Nat → Int32} {lk : Nat → Int32} (hp : isPP p) (hq : CQ M p K C N kd W lk) (hC : 0 < C) (hk : M 21 3 = 0) (hA : ∀ h, allE W lk h N C < 100000000) (hE : ∃ b, b < C ^ N ∧ evenE (gvF (fun _ => 0) C N b) N C = true) (hQ : ∀ M', FS M M' → M' 21 3 = 1 → SHK M' W lk C N → Q none (shw A B) M') : WP 74 0 [.ref 21, .ref p, mk, mk, mk, mk] [] (shw A B) (0, 0) M Q := by
  obtain ⟨⟨h1, h2, h3⟩, h4, h5, h6⟩ := id hq.1
  have hp16 := pow_le h5 h6
  have irr : ¬ (100000000 : Int32) < 100000000 := by decide
  have hV : ∀ k, ¬ 100000000 < shV W lk (fun _ => 0) N C k := by
    intro k
    unfold shV
    split
    · intro e
      have a1 := Int32.lt_iff_toInt_lt.mp e
      have a2 := Int32.lt_iff_toInt_lt.mp (hA (gvF (fun _ => 0) C N k))
      omega
    · exact irr
  have two : ∀ f m, m + f = C ^ N → ∀ M', FS M M' → WS M' 22 W C N m → ((shB W lk C N m = (-1, 100000000)) ∨ ∃ b, b < C ^ N ∧ (shB W lk C N m).1 = nI b ∧ M' 21 2 = (shB W lk C N m).2 ∧ ∀ t, t < N → M' 28 t = nI (dg C N b t)) → ∀ j5, WP 74 26 [.ref 21, .ref p, .int (nI (C ^ N)), .int (if (shB W lk C N m).1 = -1 then 0 else 1), .int (nI m), j5] [] (shw A B) (0, 0) M' Q := by
    intro f
    induction f with
    | zero =>
      intro m hm M' hF hw hs j5
      have hm : m = C ^ N := hm
      subst hm
      rw [w_s_find_26]
      simp only [w_s_find_0, w_s_find_1, w_s_find_4, w_s_find_7, w_s_find_8, w_s_find_9, w_s_find_12, w_s_find_13, w_s_find_14, w_s_find_15, w_s_find_16, w_s_find_19, w_s_find_20, w_s_find_23, w_s_find_24, w_s_find_28, w_s_find_29, w_s_find_32, w_s_find_33, w_s_find_36, w_s_find_37, w_s_find_40, w_s_find_43, w_s_find_44, w_s_find_47, w_s_find_50, w_s_find_51, w_s_find_54, w_s_find_56, w_s_find_57, w_s_find_60, w_s_find_62, w_s_find_63, w_s_find_66, w_s_find_69, w_s_find_70, w_s_find_71, w_s_find_72, w_s_find_74, w_s_find_77, w_s_find_78, w_s_find_81, w_s_find_82, w_s_find_85, w_s_find_88, w_s_find_91, w_s_find_92, w_s_find_95, w_s_find_96, w_s_find_99, w_s_find_102, w_s_find_105, w_s_find_106, w_s_find_107, w_s_find_110, xs_3, xs_0, xs_2, xs_1, lt_irr, i10, Bool.false_eq_true, eq_self, true_or, or_true, if_true, if_false, gv_int, gv_ref, av_some, al_some, un_int, un_ref, un_mk, ok4_0, ok4_1, ok4_2, ok4_3, ok4_4, Kn_some, Kn_none, true_and, and_true]
      refine hQ _ (fun c hc => (if_neg (by omega)).trans (hF c hc)) rfl ?_
      rcases hs with e | ⟨b, b1, b2, b3, b4⟩
      · exfalso
        rcases spB_form hV (C ^ N) with ⟨-, h⟩ | ⟨b, b1, b2, -⟩
        · obtain ⟨b, b1, b2⟩ := hE
          refine h b b1 ?_
          unfold shV
          rw [b2, if_pos rfl]
          exact hA _
        · have e2 := congrArg Prod.fst e
          unfold shB at e2
          rw [b2] at e2
          exact nI_ne_m1 (by omega) e2
      · exact ⟨b, b2, b1, b3, b4⟩
    | succ f ih =>
      intro m hm M' hF hw hs j5
      have g1 : nI m < nI (C ^ N) := nI_lt (by omega) (by omega)
      have hq' := hF.cq hp hq
      have hdig : ∀ t, t < N → M' (22 + 1 + 1) t = gvF (fun _ => 0) C N m t := fun t ht => by rw [gvF_in ht]; exact hw.1 t ht
      have ee := evenE_congr (c := C) hdig
      have ea := allE_congr (W := W) (lk := lk) (c := C) hdig
      have ih := ih (m + 1) (by omega)
      rw [shB_s] at ih
      have hform : ¬ 100000000 < (shB W lk C N m).2 := by
        rcases spB_form hV m with ⟨e, -⟩ | ⟨b, -, -, b3⟩
        · unfold shB; rw [e]; exact irr
        · exact b3
      generalize hs0 : shB W lk C N m = s0 at ih hs hform ⊢
      have fin : ∀ M1, FS M M1 → WS M1 22 W C N m → ∀ (x : Int32) j5, (∀ M2, FW 22 M1 M2 → WS M2 22 W C N (m + 1) → ∀ j5, WP 74 26 [.ref 21, .ref p, .int (nI (C ^ N)), .int x, .int (nI (m + 1)), j5] [] (shw A B) (0, 0) M2 Q) → WP 74 91 [.ref 21, .ref p, .int (nI (C ^ N)), .int x, .int (nI m), j5] [] (shw A B) (0, 0) M1 Q := by
        intro M1 hF1 hw1 x j5 h
        simp only [w_s_find_0, w_s_find_1, w_s_find_4, w_s_find_7, w_s_find_8, w_s_find_9, w_s_find_12, w_s_find_13, w_s_find_14, w_s_find_15, w_s_find_16, w_s_find_19, w_s_find_20, w_s_find_23, w_s_find_24, w_s_find_28, w_s_find_29, w_s_find_32, w_s_find_33, w_s_find_36, w_s_find_37, w_s_find_40, w_s_find_43, w_s_find_44, w_s_find_47, w_s_find_50, w_s_find_51, w_s_find_54, w_s_find_56, w_s_find_57, w_s_find_60, w_s_find_62, w_s_find_63, w_s_find_66, w_s_find_69, w_s_find_70, w_s_find_71, w_s_find_72, w_s_find_74, w_s_find_77, w_s_find_78, w_s_find_81, w_s_find_82, w_s_find_85, w_s_find_88, w_s_find_91, w_s_find_92, w_s_find_95, w_s_find_96, w_s_find_99, w_s_find_102, w_s_find_105, w_s_find_106, w_s_find_107, w_s_find_110, xs_3, xs_0, xs_2, xs_1, cl_22, i10, Bool.false_eq_true, eq_self, true_or, or_true, if_true, if_false, gv_int, gv_ref, av_some, al_some, un_int, un_ref, un_mk, ok4_0, ok4_1, ok4_2, ok4_3, ok4_4, Kn_some, Kn_none, true_and, and_true]
        refine c_advance isWW_22 hp (hF1.cq hp hq) hC hw1 (fun M2 hF2 hw2 => ?_)
        simp only [w_s_find_0, w_s_find_1, w_s_find_4, w_s_find_7, w_s_find_8, w_s_find_9, w_s_find_12, w_s_find_13, w_s_find_14, w_s_find_15, w_s_find_16, w_s_find_19, w_s_find_20, w_s_find_23, w_s_find_24, w_s_find_28, w_s_find_29, w_s_find_32, w_s_find_33, w_s_find_36, w_s_find_37, w_s_find_40, w_s_find_43, w_s_find_44, w_s_find_47, w_s_find_50, w_s_find_51, w_s_find_54, w_s_find_56, w_s_find_57, w_s_find_60, w_s_find_62, w_s_find_63, w_s_find_66, w_s_find_69, w_s_find_70, w_s_find_71, w_s_find_72, w_s_find_74, w_s_find_77, w_s_find_78, w_s_find_81, w_s_find_82, w_s_find_85, w_s_find_88, w_s_find_91, w_s_find_92, w_s_find_95, w_s_find_96, w_s_find_99, w_s_find_102, w_s_find_105, w_s_find_106, w_s_find_107, w_s_find_110, xs_3, xs_0, xs_2, xs_1, nI_1, i10, Bool.false_eq_true, eq_self, true_or, or_true, if_true, if_false, gv_int, gv_ref, av_some, al_some, un_int, un_ref, un_mk, ok4_0, ok4_1, ok4_2, ok4_3, ok4_4, Kn_some, Kn_none, true_and, and_true]
        exact h M2 hF2 hw2 _
      have hFW : ∀ M1 M2, FS M M1 → FW 22 M1 M2 → FS M M2 := fun M1 M2 a b c hc => (b c (by omega) (by omega)).trans (a c hc)
      rw [w_s_find_26]
      cases he : evenE (gvF (fun _ => 0) C N m) N C
      · have eV : shV W lk (fun _ => 0) N C m = 100000000 := by unfold shV; rw [he, if_neg (by decide)]
        rw [eV, if_neg hform] at ih
        simp only [w_s_find_0, w_s_find_1, w_s_find_4, w_s_find_7, w_s_find_8, w_s_find_9, w_s_find_12, w_s_find_13, w_s_find_14, w_s_find_15, w_s_find_16, w_s_find_19, w_s_find_20, w_s_find_23, w_s_find_24, w_s_find_28, w_s_find_29, w_s_find_32, w_s_find_33, w_s_find_36, w_s_find_37, w_s_find_40, w_s_find_43, w_s_find_44, w_s_find_47, w_s_find_50, w_s_find_51, w_s_find_54, w_s_find_56, w_s_find_57, w_s_find_60, w_s_find_62, w_s_find_63, w_s_find_66, w_s_find_69, w_s_find_70, w_s_find_71, w_s_find_72, w_s_find_74, w_s_find_77, w_s_find_78, w_s_find_81, w_s_find_82, w_s_find_85, w_s_find_88, w_s_find_92, w_s_find_95, w_s_find_96, w_s_find_99, w_s_find_102, w_s_find_105, w_s_find_106, w_s_find_107, w_s_find_110, xs_3, xs_0, xs_2, xs_1, g1, e_w_isEven isWW_22 hp hq' hC, ee, he, cl_22, i10, Bool.false_eq_true, eq_self, true_or, or_true, if_true, if_false, gv_int, gv_ref, av_some, al_some, un_int, un_ref, un_mk, ok4_0, ok4_1, ok4_2, ok4_3, ok4_4, Kn_some, Kn_none, true_and, and_true]
        refine fin M' hF hw _ _ (fun M2 hF2 hw2 j5 => ih M2 (hFW _ _ hF hF2) hw2 ?_ j5)
        rw [hF2 21 (by decide) (by decide), hF2 28 (by decide) (by decide)]
        exact hs
      · have eV : shV W lk (fun _ => 0) N C m = allE W lk (gvF (fun _ => 0) C N m) N C := by unfold shV; rw [he, if_pos rfl]
        rw [eV] at ih
        have eg := fun (Q : Po) => e_v_allGrudges (A := A) (B := B) (o := 22 + 3) (p := p) (M := M') (Q := Q) (h := gvF (fun _ => 0) C N m) isVV_25 hp hq' (fun i j hi hj => (hw.2 i j hi hj).trans (wo_congr N hdig))
        have upd1 : ∀ M', FS M M' → WS M' 22 W C N m → WS (st (up M' 21 2 (allE W lk (gvF (fun _ => 0) C N m) N C)) 28 (cpF (M' 24) (M' 28))) 22 W C N m ∧ FS M (st (up M' 21 2 (allE W lk (gvF (fun _ => 0) C N m) N C)) 28 (cpF (M' 24) (M' 28))) := fun M' hF hw => ⟨hw, fun c hc => (if_neg (by omega)).trans ((if_neg (by omega)).trans (hF c hc))⟩
        have new : ∀ M2, FW 22 (st (up M' 21 2 (allE W lk (gvF (fun _ => 0) C N m) N C)) 28 (cpF (M' 24) (M' 28))) M2 → (((nI m, allE W lk (gvF (fun _ => 0) C N m) N C) : Int32 × Int32) = (-1, 100000000) ∨ ∃ b, b < C ^ N ∧ ((nI m, allE W lk (gvF (fun _ => 0) C N m) N C) : Int32 × Int32).1 = nI b ∧ M2 21 2 = ((nI m, allE W lk (gvF (fun _ => 0) C N m) N C) : Int32 × Int32).2 ∧ ∀ t, t < N → M2 28 t = nI (dg C N b t)) := by
          intro M2 hF2
          refine Or.inr ⟨m, by omega, rfl, ?_, fun t ht => ?_⟩
          · rw [hF2 21 (by decide) (by decide)]; rfl
          · rw [hF2 28 (by decide) (by decide)]
            show cpF (M' 24) (M' 28) t = _
            unfold cpF
            rw [if_pos (by omega)]
            exact hw.1 t ht
        have cop := fun (X : Mm) (Q : Po) => e_h_copy (A := A) (B := B) (M := X) (Q := Q) isHH_27 isHH_23
        have n1 : (nI m = -1) = False := eq_false (nI_ne_m1 (by omega))
        rcases hs with e | ⟨b, b1, b2, b3, b4⟩
        · rw [e, if_pos (hA _)] at ih
          rw [e]
          simp only [w_s_find_0, w_s_find_1, w_s_find_4, w_s_find_7, w_s_find_8, w_s_find_9, w_s_find_12, w_s_find_13, w_s_find_14, w_s_find_15, w_s_find_16, w_s_find_19, w_s_find_20, w_s_find_23, w_s_find_24, w_s_find_28, w_s_find_29, w_s_find_32, w_s_find_33, w_s_find_36, w_s_find_37, w_s_find_40, w_s_find_43, w_s_find_44, w_s_find_47, w_s_find_50, w_s_find_51, w_s_find_54, w_s_find_56, w_s_find_57, w_s_find_60, w_s_find_62, w_s_find_63, w_s_find_66, w_s_find_69, w_s_find_70, w_s_find_71, w_s_find_72, w_s_find_74, w_s_find_77, w_s_find_78, w_s_find_81, w_s_find_82, w_s_find_85, w_s_find_88, w_s_find_92, w_s_find_95, w_s_find_96, w_s_find_99, w_s_find_102, w_s_find_105, w_s_find_106, w_s_find_107, w_s_find_110, xs_3, xs_0, xs_2, xs_1, g1, e_w_isEven isWW_22 hp hq' hC, ee, he, cl_22, cl_25, cl_27, zvv (sww_3 isWW_22), xww_1 isWW_22, xww_0 isWW_22, eg, e_h_copy isHH_27 isHH_23, i10, Bool.false_eq_true, eq_self, true_or, or_true, if_true, if_false, gv_int, gv_ref, av_some, al_some, un_int, un_ref, un_mk, ok4_0, ok4_1, ok4_2, ok4_3, ok4_4, Kn_some, Kn_none, true_and, and_true]
          obtain ⟨u1, u2⟩ := upd1 M' hF hw
          refine fin _ u2 u1 _ _ (fun M2 hF2 hw2 j5 => ?_)
          have := ih M2 (hFW _ _ u2 hF2) hw2 (new M2 hF2) j5
          simp only [n1, if_false] at this
          exact this
        · have n2 : (nI b = -1) = False := eq_false (nI_ne_m1 (by omega))
          rw [b2]
          by_cases q : allE W lk (gvF (fun _ => 0) C N m) N C < s0.2
          · rw [if_pos q] at ih
            simp only [n2, if_false]
            simp only [w_s_find_0, w_s_find_1, w_s_find_4, w_s_find_7, w_s_find_8, w_s_find_9, w_s_find_12, w_s_find_13, w_s_find_14, w_s_find_15, w_s_find_16, w_s_find_19, w_s_find_20, w_s_find_23, w_s_find_24, w_s_find_28, w_s_find_29, w_s_find_32, w_s_find_33, w_s_find_36, w_s_find_37, w_s_find_40, w_s_find_43, w_s_find_44, w_s_find_47, w_s_find_50, w_s_find_51, w_s_find_54, w_s_find_56, w_s_find_57, w_s_find_60, w_s_find_62, w_s_find_63, w_s_find_66, w_s_find_69, w_s_find_70, w_s_find_71, w_s_find_72, w_s_find_74, w_s_find_77, w_s_find_78, w_s_find_81, w_s_find_82, w_s_find_85, w_s_find_88, w_s_find_92, w_s_find_95, w_s_find_96, w_s_find_99, w_s_find_102, w_s_find_105, w_s_find_106, w_s_find_107, w_s_find_110, xs_3, xs_0, xs_2, xs_1, g1, e_w_isEven isWW_22 hp hq' hC, ee, he, cl_22, cl_25, cl_27, zvv (sww_3 isWW_22), xww_1 isWW_22, xww_0 isWW_22, eg, e_h_copy isHH_27 isHH_23, i10, Bool.false_eq_true, eq_self, true_or, or_true, if_true, if_false, gv_int, gv_ref, av_some, al_some, un_int, un_ref, un_mk, ok4_0, ok4_1, ok4_2, ok4_3, ok4_4, Kn_some, Kn_none, true_and, and_true]
            simp only [w_s_find_0, w_s_find_1, w_s_find_4, w_s_find_7, w_s_find_8, w_s_find_9, w_s_find_12, w_s_find_13, w_s_find_14, w_s_find_15, w_s_find_16, w_s_find_19, w_s_find_20, w_s_find_23, w_s_find_24, w_s_find_28, w_s_find_29, w_s_find_32, w_s_find_33, w_s_find_36, w_s_find_37, w_s_find_40, w_s_find_43, w_s_find_44, w_s_find_47, w_s_find_50, w_s_find_51, w_s_find_54, w_s_find_56, w_s_find_57, w_s_find_60, w_s_find_62, w_s_find_63, w_s_find_66, w_s_find_69, w_s_find_70, w_s_find_71, w_s_find_72, w_s_find_74, w_s_find_77, w_s_find_78, w_s_find_81, w_s_find_82, w_s_find_85, w_s_find_88, w_s_find_92, w_s_find_95, w_s_find_96, w_s_find_99, w_s_find_102, w_s_find_105, w_s_find_106, w_s_find_107, w_s_find_110, xs_3, xs_0, xs_2, xs_1, b3, eq_true q, e_w_isEven isWW_22 hp hq' hC, ee, he, cl_22, cl_25, cl_27, zvv (sww_3 isWW_22), xww_1 isWW_22, xww_0 isWW_22, e_h_copy isHH_27 isHH_23, i10, Bool.false_eq_true, eq_self, true_or, or_true, if_true, if_false, gv_int, gv_ref, av_some, al_some, un_int, un_ref, un_mk, ok4_0, ok4_1, ok4_2, ok4_3, ok4_4, Kn_some, Kn_none, true_and, and_true]
            obtain ⟨u1, u2⟩ := upd1 M' hF hw
            refine fin _ u2 u1 _ _ (fun M2 hF2 hw2 j5 => ?_)
            have := ih M2 (hFW _ _ u2 hF2) hw2 (new M2 hF2) j5
            simp only [n1, if_false] at this
            exact this
          · rw [if_neg q] at ih
            simp only [n2, if_false]
            simp only [w_s_find_0, w_s_find_1, w_s_find_4, w_s_find_7, w_s_find_8, w_s_find_9, w_s_find_12, w_s_find_13, w_s_find_14, w_s_find_15, w_s_find_16, w_s_find_19, w_s_find_20, w_s_find_23, w_s_find_24, w_s_find_28, w_s_find_29, w_s_find_32, w_s_find_33, w_s_find_36, w_s_find_37, w_s_find_40, w_s_find_43, w_s_find_44, w_s_find_47, w_s_find_50, w_s_find_51, w_s_find_54, w_s_find_56, w_s_find_57, w_s_find_60, w_s_find_62, w_s_find_63, w_s_find_66, w_s_find_69, w_s_find_70, w_s_find_71, w_s_find_72, w_s_find_74, w_s_find_77, w_s_find_78, w_s_find_81, w_s_find_82, w_s_find_85, w_s_find_88, w_s_find_92, w_s_find_95, w_s_find_96, w_s_find_99, w_s_find_102, w_s_find_105, w_s_find_106, w_s_find_107, w_s_find_110, xs_3, xs_0, xs_2, xs_1, g1, e_w_isEven isWW_22 hp hq' hC, ee, he, cl_22, cl_25, cl_27, zvv (sww_3 isWW_22), xww_1 isWW_22, xww_0 isWW_22, eg, i10, Bool.false_eq_true, eq_self, true_or, or_true, if_true, if_false, gv_int, gv_ref, av_some, al_some, un_int, un_ref, un_mk, ok4_0, ok4_1, ok4_2, ok4_3, ok4_4, Kn_some, Kn_none, true_and, and_true]
            simp only [w_s_find_0, w_s_find_1, w_s_find_4, w_s_find_7, w_s_find_8, w_s_find_9, w_s_find_12, w_s_find_13, w_s_find_14, w_s_find_15, w_s_find_16, w_s_find_19, w_s_find_20, w_s_find_23, w_s_find_24, w_s_find_28, w_s_find_29, w_s_find_32, w_s_find_33, w_s_find_36, w_s_find_37, w_s_find_40, w_s_find_43, w_s_find_44, w_s_find_47, w_s_find_50, w_s_find_51, w_s_find_54, w_s_find_56, w_s_find_57, w_s_find_60, w_s_find_62, w_s_find_63, w_s_find_66, w_s_find_69, w_s_find_70, w_s_find_71, w_s_find_72, w_s_find_74, w_s_find_77, w_s_find_78, w_s_find_81, w_s_find_82, w_s_find_85, w_s_find_88, w_s_find_92, w_s_find_95, w_s_find_96, w_s_find_99, w_s_find_102, w_s_find_105, w_s_find_106, w_s_find_107, w_s_find_110, xs_3, xs_0, xs_2, xs_1, b3, eq_false q, i10, Bool.false_eq_true, eq_self, true_or, or_true, if_true, if_false, gv_int, gv_ref, av_some, al_some, un_int, un_ref, un_mk, ok4_0, ok4_1, ok4_2, ok4_3, ok4_4, Kn_some, Kn_none, true_and, and_true]
            refine fin M' hF hw _ _ (fun M2 hF2 hw2 j5 => ?_)
            have := ih M2 (hFW _ _ hF hF2) hw2 (by rw [hF2 21 (by decide) (by decide), hF2 28 (by decide) (by decide)]; exact Or.inr ⟨b, b1, b2, b3, b4⟩) j5
            rw [b2] at this
            simp only [n2, if_false] at this
            exact this
  simp only [w_s_find_0, w_s_find_1, w_s_find_4, w_s_find_7, w_s_find_8, w_s_find_9, w_s_find_12, w_s_find_13, w_s_find_14, w_s_find_15, w_s_find_16, w_s_find_19, w_s_find_20, w_s_find_23, w_s_find_24, w_s_find_28, w_s_find_29, w_s_find_32, w_s_find_33, w_s_find_36, w_s_find_37, w_s_find_40, w_s_find_43, w_s_find_44, w_s_find_47, w_s_find_50, w_s_find_51, w_s_find_54, w_s_find_56, w_s_find_57, w_s_find_60, w_s_find_62, w_s_find_63, w_s_find_66, w_s_find_69, w_s_find_70, w_s_find_71, w_s_find_72, w_s_find_74, w_s_find_77, w_s_find_78, w_s_find_81, w_s_find_82, w_s_find_85, w_s_find_88, w_s_find_91, w_s_find_92, w_s_find_95, w_s_find_96, w_s_find_99, w_s_find_102, w_s_find_105, w_s_find_106, w_s_find_107, w_s_find_110, xs_3, xs_0, xs_2, xs_1, hk, e_w_countOf hp hq.1, cl_22, i10, Bool.false_eq_true, eq_self, true_or, or_true, if_true, if_false, gv_int, gv_ref, av_some, al_some, un_int, un_ref, un_mk, ok4_0, ok4_1, ok4_2, ok4_3, ok4_4, Kn_some, Kn_none, true_and, and_true]
  refine c_start isWW_22 hp hq (fun M1 hF1 hw1 => ?_)
  simp only [w_s_find_0, w_s_find_1, w_s_find_4, w_s_find_7, w_s_find_8, w_s_find_9, w_s_find_12, w_s_find_13, w_s_find_14, w_s_find_15, w_s_find_16, w_s_find_19, w_s_find_20, w_s_find_23, w_s_find_24, w_s_find_28, w_s_find_29, w_s_find_32, w_s_find_33, w_s_find_36, w_s_find_37, w_s_find_40, w_s_find_43, w_s_find_44, w_s_find_47, w_s_find_50, w_s_find_51, w_s_find_54, w_s_find_56, w_s_find_57, w_s_find_60, w_s_find_62, w_s_find_63, w_s_find_66, w_s_find_69, w_s_find_70, w_s_find_71, w_s_find_72, w_s_find_74, w_s_find_77, w_s_find_78, w_s_find_81, w_s_find_82, w_s_find_85, w_s_find_88, w_s_find_91, w_s_find_92, w_s_find_95, w_s_find_96, w_s_find_99, w_s_find_102, w_s_find_105, w_s_find_106, w_s_find_107, w_s_find_110, xs_3, xs_0, xs_2, xs_1, i10, Bool.false_eq_true, eq_self, true_or, or_true, if_true, if_false, gv_int, gv_ref, av_some, al_some, un_int, un_ref, un_mk, ok4_0, ok4_1, ok4_2, ok4_3, ok4_4, Kn_some, Kn_none, true_and, and_true]
  have := two (C ^ N) 0 (Nat.zero_add _) M1 (fun c hc => hF1 c (by omega) (by omega)) (hw1 hC) (Or.inl rfl) mk
  rw [if_neg (show ¬ C = 0 by omega)]
  exact this
