/-! the engine is sound: every row -/
section SP
variable {l : Launch} {base : Nat} {D : va_G} {cA : Nat → ClassId} {ad : Nat → Nat} {b xl : Nat} {xs ys : Nat → Int32}
theorem Wh.write {H H1 : Heap} {sh sh' : List Sh} {M M' : Mm} (h : Wh base D cA ad xs ys H sh M) (hz : H1.size = H.size) (hl : sh'.length = sh.length) (hP : va_P D vwCl (wl cA ad sh' M') H1) (hD : va_D (Ab base) (wl cA ad sh' M')) (h1 : M' 1000 = M 1000) (h2 : M' 1001 = M 1001) : Wh base D cA ad xs ys H1 sh' M' := by
  obtain ⟨a1, a2, a3, -, -, a6, a7⟩ := h
  exact ⟨by rw [hz]; exact a1, by rw [hl]; exact a2, by rw [hl, hz]; exact a3, hP, hD, by rw [h1]; exact a6, by rw [h2]; exact a7⟩
theorem Wh.lt {H : Heap} {sh : List Sh} {M : Mm} (h : Wh base D cA ad xs ys H sh M) {o : Nat} {c : Sh} (ho : sh[o]? = some c) : o < 500 := Nat.lt_of_lt_of_le (List.getElem?_eq_some_iff.mp ho).1 h.2.1
theorem S_trans {H0 H H1 : Heap} {locs locs1 : List Loc} (h : va_S (Ab base) H0 H locs) (h1 : va_S (Ab base) H H1 locs1) : va_S (Ab base) H0 H1 locs1 :=
  ⟨Nat.le_trans h.1 h1.1, fun q hq ha => (h1.2.1 q (Nat.lt_of_lt_of_le hq h.1) ha).trans (h.2.1 q hq ha), h1.2.2⟩
theorem S_self {H0 H : Heap} {locs : List Loc} (h : va_S (Ab base) H0 H locs) : va_S (Ab base) H H locs := ⟨Nat.le_refl _, fun _ _ _ => rfl, h.2.2⟩
theorem X_kept {s : State} {H H1 : Heap} {locs1 : List Loc} (hX : va_X b xl xs s H) (hbb : b < base) (hS : va_S (Ab base) H H1 locs1) (hbH : base ≤ H.size) : va_X b xl xs s H1 := hX.kept (hS.2.1 b (by omega) (by unfold Ab; omega))
theorem W_size {p : Program} {e : Env} {R : Room} {s : State} {m : MethodId} {args : Array Value} {below : List Frame} {meth : Method} {c : Code} {H : Heap} {locs : List Loc} {cells slots : Nat} {Z : State → Prop} {g : JFrame} (k : H.size ≤ s.heap.size + cells → W p l e R s m args below meth c H locs cells slots Z g) : W p l e R s m args below meth c H locs cells slots Z g :=
  fun T hT X => k (by rw [← hT]; exact X.same.2.2.1) T hT X
theorem fld_link {y a k idx : Nat} {d : List (Int32 × Nat)} (h : flinkb y a k idx d = true) : ∃ C T N, vwCl[a]? = some (C, T, N) ∧ k < N ∧ (T k).1 = C ∧ ((∃ w, wAt w (.fieldLink (mO y) idx C (T k).2.1 (T k).2.2.1) = true) ∨ ((∃ w r, d = (1, w) :: r) ∧ ∃ w, wAt w (.fieldLinkNest (mO y) idx C (T k).2.1 (T k).2.2.1 "NineBags") = true)) := by
  unfold flinkb at h
  split at h
  · rename_i C T N hc
    simp only [Bool.and_eq_true, decide_eq_true_eq] at h
    obtain ⟨⟨h1, h2⟩, h3⟩ := h
    refine ⟨C, T, N, hc, h1, h2, ?_⟩
    split at h3
    · exact Or.inl ⟨_, h3⟩
    · exact Or.inr ⟨⟨_, _, rfl⟩, _, h3⟩
    · cases h3
  · cases h
theorem cel_obj {sh : List Sh} {M : Mm} {o c : Nat} {fs : List Value} (h : sh[o]? = some (.inr (c, fs))) : (wl cA ad sh M)[o]? = some (ad o, .inr (c, fs.mapIdx (fun k v => fv ad (M o k) v))) := wl_get h
theorem cel_arr {sh : List Sh} {M : Mm} {o t n : Nat} (h : sh[o]? = some (.inl (t, n))) : (wl cA ad sh M)[o]? = some (ad o, .inl (cA t, n, .inl (M o))) := wl_get h
theorem fs_get {fs : List Value} {f : Nat → Int32} {k : Nat} {v : Value} (h : fs[k]? = some v) : (fs.mapIdx (fun k v => fv ad (f k) v))[k]? = some (fv ad (f k) v) := by
  rw [List.getElem?_mapIdx, h]; rfl
end SP
set_option maxHeartbeats 4000000 in
set_option maxRecDepth 20000 in
theorem snd_row {l : Launch} {base : Nat} {D : va_G} {cA : Nat → ClassId} {ad : Nat → Nat} {b xl : Nat} {xs ys : Nat → Int32} (hG : Gl base ad b xl ys) (hck : ∀ {y pc : Nat} {op : Ap}, fetch y pc = some op → chkb y pc op = true) (hmk : ∀ {z : Nat}, z < NMs → ¬ z = 0 → mOKb z = true)
    {Z : XP} (hZ : ∀ y pc L st sh n M Q, Z y pc L st sh n M Q → XM l base D cA ad b xl xs ys y pc L st sh n M Q) {y pc : Nat} {L st : List Value} {sh : List Sh} {n : Nat × Nat} {M : Mm} {Q : Po} {op : Ap} (hop : fetch y pc = some op) (hex : ex1 Z op y L st sh n M Q) : XM l base D cA ad b xl xs ys y pc L st sh n M Q := by
  intro p e s m args below meth c H locs Zp ls hC hWk hWh hX hS hLn hl hn hsz hR
  have hck := hck hop
  obtain ⟨hx, hb, hr, hml, hown, hts, hlk, hin, hbs⟩ := id hC
  obtain ⟨i, nx, a, w, d⟩ := op
  have go : ∀ {pc' : Nat} {st' : List Value}, Z y pc' L st' sh n M Q → W p l e (mR y) s m args below meth c H locs n.1 n.2 Zp (F0 m pc' ls (st'.map (cv ad))) := fun h => hZ _ _ _ _ _ _ _ _ h p e s m args below meth c H locs Zp ls hC hWk hWh hX hS hLn hl hn hsz hR
  have goL : ∀ {pc' : Nat} {st' L' : List Value} {ls' : Array Slot}, L'.length = mL y → lv_has ls' (mL y) (asc ad L') → Z y pc' L' st' sh n M Q → W p l e (mR y) s m args below meth c H locs n.1 n.2 Zp (F0 m pc' ls' (st'.map (cv ad))) := fun h1 h2 h => hZ _ _ _ _ _ _ _ _ h p e s m args below meth c H locs Zp _ hC hWk hWh hX hS h1 h2 hn hsz hR
  have hA : ∀ q : Nat, s.heap.size ≤ q → Ab base q := fun q h => Nat.le_trans hbs h
  have hbH := hWh.1
  -- a write into the world
  have goM : ∀ {pc' : Nat} {st' : List Value} {sh' : List Sh} {M' : Mm} {H1 : Heap} {locs1 : List Loc}, sh'.length = sh.length → M' 1000 = M 1000 → M' 1001 = M 1001 → va_P D vwCl (wl cA ad sh' M') H1 → va_D (Ab base) (wl cA ad sh' M') → va_S (Ab base) H H1 locs1 → Z y pc' L st' sh' n M' Q → W p l e (mR y) s m args below meth c H1 locs1 n.1 n.2 Zp (F0 m pc' ls (st'.map (cv ad))) := by
    intro pc' st' sh' M' H1 locs1 h1 h2 h3 h4 h5 h6 h
    refine W_size fun hz => ?_
    have hz1 : H1.size = H.size := by have := h6.1; omega
    exact hZ _ _ _ _ _ _ _ _ h p e s m args below meth c H1 locs1 Zp ls hC hWk (hWh.write hz1 h1 h4 h5 h2 h3) (X_kept hX hG.1 h6 hbH) (S_trans hS h6) hLn hl hn (by rw [hz1]; exact hsz) hR
  cases i <;> try exact False.elim hex
  case iconst k =>
    simp only [chkb, Bool.and_eq_true, decide_eq_true_eq] at hck
    obtain ⟨h1, rfl⟩ := hck
    obtain ⟨hd, rfl⟩ := dcb_inv h1
    exact lv_iconst hx hb hd rfl (go hex)
  case bipush k =>
    simp only [chkb, Bool.and_eq_true, decide_eq_true_eq] at hck
    obtain ⟨h1, rfl⟩ := hck
    obtain ⟨hd, rfl⟩ := dcb_inv h1
    exact lv_bipush hx hb hd rfl (go hex)
  case sipush k =>
    simp only [chkb, Bool.and_eq_true, decide_eq_true_eq] at hck
    obtain ⟨h1, rfl⟩ := hck
    obtain ⟨hd, rfl⟩ := dcb_inv h1
    exact lv_sipush hx hb hd rfl (go hex)
  case ldc k =>
    simp only [chkb, Bool.and_eq_true] at hck
    obtain ⟨h1, h2⟩ := hck
    obtain ⟨hd, rfl⟩ := dcb_inv h1
    split at h2
    · exact lv_ldc hx hb hown (hts _ (GW_of h2 rfl)) hd (go hex)
    · cases h2
  case ldc_w k =>
    simp only [chkb, Bool.and_eq_true] at hck
    obtain ⟨h1, h2⟩ := hck
    obtain ⟨hd, rfl⟩ := dcb_inv h1
    split at h2
    · exact lv_ldcw hx hb hown (hts _ (GW_of h2 rfl)) hd (go hex)
    · cases h2
  case lconst k =>
    simp only [chkb, Bool.and_eq_true, decide_eq_true_eq] at hck
    obtain ⟨h1, rfl⟩ := hck
    obtain ⟨hd, rfl⟩ := dcb_inv h1
    exact lv_lconst hx hb hd rfl (go hex)
  case ldc2_w k =>
    simp only [chkb, Bool.and_eq_true] at hck
    obtain ⟨h1, h2⟩ := hck
    obtain ⟨hd, rfl⟩ := dcb_inv h1
    exact lv_ldc2 hx hb hown (hts _ (GW_of h2 rfl)) hd (go hex)
  case iload k =>
    obtain ⟨hd, rfl⟩ := dcb_inv hck
    obtain ⟨x, h1, hex⟩ := lI_inv hex
    exact lv_iload hx hb hd (asc_at hl h1 rfl) (go hex)
  case iload_n k =>
    obtain ⟨hd, rfl⟩ := dcb_inv hck
    obtain ⟨x, h1, hex⟩ := lI_inv hex
    exact lv_iload_n hx hb hd rfl (asc_at hl h1 rfl) (go hex)
  case lload k =>
    obtain ⟨hd, rfl⟩ := dcb_inv hck
    obtain ⟨x, h1, hex⟩ := lJ_inv hex
    exact lv_lload hx hb hd (asc_at hl h1 rfl) (go hex)
  case lload_n k =>
    obtain ⟨hd, rfl⟩ := dcb_inv hck
    obtain ⟨x, h1, hex⟩ := lJ_inv hex
    exact lv_lload_n hx hb hd rfl (asc_at hl h1 rfl) (go hex)
  case aload k =>
    obtain ⟨hd, rfl⟩ := dcb_inv hck
    obtain ⟨x, h1, hex⟩ := lR_inv hex
    exact lv_aload hx hb hd (asc_at hl h1 rfl) (go hex)
  case aload_n k =>
    obtain ⟨hd, rfl⟩ := dcb_inv hck
    obtain ⟨x, h1, hex⟩ := lR_inv hex
    exact lv_aload_n hx hb hd rfl (asc_at hl h1 rfl) (go hex)
  case istore k =>
    simp only [chkb, Bool.and_eq_true, decide_eq_true_eq] at hck
    obtain ⟨h1, h2⟩ := hck
    obtain ⟨hd, rfl⟩ := dcb_inv h1
    obtain ⟨x, r, rfl, hex⟩ := kI_inv hex
    exact lv_istore hx hb hd hl h2 rfl (fun ls' hl' => goL (by rw [sto_len]; exact hLn) (lv_le hl' (asc_sto (v := .int x) (by omega))) hex)
  case istore_n k =>
    simp only [chkb, Bool.and_eq_true, decide_eq_true_eq] at hck
    obtain ⟨h1, h2⟩ := hck
    obtain ⟨hd, rfl⟩ := dcb_inv h1
    obtain ⟨x, r, rfl, hex⟩ := kI_inv hex
    exact lv_istore_n hx hb hd rfl hl h2 rfl (fun ls' hl' => goL (by rw [sto_len]; exact hLn) (lv_le hl' (asc_sto (v := .int x) (by omega))) hex)
  case astore k =>
    simp only [chkb, Bool.and_eq_true, decide_eq_true_eq] at hck
    obtain ⟨h1, h2⟩ := hck
    obtain ⟨hd, rfl⟩ := dcb_inv h1
    obtain ⟨x, r, rfl, hex⟩ := kR_inv hex
    exact lv_astore hx hb hd hl h2 rfl (fun ls' hl' => goL (by rw [sto_len]; exact hLn) (lv_le hl' (asc_sto (v := .ref x) (by omega))) hex)
  case astore_n k =>
    simp only [chkb, Bool.and_eq_true, decide_eq_true_eq] at hck
    obtain ⟨h1, h2⟩ := hck
    obtain ⟨hd, rfl⟩ := dcb_inv h1
    obtain ⟨x, r, rfl, hex⟩ := kR_inv hex
    exact lv_astore_n hx hb hd rfl hl h2 rfl (fun ls' hl' => goL (by rw [sto_len]; exact hLn) (lv_le hl' (asc_sto (v := .ref x) (by omega))) hex)
  case lstore_n k =>
    simp only [chkb, Bool.and_eq_true, decide_eq_true_eq] at hck
    obtain ⟨h1, h2⟩ := hck
    obtain ⟨hd, rfl⟩ := dcb_inv h1
    obtain ⟨x, r, rfl, hex⟩ := kJ_inv hex
    refine lv_lstore_n hx hb hd rfl hl h2 rfl (fun ls' hl' => goL (by rw [sto_len, sto_len]; exact hLn) (lv_le hl' ?_) hex)
    intro q hq
    rcases List.mem_cons.mp (asc_sto (v := .long x) (by rw [sto_len]; omega) q hq) with e1 | e1
    · exact List.mem_cons.mpr (Or.inl e1)
    · obtain ⟨e2, e3⟩ := List.mem_filter.mp e1
      refine List.mem_cons.mpr (Or.inr ?_)
      obtain ⟨v, f1, f2, f3⟩ := asc_mem.mp e2
      rcases sto_get _ _ _ _ _ f1 with g1 | ⟨g1, g2⟩ | ⟨g1, g2, g3⟩ | ⟨g1, g2⟩
      · rw [f3] at g1; cases g1
      · rw [g2] at f3; cases f3
      · refine List.mem_filter.mpr ⟨asc_mem.mpr ⟨v, g2, f2, f3⟩, ?_⟩
        simp only [Bool.and_eq_true, Bool.not_eq_true', beq_eq_false_iff_ne, ne_eq, Bool.and_eq_false_imp, beq_iff_eq] at e3 ⊢
        exact ⟨e3.1, g1, e3.2⟩
      · omega
  case iinc k cst =>
    simp only [chkb, Bool.and_eq_true, decide_eq_true_eq] at hck
    obtain ⟨⟨h1, h2⟩, rfl⟩ := hck
    obtain ⟨hd, rfl⟩ := dcb_inv h1
    obtain ⟨x, h3, hex⟩ := lI_inv hex
    obtain ⟨j, hj⟩ := List.getElem?_of_mem (asc_mem (ad := ad) (L := L) (q := (k, .int x)).mpr ⟨.int x, h3, rfl, rfl⟩)
    exact lv_iinc hx hb hd hl hj rfl h2 rfl (fun ls' hl' => goL (by rw [sto_len]; exact hLn) (lv_le hl' (asc_sto (v := .int (x + Int32.ofInt cst)) (by omega))) hex)
  case iadd =>
    obtain ⟨hd, rfl⟩ := dcb_inv hck
    obtain ⟨v, r, rfl, hex⟩ := kI_inv hex
    obtain ⟨u, r, rfl, hex⟩ := kI_inv hex
    exact lv_iadd hx hb hd (go hex)
  case isub =>
    obtain ⟨hd, rfl⟩ := dcb_inv hck
    obtain ⟨v, r, rfl, hex⟩ := kI_inv hex
    obtain ⟨u, r, rfl, hex⟩ := kI_inv hex
    exact lv_isub hx hb hd (go hex)
  case imul =>
    obtain ⟨hd, rfl⟩ := dcb_inv hck
    obtain ⟨v, r, rfl, hex⟩ := kI_inv hex
    obtain ⟨u, r, rfl, hex⟩ := kI_inv hex
    exact lv_imul hx hb hd (go hex)
  case iand =>
    obtain ⟨hd, rfl⟩ := dcb_inv hck
    obtain ⟨v, r, rfl, hex⟩ := kI_inv hex
    obtain ⟨u, r, rfl, hex⟩ := kI_inv hex
    exact lv_iand hx hb hd (go hex)
  case ior =>
    obtain ⟨hd, rfl⟩ := dcb_inv hck
    obtain ⟨v, r, rfl, hex⟩ := kI_inv hex
    obtain ⟨u, r, rfl, hex⟩ := kI_inv hex
    exact lv_ior hx hb hd (go hex)
  case idiv =>
    obtain ⟨hd, rfl⟩ := dcb_inv hck
    obtain ⟨v, r, rfl, hex⟩ := kI_inv hex
    obtain ⟨u, r, rfl, h0, hex⟩ := kI_inv hex
    exact lv_idiv hx hb hd h0 (go hex)
  case irem =>
    obtain ⟨hd, rfl⟩ := dcb_inv hck
    obtain ⟨v, r, rfl, hex⟩ := kI_inv hex
    obtain ⟨u, r, rfl, h0, hex⟩ := kI_inv hex
    exact lv_irem hx hb hd h0 (go hex)
  case ishl =>
    obtain ⟨hd, rfl⟩ := dcb_inv hck
    obtain ⟨v, r, rfl, hex⟩ := kI_inv hex
    obtain ⟨u, r, rfl, hex⟩ := kI_inv hex
    exact lv_ishl hx hb hd (go hex)
  case ishr =>
    obtain ⟨hd, rfl⟩ := dcb_inv hck
    obtain ⟨v, r, rfl, hex⟩ := kI_inv hex
    obtain ⟨u, r, rfl, hex⟩ := kI_inv hex
    exact lv_ishr hx hb hd (go hex)
  case iushr =>
    obtain ⟨hd, rfl⟩ := dcb_inv hck
    obtain ⟨v, r, rfl, hex⟩ := kI_inv hex
    obtain ⟨u, r, rfl, hex⟩ := kI_inv hex
    exact lv_iushr hx hb hd rfl (go hex)
  case ladd =>
    obtain ⟨hd, rfl⟩ := dcb_inv hck
    obtain ⟨v, r, rfl, hex⟩ := kJ_inv hex
    obtain ⟨u, r, rfl, hex⟩ := kJ_inv hex
    exact lv_ladd hx hb hd (go hex)
  case lmul =>
    obtain ⟨hd, rfl⟩ := dcb_inv hck
    obtain ⟨v, r, rfl, hex⟩ := kJ_inv hex
    obtain ⟨u, r, rfl, hex⟩ := kJ_inv hex
    exact lv_lmul hx hb hd (go hex)
  case land =>
    obtain ⟨hd, rfl⟩ := dcb_inv hck
    obtain ⟨v, r, rfl, hex⟩ := kJ_inv hex
    obtain ⟨u, r, rfl, hex⟩ := kJ_inv hex
    exact lv_land hx hb hd (go hex)
  case ldiv =>
    obtain ⟨hd, rfl⟩ := dcb_inv hck
    obtain ⟨v, r, rfl, hex⟩ := kJ_inv hex
    obtain ⟨u, r, rfl, h0, hex⟩ := kJ_inv hex
    exact lv_ldiv hx hb hd h0 (go hex)
  case lrem =>
    obtain ⟨hd, rfl⟩ := dcb_inv hck
    obtain ⟨v, r, rfl, hex⟩ := kJ_inv hex
    obtain ⟨u, r, rfl, h0, hex⟩ := kJ_inv hex
    exact lv_lrem hx hb hd h0 (go hex)
  case lcmp =>
    obtain ⟨hd, rfl⟩ := dcb_inv hck
    obtain ⟨v, r, rfl, hex⟩ := kJ_inv hex
    obtain ⟨u, r, rfl, hex⟩ := kJ_inv hex
    exact W.lcmp hx hb hd (go hex)
  case i2l =>
    obtain ⟨hd, rfl⟩ := dcb_inv hck
    obtain ⟨v, r, rfl, hex⟩ := kI_inv hex
    exact lv_i2l hx hb hd rfl (go hex)
  case l2i =>
    obtain ⟨hd, rfl⟩ := dcb_inv hck
    obtain ⟨v, r, rfl, hex⟩ := kJ_inv hex
    exact lv_l2i hx hb hd rfl (go hex)
  case dup =>
    obtain ⟨hd, rfl⟩ := dcb_inv hck
    rcases hex with hex | hex
    · obtain ⟨v, r, rfl, hex⟩ := kI_inv hex
      exact lv_dup hx hb hd rfl (go hex)
    · obtain ⟨v, r, rfl, hex⟩ := kR_inv hex
      exact lv_dup hx hb hd rfl (go hex)
  case dup2 =>
    obtain ⟨hd, rfl⟩ := dcb_inv hck
    obtain ⟨v, r, rfl, hex⟩ := kI_inv hex
    obtain ⟨u, r, rfl, hex⟩ := kR_inv hex
    exact lv_dup2_11 hx hb hd rfl rfl (go hex)
  case ifCond cd off =>
    simp only [chkb, Bool.and_eq_true] at hck
    obtain ⟨h1, h2⟩ := hck
    obtain ⟨hd, rfl⟩ := dcb_inv h1
    have h2 := brb_inv h2
    cases cd
    case eq => obtain ⟨x, r, rfl, hex⟩ := kI_inv hex; exact lv_if_eq hx hb hd h2 (fun q => go (by rw [if_pos q] at hex; exact hex)) (fun q => go (by rw [if_neg q] at hex; exact hex))
    case ne => obtain ⟨x, r, rfl, hex⟩ := kI_inv hex; exact lv_if_ne hx hb hd h2 (fun q => go (by rw [if_neg q] at hex; exact hex)) (fun q => go (by rw [if_pos (Classical.not_not.mp q)] at hex; exact hex))
    case lt => obtain ⟨x, r, rfl, hex⟩ := kI_inv hex; exact lv_if_lt hx hb hd h2 (fun q => go (by rw [if_pos q] at hex; exact hex)) (fun q => go (by rw [if_neg q] at hex; exact hex))
    case ge => obtain ⟨x, r, rfl, hex⟩ := kI_inv hex; exact lv_if_ge hx hb hd h2 (fun q => go (by rw [if_neg (Int32.not_lt.mpr q)] at hex; exact hex)) (fun q => go (by rw [if_pos (Int32.not_le.mp q)] at hex; exact hex))
    case gt => obtain ⟨x, r, rfl, hex⟩ := kI_inv hex; exact lv_if_gt hx hb hd h2 (fun q => go (by rw [if_pos q] at hex; exact hex)) (fun q => go (by rw [if_neg q] at hex; exact hex))
    case le => obtain ⟨x, r, rfl, hex⟩ := kI_inv hex; exact lv_if_le hx hb hd h2 (fun q => go (by rw [if_neg (Int32.not_lt.mpr q)] at hex; exact hex)) (fun q => go (by rw [if_pos (Int32.not_le.mp q)] at hex; exact hex))
  case if_icmp cd off =>
    simp only [chkb, Bool.and_eq_true] at hck
    obtain ⟨h1, h2⟩ := hck
    obtain ⟨hd, rfl⟩ := dcb_inv h1
    have h2 := brb_inv h2
    cases cd
    case eq => obtain ⟨v, r, rfl, hex⟩ := kI_inv hex; obtain ⟨u, r, rfl, hex⟩ := kI_inv hex; exact lv_icmp_eq hx hb hd h2 (fun q => go (by rw [if_pos q] at hex; exact hex)) (fun q => go (by rw [if_neg q] at hex; exact hex))
    case ne => obtain ⟨v, r, rfl, hex⟩ := kI_inv hex; obtain ⟨u, r, rfl, hex⟩ := kI_inv hex; exact lv_icmp_ne hx hb hd h2 (fun q => go (by rw [if_neg q] at hex; exact hex)) (fun q => go (by rw [if_pos (Classical.not_not.mp q)] at hex; exact hex))
    case lt => obtain ⟨v, r, rfl, hex⟩ := kI_inv hex; obtain ⟨u, r, rfl, hex⟩ := kI_inv hex; exact lv_icmp_lt hx hb hd h2 (fun q => go (by rw [if_pos q] at hex; exact hex)) (fun q => go (by rw [if_neg q] at hex; exact hex))
    case ge => obtain ⟨v, r, rfl, hex⟩ := kI_inv hex; obtain ⟨u, r, rfl, hex⟩ := kI_inv hex; exact lv_icmp_ge hx hb hd h2 (fun q => go (by rw [if_neg (Int32.not_lt.mpr q)] at hex; exact hex)) (fun q => go (by rw [if_pos (Int32.not_le.mp q)] at hex; exact hex))
    case gt => obtain ⟨v, r, rfl, hex⟩ := kI_inv hex; obtain ⟨u, r, rfl, hex⟩ := kI_inv hex; exact lv_icmp_gt hx hb hd h2 (fun q => go (by rw [if_pos q] at hex; exact hex)) (fun q => go (by rw [if_neg q] at hex; exact hex))
    case le => obtain ⟨v, r, rfl, hex⟩ := kI_inv hex; obtain ⟨u, r, rfl, hex⟩ := kI_inv hex; exact lv_icmp_le hx hb hd h2 (fun q => go (by rw [if_neg (Int32.not_lt.mpr q)] at hex; exact hex)) (fun q => go (by rw [if_pos (Int32.not_le.mp q)] at hex; exact hex))
  case goto off =>
    simp only [chkb, Bool.and_eq_true] at hck
    obtain ⟨h1, h2⟩ := hck
    obtain ⟨hd, rfl⟩ := dcb_inv h1
    exact lv_goto hx hb hd (brb_inv h2) (go hex)
  all_goals sorry
