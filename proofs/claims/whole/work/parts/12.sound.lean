/-! the engine is sound: every row -/
theorem obj_i : wAt 1023 (.instanceMethod Lib.objectInit) = true := by decide +kernel
theorem obj_c : wAt 1024 (.code Lib.objectInit ⟨#[0xb1]⟩ 1 none) = true := by decide +kernel
theorem cpy_n : wAt 3124 (.native arraycopyName) = true := by decide +kernel
theorem cpy_s : wAt 3123 (.static arraycopyName) = true := by decide +kernel
theorem cpy_i : wAt 1016 (.initialized "java/lang/System") = true := by decide +kernel
theorem mth_i : wAt 1014 (.initialized "java/lang/Math") = true := by decide +kernel
theorem max_s : wAt 3033 (.static Lib.Math.max.name) = true := by decide +kernel
theorem max_c : wAt 3034 (.code Lib.Math.max.name Lib.Math.max.code 2 (some .int)) = true := by decide +kernel
theorem min_s : wAt 4005 (.static Lib.Math.min.name) = true := by decide +kernel
theorem min_c : wAt 4006 (.code Lib.Math.min.name Lib.Math.min.code 2 (some .int)) = true := by decide +kernel
section SP
variable {l : Launch} {base : Nat} {D : va_G} {cA : Nat → ClassId} {ad : Nat → Nat} {b xl : Nat} {xs ys : Nat → Int32}
theorem Wh.write {H H1 : Heap} {sh sh' : List Sh} {M M' : Mm} (h : Wh base D cA ad xs ys H sh M) (hz : H1.size = H.size) (hl : sh'.length = sh.length) (hP : va_P D vwCl (wl cA ad sh' M') H1) (hD : va_D (Ab base) (wl cA ad sh' M')) (h1 : M' 1000 = M 1000) (h2 : M' 1001 = M 1001) : Wh base D cA ad xs ys H1 sh' M' := by
  obtain ⟨a1, a2, a3, -, -, a6, a7⟩ := h
  exact ⟨by rw [hz]; exact a1, by rw [hl]; exact a2, by rw [hl, hz]; exact a3, hP, hD, by rw [h1]; exact a6, by rw [h2]; exact a7⟩
theorem Wh.lt {H : Heap} {sh : List Sh} {M : Mm} (h : Wh base D cA ad xs ys H sh M) {o : Nat} {c : Sh} (ho : sh[o]? = some c) : o < 500 := Nat.lt_of_lt_of_le (List.getElem?_eq_some_iff.mp ho).1 h.2.1
theorem S_trans {H0 H H1 : Heap} {locs locs1 : List Loc} (h : va_S (Ab base) H0 H locs) (h1 : va_S (Ab base) H H1 locs1) : va_S (Ab base) H0 H1 locs1 :=
  ⟨Nat.le_trans h.1 h1.1, fun q hq ha => (h1.2.1 q (Nat.lt_of_lt_of_le hq h.1) ha).trans (h.2.1 q hq ha), h1.2.2⟩
theorem S_self {H0 H : Heap} {locs : List Loc} (h : va_S (Ab base) H0 H locs) : va_S (Ab base) H H locs := ⟨Nat.le_refl _, fun _ _ _ => rfl, h.2.2⟩
theorem X_kept {s : State} {H H1 : Heap} {locs1 : List Loc} (hX : va_X b xl xs s H) (hbb : b < base) (hS : va_S (Ab base) H H1 locs1) (hbH : base ≤ H.size) : va_X b xl xs s H1 := hX.kept (hS.2.1 b (by omega) (by unfold Ab; omega))
theorem W_size {p : Program} {e : Env} {R : Room} {s : State} {m : MethodId} {args : Array Value} {below : List Frame} {meth : Method} {c : Code} {H : Heap} {locs : List Loc} {cells slots : Nat} {Z : State → Prop} {g : JFrame} (k : H.size ≤ s.heap.size + cells → W p l e R s m args below meth c H locs cells slots Z g) : W p l e R s m args below meth c H locs cells slots Z g :=
  fun T hT X => k (by rw [← hT]; exact X.same.2.2.1) T hT X
theorem fld_link {y a k idx : Nat} {d : List (Int32 × Nat)} (h : flinkb y a k idx d = true) : ∃ C T N, vwCl[a]? = some (C, T, N) ∧ k < N ∧ (T k).1 = C ∧ ((∃ w, wAt w (.fieldLink (mO y) idx C (T k).2.1 (T k).2.2.1) = true) ∨ ((∃ w r, d = (1, w) :: r) ∧ ∃ w, wAt w (.fieldLinkNest (mO y) idx C (T k).2.1 (T k).2.2.1 "NineBags") = true)) := by
  unfold flinkb at h
  split at h
  · rename_i C T N hc
    simp only [Bool.and_eq_true, decide_eq_true_eq] at h
    obtain ⟨⟨h1, h2⟩, h3⟩ := h
    refine ⟨C, T, N, hc, h1, h2, ?_⟩
    split at h3
    · exact Or.inl ⟨_, h3⟩
    · exact Or.inr ⟨⟨_, _, rfl⟩, _, h3⟩
    · cases h3
  · cases h
theorem cel_obj {sh : List Sh} {M : Mm} {o c : Nat} {fs : List Value} (h : sh[o]? = some (.inr (c, fs))) : (wl cA ad sh M)[o]? = some (ad o, .inr (c, fs.mapIdx (fun k v => fv ad (M o k) v))) := wl_get h
theorem cel_arr {sh : List Sh} {M : Mm} {o t n : Nat} (h : sh[o]? = some (.inl (t, n))) : (wl cA ad sh M)[o]? = some (ad o, .inl (cA t, n, .inl (M o))) := wl_get h
theorem fs_get {fs : List Value} {f : Nat → Int32} {k : Nat} {v : Value} (h : fs[k]? = some v) : (fs.mapIdx (fun k v => fv ad (f k) v))[k]? = some (fv ad (f k) v) := by
  rw [List.getElem?_mapIdx, h]; rfl
theorem fs_def {a : Nat} {C : String} {T : u_T} {N : Nat} {ty : Nat → FieldType} (h : vwCl[a]? = some (C, T, N)) (hty : ∀ k, k < N → parseFieldDescriptor (T k).2.2.1 = some (ty k)) : (fsOf a).length = N ∧ ∀ j, j < N → ∀ ad : Nat → Nat, defaultValue (ty j) = vp_V ((fsOf a).mapIdx (fun k v => fv ad 0 v)) j := by
  have key : ∀ ty' : Nat → FieldType, (∀ k, k < N → parseFieldDescriptor (T k).2.2.1 = some (ty' k)) → (fsOf a).length = N → (∀ j, j < N → (fsOf a)[j]? = some (defaultValue (ty' j))) → (fsOf a).length = N ∧ ∀ j, j < N → ∀ ad : Nat → Nat, defaultValue (ty j) = vp_V ((fsOf a).mapIdx (fun k v => fv ad 0 v)) j := by
    intro ty' h1 h2 h3
    refine ⟨h2, fun j hj ad => ?_⟩
    have e : ty' j = ty j := Option.some.inj ((h1 j hj).symm.trans (hty j hj))
    unfold vp_V
    rw [List.getD_eq_getElem?_getD, List.getElem?_mapIdx, h3 j hj, Option.map_some, Option.getD_some, e]
    cases hq : ty j <;> rfl
  match a, h with
  | 0, h => cases h; exact key tyX0 tyX0_ok (by decide +kernel) (by decide +kernel)
  | 1, h => cases h; exact key tyX1 tyX1_ok (by decide +kernel) (by decide +kernel)
  | 2, h => cases h; exact key tyX2 tyX2_ok (by decide +kernel) (by decide +kernel)
  | 3, h => cases h; exact key tyX3 tyX3_ok (by decide +kernel) (by decide +kernel)
  | 4, h => cases h; exact key tyX4 tyX4_ok (by decide +kernel) (by decide +kernel)
  | 5, h => cases h; exact key tyX5 tyX5_ok (by decide +kernel) (by decide +kernel)
  | 6, h => cases h; exact key tyX6 tyX6_ok (by decide +kernel) (by decide +kernel)
  | 7, h => cases h; exact key tyX7 tyX7_ok (by decide +kernel) (by decide +kernel)
  | 8, h => cases h; exact key tyX8 tyX8_ok (by decide +kernel) (by decide +kernel)
  | 9, h => cases h; exact key tyX9 tyX9_ok (by decide +kernel) (by decide +kernel)
  | 10, h => cases h; exact key tyX10 tyX10_ok (by decide +kernel) (by decide +kernel)
  | 11, h => cases h; exact key tyX11 tyX11_ok (by decide +kernel) (by decide +kernel)
  | a + 12, h => simp [vwCl] at h
end SP
set_option maxHeartbeats 4000000 in
set_option maxRecDepth 20000 in
theorem snd_row {l : Launch} {base : Nat} {D : va_G} {cA : Nat → ClassId} {ad : Nat → Nat} {b xl : Nat} {xs ys : Nat → Int32} (hG : Gl base ad b xl ys) (hck : ∀ {y pc : Nat} {op : Ap}, fetch y pc = some op → chkb y pc op = true) (hmk : ∀ {z : Nat}, z < NMs → ¬ z = 0 → mOKb z = true)
    {Z : XP} (hZ : ∀ y pc L st sh n M Q, Z y pc L st sh n M Q → XM l base D cA ad b xl xs ys y pc L st sh n M Q) {y pc : Nat} {L st : List Value} {sh : List Sh} {n : Nat × Nat} {M : Mm} {Q : Po} {op : Ap} (hop : fetch y pc = some op) (hex : ex1 Z op y L st sh n M Q) : XM l base D cA ad b xl xs ys y pc L st sh n M Q := by
  intro p e s m args below meth c H locs Zp ls hC hWk hWh hX hS hLn hl hn hsz hR
  have hck := hck hop
  obtain ⟨hx, hb, hr, hml, hown, hts, hlk, hin, hbs⟩ := id hC
  obtain ⟨i, nx, a, w, d⟩ := op
  have go : ∀ {pc' : Nat} {st' : List Value}, Z y pc' L st' sh n M Q → W p l e (mR y) s m args below meth c H locs n.1 n.2 Zp (F0 m pc' ls (st'.map (cv ad))) := fun h => hZ _ _ _ _ _ _ _ _ h p e s m args below meth c H locs Zp ls hC hWk hWh hX hS hLn hl hn hsz hR
  have goL : ∀ {pc' : Nat} {st' L' : List Value} {ls' : Array Slot}, L'.length = mL y → lv_has ls' (mL y) (asc ad L') → Z y pc' L' st' sh n M Q → W p l e (mR y) s m args below meth c H locs n.1 n.2 Zp (F0 m pc' ls' (st'.map (cv ad))) := fun h1 h2 h => hZ _ _ _ _ _ _ _ _ h p e s m args below meth c H locs Zp _ hC hWk hWh hX hS h1 h2 hn hsz hR
  have hA : ∀ q : Nat, s.heap.size ≤ q → Ab base q := fun q h => Nat.le_trans hbs h
  have hbH := hWh.1
  -- a write into the world
  have goM : ∀ {pc' : Nat} {st' : List Value} {sh' : List Sh} {M' : Mm} {H1 : Heap} {locs1 : List Loc}, sh'.length = sh.length → M' 1000 = M 1000 → M' 1001 = M 1001 → va_P D vwCl (wl cA ad sh' M') H1 → va_D (Ab base) (wl cA ad sh' M') → va_S (Ab base) H H1 locs1 → Z y pc' L st' sh' n M' Q → W p l e (mR y) s m args below meth c H1 locs1 n.1 n.2 Zp (F0 m pc' ls (st'.map (cv ad))) := by
    intro pc' st' sh' M' H1 locs1 h1 h2 h3 h4 h5 h6 h
    refine W_size fun hz => ?_
    have hz1 : H1.size = H.size := by have := h6.1; omega
    exact hZ _ _ _ _ _ _ _ _ h p e s m args below meth c H1 locs1 Zp ls hC hWk (hWh.write hz1 h1 h4 h5 h2 h3) (X_kept hX hG.1 h6 hbH) (S_trans hS h6) hLn hl hn (by rw [hz1]; exact hsz) hR
  cases i <;> try exact False.elim hex
  case iconst k =>
    simp only [chkb, Bool.and_eq_true, decide_eq_true_eq] at hck
    obtain ⟨h1, rfl⟩ := hck
    obtain ⟨hd, rfl⟩ := dcb_inv h1
    exact lv_iconst hx hb hd rfl (go hex)
  case bipush k =>
    simp only [chkb, Bool.and_eq_true, decide_eq_true_eq] at hck
    obtain ⟨h1, rfl⟩ := hck
    obtain ⟨hd, rfl⟩ := dcb_inv h1
    exact lv_bipush hx hb hd rfl (go hex)
  case sipush k =>
    simp only [chkb, Bool.and_eq_true, decide_eq_true_eq] at hck
    obtain ⟨h1, rfl⟩ := hck
    obtain ⟨hd, rfl⟩ := dcb_inv h1
    exact lv_sipush hx hb hd rfl (go hex)
  case ldc k =>
    simp only [chkb, Bool.and_eq_true] at hck
    obtain ⟨h1, h2⟩ := hck
    obtain ⟨hd, rfl⟩ := dcb_inv h1
    split at h2
    · exact lv_ldc hx hb hown (hts _ (GW_of h2 rfl)) hd (go hex)
    · cases h2
  case ldc_w k =>
    simp only [chkb, Bool.and_eq_true] at hck
    obtain ⟨h1, h2⟩ := hck
    obtain ⟨hd, rfl⟩ := dcb_inv h1
    split at h2
    · exact lv_ldcw hx hb hown (hts _ (GW_of h2 rfl)) hd (go hex)
    · cases h2
  case lconst k =>
    simp only [chkb, Bool.and_eq_true, decide_eq_true_eq] at hck
    obtain ⟨h1, rfl⟩ := hck
    obtain ⟨hd, rfl⟩ := dcb_inv h1
    exact lv_lconst hx hb hd rfl (go hex)
  case ldc2_w k =>
    simp only [chkb, Bool.and_eq_true] at hck
    obtain ⟨h1, h2⟩ := hck
    obtain ⟨hd, rfl⟩ := dcb_inv h1
    exact lv_ldc2 hx hb hown (hts _ (GW_of h2 rfl)) hd (go hex)
  case iload k =>
    obtain ⟨hd, rfl⟩ := dcb_inv hck
    obtain ⟨x, h1, hex⟩ := lI_inv hex
    exact lv_iload hx hb hd (asc_at hl h1 rfl) (go hex)
  case iload_n k =>
    obtain ⟨hd, rfl⟩ := dcb_inv hck
    obtain ⟨x, h1, hex⟩ := lI_inv hex
    exact lv_iload_n hx hb hd rfl (asc_at hl h1 rfl) (go hex)
  case lload k =>
    obtain ⟨hd, rfl⟩ := dcb_inv hck
    obtain ⟨x, h1, hex⟩ := lJ_inv hex
    exact lv_lload hx hb hd (asc_at hl h1 rfl) (go hex)
  case lload_n k =>
    obtain ⟨hd, rfl⟩ := dcb_inv hck
    obtain ⟨x, h1, hex⟩ := lJ_inv hex
    exact lv_lload_n hx hb hd rfl (asc_at hl h1 rfl) (go hex)
  case aload k =>
    obtain ⟨hd, rfl⟩ := dcb_inv hck
    obtain ⟨x, h1, hex⟩ := lR_inv hex
    exact lv_aload hx hb hd (asc_at hl h1 rfl) (go hex)
  case aload_n k =>
    obtain ⟨hd, rfl⟩ := dcb_inv hck
    obtain ⟨x, h1, hex⟩ := lR_inv hex
    exact lv_aload_n hx hb hd rfl (asc_at hl h1 rfl) (go hex)
  case istore k =>
    simp only [chkb, Bool.and_eq_true, decide_eq_true_eq] at hck
    obtain ⟨h1, h2⟩ := hck
    obtain ⟨hd, rfl⟩ := dcb_inv h1
    obtain ⟨x, r, rfl, hex⟩ := kI_inv hex
    exact lv_istore hx hb hd hl h2 rfl (fun ls' hl' => goL (by rw [sto_len]; exact hLn) (lv_le hl' (asc_sto (v := .int x) (by omega))) hex)
  case istore_n k =>
    simp only [chkb, Bool.and_eq_true, decide_eq_true_eq] at hck
    obtain ⟨h1, h2⟩ := hck
    obtain ⟨hd, rfl⟩ := dcb_inv h1
    obtain ⟨x, r, rfl, hex⟩ := kI_inv hex
    exact lv_istore_n hx hb hd rfl hl h2 rfl (fun ls' hl' => goL (by rw [sto_len]; exact hLn) (lv_le hl' (asc_sto (v := .int x) (by omega))) hex)
  case astore k =>
    simp only [chkb, Bool.and_eq_true, decide_eq_true_eq] at hck
    obtain ⟨h1, h2⟩ := hck
    obtain ⟨hd, rfl⟩ := dcb_inv h1
    obtain ⟨x, r, rfl, hex⟩ := kR_inv hex
    exact lv_astore hx hb hd hl h2 rfl (fun ls' hl' => goL (by rw [sto_len]; exact hLn) (lv_le hl' (asc_sto (v := .ref x) (by omega))) hex)
  case astore_n k =>
    simp only [chkb, Bool.and_eq_true, decide_eq_true_eq] at hck
    obtain ⟨h1, h2⟩ := hck
    obtain ⟨hd, rfl⟩ := dcb_inv h1
    obtain ⟨x, r, rfl, hex⟩ := kR_inv hex
    exact lv_astore_n hx hb hd rfl hl h2 rfl (fun ls' hl' => goL (by rw [sto_len]; exact hLn) (lv_le hl' (asc_sto (v := .ref x) (by omega))) hex)
  case lstore_n k =>
    simp only [chkb, Bool.and_eq_true, decide_eq_true_eq] at hck
    obtain ⟨h1, h2⟩ := hck
    obtain ⟨hd, rfl⟩ := dcb_inv h1
    obtain ⟨x, r, rfl, hex⟩ := kJ_inv hex
    refine lv_lstore_n hx hb hd rfl hl h2 rfl (fun ls' hl' => goL (by rw [sto_len, sto_len]; exact hLn) (lv_le hl' ?_) hex)
    intro q hq
    rcases List.mem_cons.mp (asc_sto (v := .long x) (by rw [sto_len]; omega) q hq) with e1 | e1
    · exact List.mem_cons.mpr (Or.inl e1)
    · obtain ⟨e2, e3⟩ := List.mem_filter.mp e1
      refine List.mem_cons.mpr (Or.inr ?_)
      obtain ⟨v, f1, f2, f3⟩ := asc_mem.mp e2
      rcases sto_get _ _ _ _ _ f1 with g1 | ⟨g1, g2⟩ | ⟨g1, g2, g3⟩ | ⟨g1, g2⟩
      · rw [f3] at g1; cases g1
      · rw [g2] at f3; cases f3
      · refine List.mem_filter.mpr ⟨asc_mem.mpr ⟨v, g2, f2, f3⟩, ?_⟩
        simp only [Bool.and_eq_true, Bool.not_eq_true', beq_eq_false_iff_ne, ne_eq, Bool.and_eq_false_imp, beq_iff_eq] at e3 ⊢
        exact ⟨e3.1, g1, e3.2⟩
      · omega
  case iinc k cst =>
    simp only [chkb, Bool.and_eq_true, decide_eq_true_eq] at hck
    obtain ⟨⟨h1, h2⟩, rfl⟩ := hck
    obtain ⟨hd, rfl⟩ := dcb_inv h1
    obtain ⟨x, h3, hex⟩ := lI_inv hex
    obtain ⟨j, hj⟩ := List.getElem?_of_mem (asc_mem (ad := ad) (L := L) (q := (k, .int x)).mpr ⟨.int x, h3, rfl, rfl⟩)
    exact lv_iinc hx hb hd hl hj rfl h2 rfl (fun ls' hl' => goL (by rw [sto_len]; exact hLn) (lv_le hl' (asc_sto (v := .int (x + Int32.ofInt cst)) (by omega))) hex)
  case iadd =>
    obtain ⟨hd, rfl⟩ := dcb_inv hck
    obtain ⟨v, r, rfl, hex⟩ := kI_inv hex
    obtain ⟨u, r, rfl, hex⟩ := kI_inv hex
    exact lv_iadd hx hb hd (go hex)
  case isub =>
    obtain ⟨hd, rfl⟩ := dcb_inv hck
    obtain ⟨v, r, rfl, hex⟩ := kI_inv hex
    obtain ⟨u, r, rfl, hex⟩ := kI_inv hex
    exact lv_isub hx hb hd (go hex)
  case imul =>
    obtain ⟨hd, rfl⟩ := dcb_inv hck
    obtain ⟨v, r, rfl, hex⟩ := kI_inv hex
    obtain ⟨u, r, rfl, hex⟩ := kI_inv hex
    exact lv_imul hx hb hd (go hex)
  case iand =>
    obtain ⟨hd, rfl⟩ := dcb_inv hck
    obtain ⟨v, r, rfl, hex⟩ := kI_inv hex
    obtain ⟨u, r, rfl, hex⟩ := kI_inv hex
    exact lv_iand hx hb hd (go hex)
  case ior =>
    obtain ⟨hd, rfl⟩ := dcb_inv hck
    obtain ⟨v, r, rfl, hex⟩ := kI_inv hex
    obtain ⟨u, r, rfl, hex⟩ := kI_inv hex
    exact lv_ior hx hb hd (go hex)
  case idiv =>
    obtain ⟨hd, rfl⟩ := dcb_inv hck
    obtain ⟨v, r, rfl, hex⟩ := kI_inv hex
    obtain ⟨u, r, rfl, h0, hex⟩ := kI_inv hex
    exact lv_idiv hx hb hd h0 (go hex)
  case irem =>
    obtain ⟨hd, rfl⟩ := dcb_inv hck
    obtain ⟨v, r, rfl, hex⟩ := kI_inv hex
    obtain ⟨u, r, rfl, h0, hex⟩ := kI_inv hex
    exact lv_irem hx hb hd h0 (go hex)
  case ishl =>
    obtain ⟨hd, rfl⟩ := dcb_inv hck
    obtain ⟨v, r, rfl, hex⟩ := kI_inv hex
    obtain ⟨u, r, rfl, hex⟩ := kI_inv hex
    exact lv_ishl hx hb hd (go hex)
  case ishr =>
    obtain ⟨hd, rfl⟩ := dcb_inv hck
    obtain ⟨v, r, rfl, hex⟩ := kI_inv hex
    obtain ⟨u, r, rfl, hex⟩ := kI_inv hex
    exact lv_ishr hx hb hd (go hex)
  case iushr =>
    obtain ⟨hd, rfl⟩ := dcb_inv hck
    obtain ⟨v, r, rfl, hex⟩ := kI_inv hex
    obtain ⟨u, r, rfl, hex⟩ := kI_inv hex
    exact lv_iushr hx hb hd rfl (go hex)
  case ladd =>
    obtain ⟨hd, rfl⟩ := dcb_inv hck
    obtain ⟨v, r, rfl, hex⟩ := kJ_inv hex
    obtain ⟨u, r, rfl, hex⟩ := kJ_inv hex
    exact lv_ladd hx hb hd (go hex)
  case lmul =>
    obtain ⟨hd, rfl⟩ := dcb_inv hck
    obtain ⟨v, r, rfl, hex⟩ := kJ_inv hex
    obtain ⟨u, r, rfl, hex⟩ := kJ_inv hex
    exact lv_lmul hx hb hd (go hex)
  case land =>
    obtain ⟨hd, rfl⟩ := dcb_inv hck
    obtain ⟨v, r, rfl, hex⟩ := kJ_inv hex
    obtain ⟨u, r, rfl, hex⟩ := kJ_inv hex
    exact lv_land hx hb hd (go hex)
  case ldiv =>
    obtain ⟨hd, rfl⟩ := dcb_inv hck
    obtain ⟨v, r, rfl, hex⟩ := kJ_inv hex
    obtain ⟨u, r, rfl, h0, hex⟩ := kJ_inv hex
    exact lv_ldiv hx hb hd h0 (go hex)
  case lrem =>
    obtain ⟨hd, rfl⟩ := dcb_inv hck
    obtain ⟨v, r, rfl, hex⟩ := kJ_inv hex
    obtain ⟨u, r, rfl, h0, hex⟩ := kJ_inv hex
    exact lv_lrem hx hb hd h0 (go hex)
  case lcmp =>
    obtain ⟨hd, rfl⟩ := dcb_inv hck
    obtain ⟨v, r, rfl, hex⟩ := kJ_inv hex
    obtain ⟨u, r, rfl, hex⟩ := kJ_inv hex
    exact W.lcmp hx hb hd (go hex)
  case i2l =>
    obtain ⟨hd, rfl⟩ := dcb_inv hck
    obtain ⟨v, r, rfl, hex⟩ := kI_inv hex
    exact lv_i2l hx hb hd rfl (go hex)
  case l2i =>
    obtain ⟨hd, rfl⟩ := dcb_inv hck
    obtain ⟨v, r, rfl, hex⟩ := kJ_inv hex
    exact lv_l2i hx hb hd rfl (go hex)
  case dup =>
    obtain ⟨hd, rfl⟩ := dcb_inv hck
    rcases hex with hex | hex
    · obtain ⟨v, r, rfl, hex⟩ := kI_inv hex
      exact lv_dup hx hb hd rfl (go hex)
    · obtain ⟨v, r, rfl, hex⟩ := kR_inv hex
      exact lv_dup hx hb hd rfl (go hex)
  case dup2 =>
    obtain ⟨hd, rfl⟩ := dcb_inv hck
    obtain ⟨v, r, rfl, hex⟩ := kI_inv hex
    obtain ⟨u, r, rfl, hex⟩ := kR_inv hex
    exact lv_dup2_11 hx hb hd rfl rfl (go hex)
  case ifCond cd off =>
    simp only [chkb, Bool.and_eq_true] at hck
    obtain ⟨h1, h2⟩ := hck
    obtain ⟨hd, rfl⟩ := dcb_inv h1
    have h2 := brb_inv h2
    cases cd
    case eq => obtain ⟨x, r, rfl, he⟩ := kI_inv hex; exact lv_if_eq hx hb hd h2 (fun q => go (by rw [if_pos q] at he; exact he)) (fun q => go (by rw [if_neg q] at he; exact he))
    case ne => obtain ⟨x, r, rfl, he⟩ := kI_inv hex; exact lv_if_ne hx hb hd h2 (fun q => go (by rw [if_neg q] at he; exact he)) (fun q => go (by rw [if_pos q] at he; exact he))
    case lt => obtain ⟨x, r, rfl, he⟩ := kI_inv hex; exact lv_if_lt hx hb hd h2 (fun q => go (by rw [if_pos q] at he; exact he)) (fun q => go (by rw [if_neg q] at he; exact he))
    case ge => obtain ⟨x, r, rfl, he⟩ := kI_inv hex; exact lv_if_ge hx hb hd h2 (fun q => go (by rw [if_neg (Int32.not_lt.mpr q)] at he; exact he)) (fun q => go (by rw [if_pos (Int32.not_le.mp q)] at he; exact he))
    case gt => obtain ⟨x, r, rfl, he⟩ := kI_inv hex; exact lv_if_gt hx hb hd h2 (fun q => go (by rw [if_pos q] at he; exact he)) (fun q => go (by rw [if_neg q] at he; exact he))
    case le => obtain ⟨x, r, rfl, he⟩ := kI_inv hex; exact lv_if_le hx hb hd h2 (fun q => go (by rw [if_neg (Int32.not_lt.mpr q)] at he; exact he)) (fun q => go (by rw [if_pos (Int32.not_le.mp q)] at he; exact he))
  case if_icmp cd off =>
    simp only [chkb, Bool.and_eq_true] at hck
    obtain ⟨h1, h2⟩ := hck
    obtain ⟨hd, rfl⟩ := dcb_inv h1
    have h2 := brb_inv h2
    cases cd
    case eq => obtain ⟨v, r0, rfl, he0⟩ := kI_inv hex; obtain ⟨u, r, rfl, he⟩ := kI_inv he0; exact lv_icmp_eq hx hb hd h2 (fun q => go (by rw [if_pos q] at he; exact he)) (fun q => go (by rw [if_neg q] at he; exact he))
    case ne => obtain ⟨v, r0, rfl, he0⟩ := kI_inv hex; obtain ⟨u, r, rfl, he⟩ := kI_inv he0; exact lv_icmp_ne hx hb hd h2 (fun q => go (by rw [if_neg q] at he; exact he)) (fun q => go (by rw [if_pos q] at he; exact he))
    case lt => obtain ⟨v, r0, rfl, he0⟩ := kI_inv hex; obtain ⟨u, r, rfl, he⟩ := kI_inv he0; exact lv_icmp_lt hx hb hd h2 (fun q => go (by rw [if_pos q] at he; exact he)) (fun q => go (by rw [if_neg q] at he; exact he))
    case ge => obtain ⟨v, r0, rfl, he0⟩ := kI_inv hex; obtain ⟨u, r, rfl, he⟩ := kI_inv he0; exact lv_icmp_ge hx hb hd h2 (fun q => go (by rw [if_neg (Int32.not_lt.mpr q)] at he; exact he)) (fun q => go (by rw [if_pos (Int32.not_le.mp q)] at he; exact he))
    case gt => obtain ⟨v, r0, rfl, he0⟩ := kI_inv hex; obtain ⟨u, r, rfl, he⟩ := kI_inv he0; exact lv_icmp_gt hx hb hd h2 (fun q => go (by rw [if_pos q] at he; exact he)) (fun q => go (by rw [if_neg q] at he; exact he))
    case le => obtain ⟨v, r0, rfl, he0⟩ := kI_inv hex; obtain ⟨u, r, rfl, he⟩ := kI_inv he0; exact lv_icmp_le hx hb hd h2 (fun q => go (by rw [if_neg (Int32.not_lt.mpr q)] at he; exact he)) (fun q => go (by rw [if_pos (Int32.not_le.mp q)] at he; exact he))
  case goto off =>
    simp only [chkb, Bool.and_eq_true] at hck
    obtain ⟨h1, h2⟩ := hck
    obtain ⟨hd, rfl⟩ := dcb_inv h1
    exact lv_goto hx hb hd (brb_inv h2) (go hex)
  case tableswitch dflt lo hi offs =>
    simp only [chkb, Bool.and_eq_true, decide_eq_true_eq] at hck
    obtain ⟨⟨⟨hd, h2⟩, h3⟩, h4⟩ := hck
    obtain ⟨x, r, rfl, he⟩ := kI_inv hex
    rcases sw_inv he with ⟨q, q1, rfl, q3⟩ | ⟨q1, q3⟩
    · have h5 := List.all_eq_true.mp h3 q q1
      simp only [Bool.and_eq_true, decide_eq_true_eq] at h5
      obtain ⟨⟨h6, h7⟩, h8⟩ := h5
      split at h8
      · exact lv_tableIn hx hb hd h6 h7 (by assumption) (brb_inv h8) (go q3)
      · cases h8
    · refine lv_tableOut hx hb hd ?_ (brb_inv h2) (go q3)
      by_cases h5 : x.toInt < lo
      · exact Or.inl h5
      · by_cases h6 : hi < x.toInt
        · exact Or.inr h6
        · exfalso
          have h7 := List.all_eq_true.mp h4 (x.toInt - lo).toNat (List.mem_range.mpr (by omega))
          obtain ⟨q, hq, hq2⟩ := List.any_eq_true.mp h7
          have hq3 := of_decide_eq_true hq2
          exact q1 q hq (Int32.toInt_inj.mp (by omega))
  case lookupswitch dflt ps =>
    simp only [chkb, Bool.and_eq_true, decide_eq_true_eq] at hck
    obtain ⟨⟨⟨⟨hd, h2⟩, h3⟩, h4⟩, h5⟩ := hck
    obtain ⟨x, r, rfl, he⟩ := kI_inv hex
    have key : ∀ (d : List (Int32 × Nat)) (ps : List (Int × Int)), d.length = ps.length → (d.zip ps).all (fun q => decide (q.1.1.toInt = q.2.1) && brb pc q.2.2 q.1.2) = true → sw d a x (fun t => Z y t L r sh n M Q) → ∃ off tgt, Op.lookupswitch.offset ps dflt x.toInt = off ∧ (pc : Int) + off = (tgt : Nat) ∧ Z y tgt L r sh n M Q := by
      intro d
      induction d with
      | nil =>
        intro ps hl _ k
        cases ps with
        | nil => exact ⟨dflt, a, rfl, brb_inv h2, k⟩
        | cons _ _ => cases hl
      | cons q d ih =>
        intro ps hl hall k
        cases ps with
        | nil => cases hl
        | cons f ps =>
          obtain ⟨v, t⟩ := q
          obtain ⟨f1, f2⟩ := f
          simp only [List.zip_cons_cons, List.all_cons, Bool.and_eq_true, decide_eq_true_eq] at hall
          obtain ⟨⟨g1, g2⟩, g3⟩ := hall
          unfold sw at k
          split at k
          · rename_i hxv
            refine ⟨f2, t, ?_, brb_inv g2, k⟩
            rw [Op.lookupswitch.offset_cons, if_pos (by rw [hxv, g1])]
          · rename_i hxv
            obtain ⟨off, tgt, e1, e2, e3⟩ := ih ps (by simpa using hl) g3 k
            refine ⟨off, tgt, ?_, e2, e3⟩
            rw [lv_osw hxv g1]
            exact e1
    obtain ⟨off, tgt, e1, e2, e3⟩ := key d ps.toList h4 h5 he
    exact lv_lookup hx hb hd h3 e1 e2 (go e3)
  case getfield idx =>
    simp only [chkb, Bool.and_eq_true] at hck
    obtain ⟨h1, h2⟩ := hck
    obtain ⟨hd, rfl⟩ := dcb_inv h1
    obtain ⟨C, T, N, hc, hk, hT, hlink⟩ := fld_link h2
    obtain ⟨o, r, rfl, he⟩ := kR_inv hex
    have hcl := (cls_in hc).1
    have fin : ∀ v, gf sh o a w = some v → Z y (pc + 3) L (fv (fun k => k) (M o w) v :: r) sh n M Q → W p l e (mR y) s m args below meth c H locs n.1 n.2 Zp (F0 m pc ls ((Value.ref o :: r).map (cv ad))) := by
      intro v hg hz
      obtain ⟨fs, hs, hf⟩ := gf_inv hg
      have hz' := go hz
      have e2 : cv ad (fv (fun k => k) (M o w) v) = fv ad (M o w) v := by cases v <;> rfl
      rw [List.map_cons, e2] at hz'
      rcases hlink with ⟨wi, hw⟩ | ⟨-, wi, hw⟩
      · exact va_get (C := C) (T := T) (N := N) (ref := C) hx hb hts hcl hown hWk.1 hWh.2.2.2.1 o (cel_obj hs) hc w hk (hts _ (GW_of hw rfl)) (fun _ h9 => by rw [hT] at h9; exact h9) (fs_get hf) hd hz'
      · exact va_getN (C := C) (T := T) (N := N) (ref := C) hx hb hts hcl hown hWk.1 hWh.2.2.2.1 o (cel_obj hs) hc w hk (va_Nw.use rfl (hWk.2 _ (NW_of hw rfl))) (fun _ h9 => by rw [hT] at h9; exact h9) (fs_get hf) hd hz'
    unfold gv at he
    split at he
    · rename_i hg; exact fin _ hg he
    · rename_i hg; exact fin _ hg he
    · exact he.elim
  case iaload =>
    obtain ⟨hd, rfl⟩ := dcb_inv hck
    obtain ⟨i, r0, rfl, he0⟩ := kI_inv hex
    obtain ⟨o, r, rfl, he⟩ := kR_inv he0
    split at he
    · obtain ⟨ho, h1, h2⟩ := he
      subst ho
      obtain ⟨g1, g2, g3, g4⟩ := hG
      have hm := hWh.2.2.2.2.2.2
      have hm0 := hWh.2.2.2.2.2.1
      rw [hm, g3, nI_clamp g4] at h1
      have h3 := go h2
      rw [hm0] at h3
      show W p l e (mR y) s m args below meth c H locs n.1 n.2 Zp (F0 m pc ls (.int i :: .ref (ad 1000) :: r.map (cv ad)))
      rw [g2]
      exact va_sld hx hb hX (by omega) (by unfold Ab; omega) (S_self hS) h1 hd h3
    · obtain ⟨k, h1, h2, h3⟩ := av_inv he
      exact va_iald hx hb hWk.1 hWh.2.2.2.1 o 0 (cel_arr (aln_inv h1)) rfl h2 hd (go h3)
  case baload =>
    obtain ⟨hd, rfl⟩ := dcb_inv hck
    obtain ⟨i, r0, rfl, he0⟩ := kI_inv hex
    obtain ⟨o, r, rfl, he⟩ := kR_inv he0
    obtain ⟨k, h1, h2, h3⟩ := av_inv he
    exact va_zald hx hb hWk.1 hWh.2.2.2.1 o 1 (cel_arr (aln_inv h1)) rfl h2 hd (go h3)
  case iastore =>
    obtain ⟨hd, rfl⟩ := dcb_inv hck
    obtain ⟨x, r1, rfl, he1⟩ := kI_inv hex
    obtain ⟨i, r0, rfl, he0⟩ := kI_inv he1
    obtain ⟨o, r, rfl, he⟩ := kR_inv he0
    obtain ⟨k, h1, h2, h3⟩ := av_inv he
    have hs := aln_inv h1
    have ho := hWh.lt hs
    refine va_iast (H0 := H) hx hb hWk.1 hWh.2.2.2.1 hWh.2.2.2.2.1 (S_self hS) o 0 (cel_arr hs) rfl h2 hd (fun H1 locs1 hP hD hS1 => ?_)
    rw [wl_arr hs] at hP hD
    exact goM rfl (up_other M _ x (by omega)) (up_other M _ x (by omega)) hP hD hS1 h3
  case bastore =>
    obtain ⟨hd, rfl⟩ := dcb_inv hck
    obtain ⟨x, r1, rfl, he1⟩ := kI_inv hex
    obtain ⟨i, r0, rfl, he0⟩ := kI_inv he1
    obtain ⟨o, r, rfl, he⟩ := kR_inv he0
    obtain ⟨k, h1, h2, h4, h3⟩ := av_inv he
    have hs := aln_inv h1
    have ho := hWh.lt hs
    refine va_zast (H0 := H) hx hb hWk.1 hWh.2.2.2.1 hWh.2.2.2.2.1 (S_self hS) o 1 (cel_arr hs) rfl h2 hd (fun H1 locs1 hP hD hS1 => ?_)
    have hnb : vp_nar .boolean x = x := by rcases h4 with rfl | rfl <;> rfl
    rw [hnb, wl_arr hs] at hP hD
    exact goM rfl (up_other M _ x (by omega)) (up_other M _ x (by omega)) hP hD hS1 h3
  case arraylength =>
    obtain ⟨hd, rfl⟩ := dcb_inv hck
    obtain ⟨o, r, rfl, he⟩ := kR_inv hex
    split at he
    · obtain ⟨ho, he⟩ := he
      subst ho
      obtain ⟨g1, g2, g3, g4⟩ := hG
      have hm := hWh.2.2.2.2.2.2
      have h3 := go he
      rw [hm, List.map_cons, g3] at h3
      show W p l e (mR y) s m args below meth c H locs n.1 n.2 Zp (F0 m pc ls (.ref (ad 1000) :: r.map (cv ad)))
      rw [g2]
      exact va_slen hx hb hX (by omega) (by unfold Ab; omega) (S_self hS) hd h3
    · obtain ⟨k, h1, h2⟩ := al_inv he
      exact va_alen hx hb hWk.1 hWh.2.2.2.1 o 0 (cel_arr (aln_inv h1)) rfl rfl hd (go h2)
  case putfield idx =>
    simp only [chkb, Bool.and_eq_true] at hck
    obtain ⟨⟨⟨h1, h2⟩, h3⟩, h4⟩ := hck
    obtain ⟨hd, rfl⟩ := dcb_inv h1
    obtain ⟨C, T, N, hc, hk, hT, hlink⟩ := fld_link h2
    obtain ⟨hcl, ty0, hty, hnm⟩ := cls_in hc
    -- the write itself
    have key : ∀ (o : Nat) (r : List Value) (v : Value) (fs : List Value) (sh' : List Sh) (M' : Mm), sh[o]? = some (.inr (a, fs)) → w < fs.length → narrow (ty0 w) v = v → fits (ty0 w) v = true → (wl cA ad sh M).set o (ad o, .inr (a, (fs.mapIdx (fun j v => fv ad (M o j) v)).set w v)) = wl cA ad sh' M' → sh'.length = sh.length → M' 1000 = M 1000 → M' 1001 = M 1001 → Z y (pc + 3) L r sh' n M' Q → W p l e (mR y) s m args below meth c H locs n.1 n.2 Zp (F0 m pc ls (v :: .ref (ad o) :: r.map (cv ad))) := by
      intro o r v fs sh' M' hs hw hn1 hf1 hwl hl1 hm1 hm2 hz
      have hlen : w < (fs.mapIdx (fun j v => fv ad (M o j) v)).length := by simpa using hw
      by_cases hfin : (T w).2.2.2 = false
      · rcases hlink with ⟨wi, hw1⟩ | ⟨-, wi, hw1⟩
        · refine va_put (H0 := H) (C := C) (T := T) (N := N) (ref := C) hx hb hts hcl ty0 hty hnm hown hWk.1 hWh.2.2.2.1 hWh.2.2.2.2.1 (S_self hS) o (cel_obj hs) hc w hk (hts _ (GW_of hw1 rfl)) (fun _ h9 => by rw [hT] at h9; exact h9) hfin (hty w hk) hn1 hf1 hlen hd (fun H1 locs1 hP hD hS1 => ?_)
          rw [hwl] at hP hD
          exact goM hl1 hm1 hm2 hP hD hS1 hz
        · refine va_putN (H0 := H) (C := C) (T := T) (N := N) (ref := C) hx hb hts hcl ty0 hty hnm hown hWk.1 hWh.2.2.2.1 hWh.2.2.2.2.1 (S_self hS) o (cel_obj hs) hc w hk (va_Nw.use rfl (hWk.2 _ (NW_of hw1 rfl))) (fun _ h9 => by rw [hT] at h9; exact h9) hfin (hty w hk) hn1 hf1 hlen hd (fun H1 locs1 hP hD hS1 => ?_)
          rw [hwl] at hP hD
          exact goM hl1 hm1 hm2 hP hD hS1 hz
      · have hfin : (T w).2.2.2 = true := by cases hq : (T w).2.2.2 with | true => rfl | false => exact absurd hq hfin
        unfold finb at h4
        rw [hc] at h4
        simp only [hfin, Bool.not_true, Bool.false_or, Bool.and_eq_true, decide_eq_true_eq] at h4
        obtain ⟨⟨h5, h6⟩, h7⟩ := h4
        rcases hlink with ⟨wi, hw1⟩ | ⟨⟨wi, rr, hw0⟩, -⟩
        · refine va_putF (H0 := H) (C := C) (T := T) (N := N) (ref := C) hx hb hts hcl ty0 hty hnm hown hWk.1 hWh.2.2.2.1 hWh.2.2.2.2.1 (S_self hS) o (cel_obj hs) hc w hk (hts _ (GW_of hw1 rfl)) (fun _ h9 => by rw [hT] at h9; exact h9) hfin (hin h5) (by rw [hT, h6]) (hty w hk) hn1 hf1 hlen hd (fun H1 locs1 hP hD hS1 => ?_)
          rw [hwl] at hP hD
          exact goM hl1 hm1 hm2 hP hD hS1 hz
        · rw [hw0] at h7
          exact absurd (of_decide_eq_true h7) (show ¬ (1 : Int32) = 0 by decide)
    simp only [ex1] at hex
    split at hex
    · -- a number
      simp only [Bool.and_eq_true] at h3
      have h5 := h3.2
      unfold ftyb at h5
      rw [hc] at h5
      dsimp only at h5
      rw [if_pos (show 0 = 0 from rfl)] at h5
      have h6 := of_decide_eq_true h5
      rw [hty w hk] at h6
      have h7 := Option.some.inj h6
      obtain ⟨x, r0, rfl, he0⟩ := kI_inv hex
      obtain ⟨o, r, rfl, hg, he⟩ := kR_inv he0
      obtain ⟨fs, hs, hf⟩ := gf_inv hg
      have ho := hWh.lt hs
      exact key o r (.int x) fs sh (up M o w x) hs (List.getElem?_eq_some_iff.mp hf).1 (by rw [h7]; rfl) (by rw [h7]; rfl) (wl_int hs hf) rfl (up_other M _ x (by omega)) (up_other M _ x (by omega)) he
    · -- a boolean
      simp only [Bool.and_eq_true] at h3
      have h5 := h3.2
      unfold ftyb at h5
      rw [hc] at h5
      dsimp only at h5
      rw [if_neg (show ¬ 1 = 0 by decide), if_pos (show 1 = 1 from rfl)] at h5
      have h6 := of_decide_eq_true h5
      rw [hty w hk] at h6
      have h7 := Option.some.inj h6
      obtain ⟨x, r0, rfl, he0⟩ := kI_inv hex
      obtain ⟨o, r, rfl, hg, hb1, he⟩ := kR_inv he0
      obtain ⟨fs, hs, hf⟩ := gf_inv hg
      have ho := hWh.lt hs
      exact key o r (.int x) fs sh (up M o w x) hs (List.getElem?_eq_some_iff.mp hf).1 (by rw [h7]; rcases hb1 with rfl | rfl <;> rfl) (by rw [h7]; rcases hb1 with rfl | rfl <;> rfl) (wl_int hs hf) rfl (up_other M _ x (by omega)) (up_other M _ x (by omega)) he
    · -- a reference
      simp only [Bool.and_eq_true] at h3
      have h5 := h3.2
      unfold ftyb at h5
      rw [hc] at h5
      have h6 : (∃ C, ty0 w = .object C) ∨ ∃ t, ty0 w = .array t := by
        dsimp only at h5
        rw [if_neg (show ¬ 2 = 0 by decide), if_neg (show ¬ 2 = 1 by decide), hty w hk] at h5
        split at h5
        · rename_i q; exact Or.inl ⟨_, Option.some.inj q⟩
        · rename_i q; exact Or.inr ⟨_, Option.some.inj q⟩
        · cases h5
      obtain ⟨q, r0, rfl, he0⟩ := kR_inv hex
      obtain ⟨o, r, rfl, hg, he⟩ := kR_inv he0
      have hg2 : ∃ v, gf sh o a w = some v := by
        rcases hg with hg | ⟨q0, hg⟩
        · exact ⟨_, hg⟩
        · exact ⟨_, hg⟩
      obtain ⟨v, hg⟩ := hg2
      obtain ⟨fs, hs, hf⟩ := gf_inv hg
      refine key o r (.ref (ad q)) fs (stf sh o w (.ref q)) M hs (List.getElem?_eq_some_iff.mp hf).1 ?_ ?_ (wl_ref hs) stf_len rfl rfl he
      · rcases h6 with ⟨C, h6⟩ | ⟨C, h6⟩ <;> rw [h6] <;> rfl
      · rcases h6 with ⟨C, h6⟩ | ⟨C, h6⟩ <;> rw [h6] <;> rfl
    · exact hex.elim
  case new idx =>
    simp only [chkb, Bool.and_eq_true] at hck
    obtain ⟨h1, h2⟩ := hck
    obtain ⟨hd, rfl⟩ := dcb_inv h1
    split at h2
    · rename_i C T N w1 i1 w2 i2 hc
      simp only [Bool.and_eq_true] at h2
      obtain ⟨⟨h3, h4⟩, h5⟩ := h2
      obtain ⟨hcl, ty0, hty, hnm⟩ := cls_in hc
      obtain ⟨e1, e2, e3, he⟩ := hex
      obtain ⟨a1, a2, a3, a4, a5, a6, a7⟩ := hWh
      have hfs := fs_def hc hty
      have had : ad sh.length = H.size := by rw [a3 _ (Nat.le_refl _) (by omega)]; omega
      have hKn := hWk.1.1 a _ hc
      have hlN : (fsOf a).length = N := hfs.1
      refine W.newcK hx hb hown (hts _ (GW_of h3 rfl)) (hts _ (GW_of h4 rfl)) (hts _ (GW_of h5 rfl)) rfl hd e1 (by rw [← hlN]; exact e2) hKn.2.1 rfl fun H1 kC hkC f1 z1 o1 => ?_
      have hk : ∀ (k : Nat) (x : Nat × va_E), (wl cA ad sh M)[k]? = some x → H1[x.1]? = H[x.1]? := fun k x hx => o1 x.1 ((a4 k x hx).lt)
      have hP : va_P D vwCl (wl cA ad sh M ++ [(ad sh.length, cel cA ad (zr M sh.length) sh.length (.inr (a, fsOf a)))]) H1 := by
        refine (a4.kept hk).app (fun k x hx => ?_)
        have hz : k < 1 := (List.getElem?_eq_some_iff.mp hx).1
        rw [show k = 0 by omega] at hx
        cases hx
        refine ⟨_, hc, ?_⟩
        rw [had]
        refine (u_born ty0 hts hcl hKn hkC f1 hty).to ?_
        intro j hj
        rw [zr_self]
        exact hfs.2 j hj ad
      have hD : va_D (Ab base) (wl cA ad sh M ++ [(ad sh.length, cel cA ad (zr M sh.length) sh.length (.inr (a, fsOf a)))]) := a5.push a4 had (by unfold Ab; omega)
      rw [wl_push] at hP hD
      have hS1 : va_S (Ab base) s.heap H1 locs := ⟨Nat.le_trans hS.1 (by omega), fun x h1 h2 => (o1 x (Nat.lt_of_lt_of_le h1 hS.1)).trans (hS.2.1 x h1 h2), hS.2.2⟩
      have hX1 : va_X b xl xs s H1 := hX.kept (o1 b (by have := hG.1; omega))
      have hW1 : Wh base D cA ad xs ys H1 (sh ++ [.inr (a, fsOf a)]) (zr M sh.length) := by
        refine ⟨by omega, by simp; omega, ?_, hP, hD, by rw [zr_other M (by omega)]; exact a6, by rw [zr_other M (by omega)]; exact a7⟩
        intro k g1 g2
        simp only [List.length_append, List.length_cons, List.length_nil] at g1 ⊢
        rw [a3 k (by omega) g2]; omega
      have he1 := hZ _ _ _ _ _ _ _ _ he p e s m args below meth c H1 locs Zp ls hC hWk hW1 hX1 hS1 hLn hl ⟨e1, e2⟩ (by show H1.size = s.heap.size + (n.1 + 1); omega) hR
      rw [List.map_cons, show cv ad (Value.ref sh.length) = .ref H.size by rw [← had]; rfl] at he1
      rw [← hlN]
      exact he1
    · cases h2
  case newarray t =>
    simp only [chkb, Bool.and_eq_true] at hck
    obtain ⟨⟨h1, h2⟩, h3⟩ := hck
    obtain ⟨hd, rfl⟩ := dcb_inv h1
    obtain ⟨k, r, rfl, e0, e00, e1, e2, e3, he⟩ := kI_inv hex
    obtain ⟨a1, a2, a3, a4, a5, a6, a7⟩ := hWh
    have had : ad sh.length = H.size := by rw [a3 _ (Nat.le_refl _) (by omega)]; omega
    have ht : (t = .int ∧ a = 0) ∨ (t = .boolean ∧ a = 1) := by
      rcases Bool.or_eq_true _ _ ▸ h2 with g | g
      · exact Or.inl (of_decide_eq_true g)
      · exact Or.inr (of_decide_eq_true g)
    have hcA : s.vm.findClass ("[" ++ (newarray.typeOf t).toString) = some (cA a) ∧ defaultValue (newarray.typeOf t) = .int 0 ∧ componentBytes (newarray.typeOf t) ≤ 4 := by
      rcases ht with ⟨rfl, rfl⟩ | ⟨rfl, rfl⟩
      · exact ⟨(hWk.1.2 0 _ rfl).2, rfl, by decide⟩
      · exact ⟨(hWk.1.2 1 _ rfl).2, rfl, by decide⟩
    refine va_newaK hx hb (hts _ (GW_of h3 rfl)) rfl hd rfl e0 rfl ?_ e1 e2 rfl fun H1 cB f1 z1 o1 hAr hNm => ?_
    · have := hcA.2.2
      calc k.toNatClampNeg * componentBytes (newarray.typeOf t) ≤ 10000 * 4 := Nat.mul_le_mul e00 this
        _ ≤ 536870912 := by decide
    have hcB : cB = cA a := Option.some.inj (hNm.symm.trans hcA.1)
    subst hcB
    rw [hcA.2.1] at f1
    have hk : ∀ (k : Nat) (x : Nat × va_E), (wl cA ad sh M)[k]? = some x → H1[x.1]? = H[x.1]? := fun k x hx => o1 x.1 ((a4 k x hx).lt)
    have hP : va_P D vwCl (wl cA ad sh M ++ [(ad sh.length, cel cA ad (zr M sh.length) sh.length (.inl (a, k.toNatClampNeg)))]) H1 := by
      refine (a4.kept hk).app (fun j x hx => ?_)
      have hz : j < 1 := (List.getElem?_eq_some_iff.mp hx).1
      rw [show j = 0 by omega] at hx
      cases hx
      show H1[ad sh.length]? = some (vp_cell (cA a) (k.toNatClampNeg, .inl (zr M sh.length sh.length)))
      rw [had, zr_self]
      exact f1
    have hD : va_D (Ab base) (wl cA ad sh M ++ [(ad sh.length, cel cA ad (zr M sh.length) sh.length (.inl (a, k.toNatClampNeg)))]) := a5.push a4 had (by unfold Ab; omega)
    rw [wl_push] at hP hD
    have hS1 : va_S (Ab base) s.heap H1 locs := ⟨Nat.le_trans hS.1 (by omega), fun x h1 h2 => (o1 x (Nat.lt_of_lt_of_le h1 hS.1)).trans (hS.2.1 x h1 h2), hS.2.2⟩
    have hX1 : va_X b xl xs s H1 := hX.kept (o1 b (by have := hG.1; omega))
    have hW1 : Wh base D cA ad xs ys H1 (sh ++ [.inl (a, k.toNatClampNeg)]) (zr M sh.length) := by
      refine ⟨by omega, by simp; omega, ?_, hP, hD, by rw [zr_other M (by omega)]; exact a6, by rw [zr_other M (by omega)]; exact a7⟩
      intro k g1 g2
      simp only [List.length_append, List.length_cons, List.length_nil] at g1 ⊢
      rw [a3 k (by omega) g2]; omega
    have he1 := hZ _ _ _ _ _ _ _ _ he p e s m args below meth c H1 locs Zp ls hC hWk hW1 hX1 hS1 hLn hl ⟨e1, e2⟩ (by show H1.size = s.heap.size + (n.1 + 1); omega) hR
    rw [List.map_cons, show cv ad (Value.ref sh.length) = .ref H.size by rw [← had]; rfl] at he1
    exact he1
  case ireturn =>
    obtain ⟨hd, rfl⟩ := dcb_inv hck
    obtain ⟨h1, h2, h3⟩ := hex
    obtain ⟨x, r, rfl, h3⟩ := kI_inv h3
    have hr0 : r = [] := by simpa using h1
    subst hr0
    have hq : Q (some (.int x)) sh M ∧ ∃ ty, mT y = some ty ∧ narrow ty (.int x) = .int x := by
      unfold rz at h3
      split at h3
      · rename_i q; exact ⟨h3, _, q, rfl⟩
      · rename_i q; refine ⟨h3.2, _, q, ?_⟩; rcases h3.1 with rfl | rfl <;> rfl
      · exact h3.elim
    obtain ⟨hq, ty, ht1, ht2⟩ := hq
    rw [h2]
    exact hR (some (.int x)) sh M H locs pc ls hq hWh hX hS (by rw [← h2]; exact hsz) (Or.inr (Or.inl ⟨x, ty, rfl, hd, ht1, ht2⟩))
  case areturn =>
    simp only [chkb, Bool.and_eq_true] at hck
    obtain ⟨hck, h4⟩ := hck
    obtain ⟨hd, rfl⟩ := dcb_inv hck
    obtain ⟨h1, h2, h3⟩ := hex
    obtain ⟨x, r, rfl, h3⟩ := kR_inv h3
    have hr0 : r = [] := by simpa using h1
    subst hr0
    split at h4
    · rename_i C hT
      rw [h2]
      exact hR (some (.ref x)) sh M H locs pc ls h3 hWh hX hS (by rw [← h2]; exact hsz) (Or.inr (Or.inr ⟨x, C, rfl, hd, hT⟩))
    · cases h4
  case return_ =>
    simp only [chkb, Bool.and_eq_true, decide_eq_true_eq] at hck
    obtain ⟨hck, h4⟩ := hck
    obtain ⟨hd, rfl⟩ := dcb_inv hck
    obtain ⟨rfl, h2, h3⟩ := hex
    rw [h2]
    exact hR none sh M H locs pc ls h3 hWh hX hS (by rw [← h2]; exact hsz) (Or.inl ⟨rfl, hd, h4⟩)
  case invokevirtual idx =>
    simp only [chkb, Bool.and_eq_true, decide_eq_true_eq] at hck
    obtain ⟨⟨⟨h1, h2⟩, h3⟩, h4⟩ := hck
    obtain ⟨hd, rfl⟩ := dcb_inv h1
    obtain ⟨bs, r0, rfl, hlen, he⟩ := pop_inv hex
    obtain ⟨o, r, rfl, hiC, hk⟩ := kR_inv he
    rw [List.append_nil] at hk
    obtain ⟨hk1, hk2, hk3, hk4, hk5⟩ := hk
    have hcb := h2
    simp only [callb, Bool.and_eq_true, decide_eq_true_eq] at h2
    have hz := hmk h2.1.1.1 h2.1.1.2
    have hM := met_of hz hk1 hk2 (hZ _ _ _ _ _ _ _ _ hk5)
    obtain ⟨fs, hfs⟩ := isC_inv hiC
    have hzz := hz
    simp only [mOKb, Bool.and_eq_true, decide_eq_true_eq] at hzz
    have hkind := hzz.2
    rw [h3] at hkind
    simp only [Bool.and_eq_true] at hkind
    obtain ⟨⟨hki, hks⟩, hkc⟩ := hkind
    have hcl : ∃ T N, vwCl[mK a]? = some (mO a, T, N) := by
      split at hkc
      · rename_i C T N q
        have := of_decide_eq_true hkc
        subst this
        exact ⟨T, N, q⟩
      · cases hkc
    obtain ⟨T, N, hcl⟩ := hcl
    have hcell := va_recv hWk.1 hWh.2.2.2.1 hcl (cel_obj hfs)
    have hp : PreV s H (mO a) (ad o) (PC base D cA ad b xl xs ys (.ref o :: bs.reverse) sh M) (bs.reverse.map (cv ad)) := ⟨PC.blind, hcell, PC.at hWk hWh hX⟩
    have hrun : va_Run p l e (mR y) s m args below meth c H locs n.1 n.2 (mC a).1 (mC a).2 (F0 m pc ls ((bs ++ Value.ref o :: r).map (cv ad))) (r.map (cv ad)) (QC base D cA ad xs ys (mC a).1 (fun v sh' M' => Z y (pc + 3) L (v.toList ++ r) sh' (n.1 + (mC a).1, n.2 + (mC a).2) M' Q) (Value.ref (ad o) :: bs.reverse.map (cv ad)).toArray) (Ab base) := by
      rcases linkb_inv h4 with hw | hw
      · exact va_runV (As := bs.reverse.map (cv ad)) (rest := r.map (cv ad)) ⟨hx, hb, hml, hown, hts⟩ hM ⟨callB_w hts hz hcb hw, hts _ (GW_of hki rfl), hts _ (GW_of hks rfl)⟩ hp rfl (by simp [hlen]) hl.1 (by simp [cv]) (lv_room (ok4_sum ad hk4)) hd hk3
      · exact va_runVN (As := bs.reverse.map (cv ad)) (rest := r.map (cv ad)) ⟨hx, hb, hml, hown, hts⟩ hM ⟨callN_w hts hWk.2 hz hcb hw, hts _ (GW_of hki rfl), hts _ (GW_of hks rfl)⟩ hp rfl (by simp [hlen]) hl.1 (by simp [cv]) (lv_room (ok4_sum ad hk4)) hd hk3
    refine call_W hrun hS hX hG.1 hbH (fun v sh' M' H1 locs1 hq hWh1 hX1 hS1 hz1 => ?_)
    have := hZ _ _ _ _ _ _ _ _ hq p e s m args below meth c H1 locs1 Zp ls hC hWk hWh1 hX1 hS1 hLn hl hk3 (by show H1.size = s.heap.size + (n.1 + (mC a).1); omega) hR
    rw [List.map_append, show List.map (cv ad) v.toList = (v.map (cv ad)).toList by cases v <;> rfl] at this
    exact this
  case invokestatic idx =>
    simp only [chkb, Bool.and_eq_true] at hck
    obtain ⟨h1, h2⟩ := hck
    obtain ⟨hd, rfl⟩ := dcb_inv h1
    simp only [ex1] at hex
    have hnC : c.maxLocals = ls.size := by rw [hml, hl.1]
    split at hex
    · rename_i ha
      rw [if_pos ha] at h2
      simp only [Bool.and_eq_true, decide_eq_true_eq] at h2
      obtain ⟨⟨h3, h4⟩, h5⟩ := h2
      obtain ⟨k, r1, rfl, he1⟩ := kI_inv hex
      obtain ⟨dp, r2, rfl, he2⟩ := kI_inv he1
      obtain ⟨a1, r3, rfl, he3⟩ := kR_inv he2
      obtain ⟨sp, r4, rfl, he4⟩ := kI_inv he3
      obtain ⟨a0, r, rfl, g1, g2, g3, g4, ⟨n0, n1, g5, g6, g7, g8⟩, he⟩ := kR_inv he4
      have s0 := aln_inv g5
      have s1 := aln_inv g6
      have ho := hWh.lt s1
      refine va_copyi (H0 := H) hx hb hnC hown (hts _ (GW_of h3 rfl)) (hts _ (GW_of cpy_n rfl)) (hts _ (GW_of cpy_s rfl)) (hts _ (GW_of cpy_i rfl)) hWk.1 hWh.2.2.2.1 hWh.2.2.2.2.1 (S_self hS) a0 a1 0 0 (cel_arr s0) (cel_arr s1) rfl rfl rfl g2 g3 g4 g7 g8 (fun _ _ => rfl) h4 ?_ hd (fun H1 locs1 hP hD hS1 => ?_)
      · have := ok4_sum ad g1
        have e1 : nativeFrameWords "java/lang/System" "arraycopy" 5 = 7 := by decide +kernel
        omega
      · rw [wl_cpy s1] at hP hD
        exact goM rfl (cpm_other M _ _ _ (by omega)) (cpm_other M _ _ _ (by omega)) hP hD hS1 he
    · rename_i ha
      rw [if_neg ha] at h2
      split at hex
      · rename_i ha1
        rw [if_pos ha1] at h2
        simp only [Bool.and_eq_true, decide_eq_true_eq] at h2
        obtain ⟨⟨h3, h4⟩, h5⟩ := h2
        obtain ⟨v, r1, rfl, he1⟩ := kI_inv hex
        obtain ⟨u, r, rfl, g1, he⟩ := kI_inv he1
        exact va_mmax hx hb hnC hown (hts _ (GW_of h3 rfl)) (hts _ (GW_of max_s rfl)) (hts _ (GW_of mth_i rfl)) (hts _ (GW_of max_c rfl)) h4 (by have := ok4_sum ad g1; omega) hn.1 hn.2 hd (go he)
      · rename_i ha1
        rw [if_neg ha1] at h2
        split at hex
        · rename_i ha2
          rw [if_pos ha2] at h2
          simp only [Bool.and_eq_true, decide_eq_true_eq] at h2
          obtain ⟨⟨h3, h4⟩, h5⟩ := h2
          obtain ⟨v, r1, rfl, he1⟩ := kI_inv hex
          obtain ⟨u, r, rfl, g1, he⟩ := kI_inv he1
          exact va_mmin hx hb hnC hown (hts _ (GW_of h3 rfl)) (hts _ (GW_of min_s rfl)) (hts _ (GW_of mth_i rfl)) (hts _ (GW_of min_c rfl)) h4 (by have := ok4_sum ad g1; omega) hn.1 hn.2 hd (go he)
        · rename_i ha2
          rw [if_neg ha2] at h2
          simp only [Bool.and_eq_true, decide_eq_true_eq] at h2
          obtain ⟨⟨h2, h3⟩, h4⟩ := h2
          obtain ⟨bs, r, rfl, hlen, hk⟩ := pop_inv hex
          rw [List.append_nil] at hk
          obtain ⟨hk1, hk2, hk3, hk4, hk5⟩ := hk
          have hcb := h2
          simp only [callb, Bool.and_eq_true, decide_eq_true_eq] at h2
          have hz := hmk h2.1.1.1 h2.1.1.2
          have hM := met_of hz hk1 hk2 (hZ _ _ _ _ _ _ _ _ hk5)
          have hzz := hz
          simp only [mOKb, Bool.and_eq_true, decide_eq_true_eq] at hzz
          have hkind := hzz.2
          rw [h3] at hkind
          have hp : PreS s H (PC base D cA ad b xl xs ys bs.reverse sh M) (bs.reverse.map (cv ad)) := ⟨PC.blind, PC.at hWk hWh hX⟩
          have hrun : va_Run p l e (mR y) s m args below meth c H locs n.1 n.2 (mC a).1 (mC a).2 (F0 m pc ls ((bs ++ r).map (cv ad))) (r.map (cv ad)) (QC base D cA ad xs ys (mC a).1 (fun v sh' M' => Z y (pc + 3) L (v.toList ++ r) sh' (n.1 + (mC a).1, n.2 + (mC a).2) M' Q) (bs.reverse.map (cv ad)).toArray) (Ab base) := by
            rcases linkb_inv h4 with hw | hw
            · exact va_runS (As := bs.reverse.map (cv ad)) (rest := r.map (cv ad)) ⟨hx, hb, hml, hown, hts⟩ hM ⟨callB_w hts hz hcb hw, hts _ (GW_of hkind rfl)⟩ hp rfl (by simp [hlen]) hl.1 (by simp) (lv_room (ok4_sum ad hk4)) hd hk3
            · exact va_runSN (As := bs.reverse.map (cv ad)) (rest := r.map (cv ad)) ⟨hx, hb, hml, hown, hts⟩ hM ⟨callN_w hts hWk.2 hz hcb hw, hts _ (GW_of hkind rfl), trivial⟩ hp rfl (by simp [hlen]) hl.1 (by simp) (lv_room (ok4_sum ad hk4)) hd hk3
          refine call_W hrun hS hX hG.1 hbH (fun v sh' M' H1 locs1 hq hWh1 hX1 hS1 hz1 => ?_)
          have := hZ _ _ _ _ _ _ _ _ hq p e s m args below meth c H1 locs1 Zp ls hC hWk hWh1 hX1 hS1 hLn hl hk3 (by show H1.size = s.heap.size + (n.1 + (mC a).1); omega) hR
          rw [List.map_append, show List.map (cv ad) v.toList = (v.map (cv ad)).toList by cases v <;> rfl] at this
          exact this
  case invokespecial idx =>
    simp only [chkb, Bool.and_eq_true] at hck
    obtain ⟨h1, h2⟩ := hck
    obtain ⟨hd, rfl⟩ := dcb_inv h1
    simp only [ex1] at hex
    split at hex
    · rename_i ha
      rw [if_pos ha] at h2
      simp only [Bool.and_eq_true, decide_eq_true_eq] at h2
      obtain ⟨⟨h3, h4⟩, h5⟩ := h2
      obtain ⟨o, r, rfl, g1, he⟩ := kR_inv hex
      have h6 := ok4_sum ad g1
      exact W.objInit hx hb hown (hts _ (GW_of h3 rfl)) (hts _ (GW_of obj_i rfl)) (hts _ (GW_of obj_c rfl)) rfl (by rw [hml]; exact hl.1) rfl hd h4 (Nat.le_trans (Nat.add_le_add_right (lv_room h6) 12) h5) (go he)
    · rename_i ha
      rw [if_neg ha] at h2
      simp only [Bool.and_eq_true, decide_eq_true_eq] at h2
      obtain ⟨⟨h2, h3⟩, h4⟩ := h2
      obtain ⟨bs, r0, rfl, hlen, he⟩ := pop_inv hex
      obtain ⟨o, r, rfl, hk⟩ := kR_inv he
      rw [List.append_nil] at hk
      obtain ⟨hk1, hk2, hk3, hk4, hk5⟩ := hk
      have hcb := h2
      simp only [callb, Bool.and_eq_true, decide_eq_true_eq] at h2
      have hz := hmk h2.1.1.1 h2.1.1.2
      have hM := met_of hz hk1 hk2 (hZ _ _ _ _ _ _ _ _ hk5)
      have hzz := hz
      simp only [mOKb, Bool.and_eq_true, decide_eq_true_eq] at hzz
      have hkind := hzz.2
      rw [h3] at hkind
      simp only [Bool.and_eq_true, decide_eq_true_eq] at hkind
      obtain ⟨⟨hki, hkn⟩, hkt⟩ := hkind
      have hp : PreS s H (PC base D cA ad b xl xs ys (.ref o :: bs.reverse) sh M) (.ref (ad o) :: bs.reverse.map (cv ad)) := ⟨PC.blind, PC.at hWk hWh hX⟩
      have hrun : va_Run p l e (mR y) s m args below meth c H locs n.1 n.2 (mC a).1 (mC a).2 (F0 m pc ls ((bs ++ Value.ref o :: r).map (cv ad))) (r.map (cv ad)) (QC base D cA ad xs ys (mC a).1 (fun v sh' M' => Z y (pc + 3) L (v.toList ++ r) sh' (n.1 + (mC a).1, n.2 + (mC a).2) M' Q) (Value.ref (ad o) :: bs.reverse.map (cv ad)).toArray) (Ab base) := by
        rcases linkb_inv h4 with hw | hw
        · have hcw := callB_w hts hz hcb hw
          rw [hkt] at hcw
          exact va_runI (As := bs.reverse.map (cv ad)) (rest := r.map (cv ad)) ⟨hx, hb, hml, hown, hts⟩ hM ⟨hcw, hkn, hts _ (GW_of hki rfl)⟩ hp rfl (by simp [hlen]) hl.1 (by simp [cv]) (lv_room (ok4_sum ad hk4)) hd hk3
        · have hcw := callN_w hts hWk.2 hz hcb hw
          rw [hkt] at hcw
          exact va_runIN (As := bs.reverse.map (cv ad)) (rest := r.map (cv ad)) ⟨hx, hb, hml, hown, hts⟩ hM ⟨hcw, hkn, hts _ (GW_of hki rfl)⟩ hp rfl (by simp [hlen]) hl.1 (by simp [cv]) (lv_room (ok4_sum ad hk4)) hd hk3
      refine call_W hrun hS hX hG.1 hbH (fun v sh' M' H1 locs1 hq hWh1 hX1 hS1 hz1 => ?_)
      have := hZ _ _ _ _ _ _ _ _ hq p e s m args below meth c H1 locs1 Zp ls hC hWk hWh1 hX1 hS1 hLn hl hk3 (by show H1.size = s.heap.size + (n.1 + (mC a).1); omega) hR
      rw [List.map_append, show List.map (cv ad) v.toList = (v.map (cv ad)).toList by cases v <;> rfl] at this
      exact this
