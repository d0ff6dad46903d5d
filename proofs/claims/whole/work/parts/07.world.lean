/-! the engine's memory as the kit's world -/
def cv (ad : Nat → Nat) : Value → Value
  | .ref k => .ref (ad k)
  | v => v
def fv (ad : Nat → Nat) (x : Int32) : Value → Value
  | .int _ => .int x
  | v => cv ad v
def cel (cA : Nat → ClassId) (ad : Nat → Nat) (M : Mm) (o : Nat) : Sh → va_E
  | .inl (t, n) => .inl (cA t, n, .inl (M o))
  | .inr (c, fs) => .inr (c, fs.mapIdx (fun k v => fv ad (M o k) v))
def wl (cA : Nat → ClassId) (ad : Nat → Nat) (sh : List Sh) (M : Mm) : va_W := sh.mapIdx (fun o c => (ad o, cel cA ad M o c))
theorem cv_cat (ad : Nat → Nat) (v : Value) : (cv ad v).category = v.category := by cases v <;> rfl
theorem up_self (M : Mm) (o k : Nat) (x : Int32) : up M o k x o = upd (M o) k x := if_pos rfl
theorem up_other (M : Mm) {o a : Nat} (k : Nat) (x : Int32) (h : ¬ a = o) : up M o k x a = M a := if_neg h
theorem zr_self (M : Mm) (o : Nat) : zr M o o = fun _ => 0 := if_pos rfl
theorem zr_other (M : Mm) {o a : Nat} (h : ¬ a = o) : zr M o a = M a := if_neg h
theorem cpm_self (M : Mm) (a0 a1 s d n : Nat) : cpm M a0 a1 s d n a1 = va_cpy (M a0) (M a1) s d n := if_pos rfl
theorem cpm_other (M : Mm) {a0 a1 a : Nat} (s d n : Nat) (h : ¬ a = a1) : cpm M a0 a1 s d n a = M a := if_neg h
section WLL
variable {cA : Nat → ClassId} {ad : Nat → Nat} {sh : List Sh} {M M' : Mm}
theorem wl_get {o : Nat} {c : Sh} (h : sh[o]? = some c) : (wl cA ad sh M)[o]? = some (ad o, cel cA ad M o c) := by
  simp [wl, List.getElem?_mapIdx, h]
theorem wl_len : (wl cA ad sh M).length = sh.length := by simp [wl]
theorem cel_same {o : Nat} {c : Sh} (h : M' o = M o) : cel cA ad M' o c = cel cA ad M o c := by
  unfold cel
  split
  · rw [h]
  · simp only [h]
/-- one cell is written -/
theorem wl_write {sh' : List Sh} {o : Nat} {c c' : Sh} (h : sh[o]? = some c) (hs : sh' = sh.set o c') (hM : ∀ a, ¬ a = o → M' a = M a) : (wl cA ad sh M).set o (ad o, cel cA ad M' o c') = wl cA ad sh' M' := by
  subst hs
  apply List.ext_getElem?
  intro i
  have hl : o < sh.length := (List.getElem?_eq_some_iff.mp h).1
  by_cases hi : i = o
  · subst hi
    rw [List.getElem?_set_self (by rw [wl_len]; exact hl)]
    exact (wl_get (by rw [List.getElem?_set_self hl])).symm
  · rw [List.getElem?_set_ne (fun e => hi e.symm)]
    simp only [wl, List.getElem?_mapIdx]
    rw [List.getElem?_set_ne (fun e => hi e.symm)]
    cases sh[i]? with
    | none => rfl
    | some x => simp only [Option.map_some]; rw [cel_same (hM i hi)]
theorem set_same {o : Nat} {c : Sh} (h : sh[o]? = some c) : sh = sh.set o c := by
  apply List.ext_getElem?
  intro i
  have hl : o < sh.length := (List.getElem?_eq_some_iff.mp h).1
  by_cases hi : i = o
  · subst hi
    rw [List.getElem?_set_self hl, h]
  · rw [List.getElem?_set_ne (fun e => hi e.symm)]
theorem wl_arr {o t n i : Nat} {x : Int32} (h : sh[o]? = some (.inl (t, n))) : (wl cA ad sh M).set o (ad o, .inl (cA t, n, .inl (upd (M o) i x))) = wl cA ad sh (up M o i x) := by
  rw [← wl_write (M' := up M o i x) (c' := .inl (t, n)) h (set_same h) (fun a ha => up_other M i x ha)]
  simp only [cel, up_self]
theorem wl_cpy {a0 a1 t n s d k : Nat} (h : sh[a1]? = some (.inl (t, n))) : (wl cA ad sh M).set a1 (ad a1, .inl (cA t, n, .inl (va_cpy (M a0) (M a1) s d k))) = wl cA ad sh (cpm M a0 a1 s d k) := by
  rw [← wl_write (M' := cpm M a0 a1 s d k) (c' := .inl (t, n)) h (set_same h) (fun a ha => cpm_other M s d k ha)]
  simp only [cel, cpm_self]
theorem fs_int {fs : List Value} {f : Nat → Int32} {k : Nat} {x z : Int32} (h : fs[k]? = some (.int z)) : (fs.mapIdx (fun j v => fv ad (f j) v)).set k (.int x) = fs.mapIdx (fun j v => fv ad (upd f k x j) v) := by
  apply List.ext_getElem?
  intro i
  have hl : k < fs.length := (List.getElem?_eq_some_iff.mp h).1
  by_cases hi : i = k
  · subst hi
    rw [List.getElem?_set_self (by simpa using hl), List.getElem?_mapIdx, h]
    simp [fv, upd]
  · rw [List.getElem?_set_ne (fun e => hi e.symm)]
    simp only [List.getElem?_mapIdx]
    cases fs[i]? with
    | none => rfl
    | some v => simp [upd, hi]
theorem wl_int {o c k : Nat} {fs : List Value} {x z : Int32} (h : sh[o]? = some (.inr (c, fs))) (hk : fs[k]? = some (.int z)) : (wl cA ad sh M).set o (ad o, .inr (c, (fs.mapIdx (fun j v => fv ad (M o j) v)).set k (.int x))) = wl cA ad sh (up M o k x) := by
  rw [← wl_write (M' := up M o k x) (c' := .inr (c, fs)) h (set_same h) (fun a ha => up_other M k x ha)]
  simp only [cel, up_self]
  rw [fs_int hk]
theorem fs_ref {fs : List Value} {f : Nat → Int32} {k q : Nat} : (fs.mapIdx (fun j v => fv ad (f j) v)).set k (.ref (ad q)) = (fs.set k (.ref q)).mapIdx (fun j v => fv ad (f j) v) := by
  apply List.ext_getElem?
  intro i
  simp only [List.getElem?_set, List.getElem?_mapIdx, List.length_mapIdx]
  by_cases hi : k = i
  · subst hi
    by_cases hl : k < fs.length
    · simp [hl, fv, cv]
    · simp [hl]
  · simp [hi]
theorem wl_ref {o c k q : Nat} {fs : List Value} (h : sh[o]? = some (.inr (c, fs))) : (wl cA ad sh M).set o (ad o, .inr (c, (fs.mapIdx (fun j v => fv ad (M o j) v)).set k (.ref (ad q)))) = wl cA ad (stf sh o k (.ref q)) M := by
  rw [← wl_write (sh' := stf sh o k (.ref q)) (M' := M) (c' := .inr (c, fs.set k (.ref q))) h (by unfold stf; rw [h]) (fun a ha => rfl)]
  simp only [cel]
  rw [fs_ref]
theorem stf_len {o k : Nat} {v : Value} : (stf sh o k v).length = sh.length := by
  unfold stf
  split <;> simp
/-- a new cell -/
theorem wl_push {c : Sh} : wl cA ad sh M ++ [(ad sh.length, cel cA ad (zr M sh.length) sh.length c)] = wl cA ad (sh ++ [c]) (zr M sh.length) := by
  apply List.ext_getElem?
  intro i
  simp only [wl, List.getElem?_mapIdx]
  by_cases hi : i < sh.length
  · rw [List.getElem?_append_left (by simpa using hi), List.getElem?_append_left hi, List.getElem?_mapIdx]
    cases sh[i]? with
    | none => rfl
    | some x => simp only [Option.map_some]; rw [cel_same (zr_other M (by omega))]
  · rw [List.getElem?_append_right (by simpa using hi), List.getElem?_append_right (by omega)]
    simp only [List.length_mapIdx]
    by_cases h0 : i = sh.length
    · subst h0; simp
    · have h1 : 1 ≤ i - sh.length := by omega
      obtain ⟨k, hk⟩ : ∃ k, i - sh.length = k + 1 := ⟨i - sh.length - 1, by omega⟩
      rw [hk]; simp
end WLL
/-- the locals, as the kit has them -/
def isM : Value → Bool
  | .retAddr _ => true
  | _ => false
def asc (ad : Nat → Nat) (L : List Value) : List (Nat × Value) := (L.mapIdx (fun i v => (i, cv ad v))).filter (fun q => !isM q.2)
theorem isM_cv (ad : Nat → Nat) (v : Value) : isM (cv ad v) = isM v := by cases v <;> rfl
theorem asc_mem {ad : Nat → Nat} {L : List Value} {q : Nat × Value} : q ∈ asc ad L ↔ ∃ v, L[q.1]? = some v ∧ q.2 = cv ad v ∧ isM v = false := by
  unfold asc
  rw [List.mem_filter]
  constructor
  · rintro ⟨h, h2⟩
    obtain ⟨i, hi⟩ := List.getElem?_of_mem h
    rw [List.getElem?_mapIdx] at hi
    cases hL : L[i]? with
    | none => rw [hL] at hi; cases hi
    | some v =>
      rw [hL] at hi
      cases hi
      refine ⟨v, hL, rfl, ?_⟩
      simpa [isM_cv] using h2
  · rintro ⟨v, h1, h2, h3⟩
    refine ⟨?_, by rw [h2, isM_cv, h3]; rfl⟩
    apply List.mem_of_getElem? (i := q.1)
    rw [List.getElem?_mapIdx, h1, Option.map_some, ← h2]
theorem asc_at {ad : Nat → Nat} {L : List Value} {ls : Array Slot} {nL k : Nat} {v : Value} (h : lv_has ls nL (asc ad L)) (hk : L[k]? = some v) (hv : isM v = false) : ls[k]? = some (.val (cv ad v)) := h.2.2 (k, cv ad v) (asc_mem.mpr ⟨v, hk, rfl, hv⟩)
theorem lv_le {ls : Array Slot} {nL : Nat} {l l' : List (Nat × Value)} (h : lv_has ls nL l) (hl : ∀ q ∈ l', q ∈ l) : lv_has ls nL l' := ⟨h.1, h.2.1, fun q hq => h.2.2 q (hl q hq)⟩
theorem un_or (v : Value) : un v = mk ∨ (un v = v ∧ v.category = 1) := by cases v <;> first | exact Or.inl rfl | exact Or.inr ⟨rfl, rfl⟩
/-- what stands in the locals behind a store -/
theorem sto_get : ∀ (k : Nat) (v : Value) (L : List Value) (i : Nat) (w : Value), (sto k v L)[i]? = some w → isM w = true ∨ (i = k ∧ w = v) ∨ (¬ i = k ∧ L[i]? = some w ∧ ¬ (i + 1 = k ∧ w.category = 2)) ∨ (L.length ≤ k ∧ L[i]? = some w)
  | 0, v, [], i, w, h => Or.inr (Or.inr (Or.inr ⟨Nat.zero_le _, h⟩))
  | 0, v, x :: L, 0, w, h => by cases h; exact Or.inr (Or.inl ⟨rfl, rfl⟩)
  | 0, v, x :: L, i + 1, w, h => Or.inr (Or.inr (Or.inl ⟨by omega, h, by omega⟩))
  | 1, v, [], i, w, h => Or.inr (Or.inr (Or.inr ⟨Nat.zero_le _, h⟩))
  | 1, v, [x], i, w, h => Or.inr (Or.inr (Or.inr ⟨Nat.le_refl _, h⟩))
  | 1, v, x :: y :: L, 0, w, h => by
    cases h
    rcases un_or x with e | ⟨e, e2⟩
    · exact Or.inl (by rw [e]; rfl)
    · rw [e]; exact Or.inr (Or.inr (Or.inl ⟨by omega, rfl, by omega⟩))
  | 1, v, x :: y :: L, 1, w, h => by cases h; exact Or.inr (Or.inl ⟨rfl, rfl⟩)
  | 1, v, x :: y :: L, i + 2, w, h => Or.inr (Or.inr (Or.inl ⟨by omega, h, by omega⟩))
  | k + 2, v, [], i, w, h => Or.inr (Or.inr (Or.inr ⟨Nat.zero_le _, h⟩))
  | k + 2, v, x :: L, 0, w, h => Or.inr (Or.inr (Or.inl ⟨by omega, h, by omega⟩))
  | k + 2, v, x :: L, i + 1, w, h => by
    have h' : (sto (k + 1) v L)[i]? = some w := h
    rcases sto_get (k + 1) v L i w h' with e | ⟨e, e2⟩ | ⟨e, e2, e3⟩ | ⟨e, e2⟩
    · exact Or.inl e
    · exact Or.inr (Or.inl ⟨by omega, e2⟩)
    · exact Or.inr (Or.inr (Or.inl ⟨by omega, e2, by omega⟩))
    · exact Or.inr (Or.inr (Or.inr ⟨by simp; omega, e2⟩))
/-- the kit's list behind a store holds the engine's -/
theorem asc_sto {ad : Nat → Nat} {k : Nat} {v : Value} {L : List Value} (hk : k < L.length) : ∀ q ∈ asc ad (sto k v L), q ∈ (k, cv ad v) :: (asc ad L).filter (fun q => !(q.1 == k) && !(q.1 + 1 == k && q.2.category == 2)) := by
  intro q hq
  obtain ⟨w, h1, h2, h3⟩ := asc_mem.mp hq
  rcases sto_get k v L q.1 w h1 with e | ⟨e, e2⟩ | ⟨e, e2, e3⟩ | ⟨e, e2⟩
  · rw [h3] at e; cases e
  · refine List.mem_cons.mpr (Or.inl ?_)
    rw [← e, ← e2, ← h2]
  · refine List.mem_cons.mpr (Or.inr (List.mem_filter.mpr ⟨asc_mem.mpr ⟨w, e2, h2, h3⟩, ?_⟩))
    rw [h2, cv_cat]
    simp only [Bool.and_eq_true, Bool.not_eq_true', beq_eq_false_iff_ne, Bool.and_eq_false_imp, beq_iff_eq, ne_eq]
    exact ⟨e, fun e4 e5 => e3 ⟨e4, e5⟩⟩
  · omega
theorem sto_len : ∀ (k : Nat) (v : Value) (L : List Value), (sto k v L).length = L.length
  | 0, v, [] => rfl
  | 0, v, _ :: L => rfl
  | 1, v, [] => rfl
  | 1, v, [_] => rfl
  | 1, v, _ :: _ :: L => rfl
  | k + 2, v, [] => rfl
  | k + 2, v, x :: L => congrArg (· + 1) (sto_len (k + 1) v L)
