/-! THE ENGINE IS SOUND: what WP says, the machine does -/
def tys2 (cA : Nat → ClassId) : List (ClassId × FieldType) := [(cA 0, .int), (cA 1, .boolean)]
def Ab (base : Nat) : Nat → Prop := fun q => base ≤ q
def Wh (base : Nat) (D : va_G) (cA : Nat → ClassId) (ad : Nat → Nat) (xs ys : Nat → Int32) (H : Heap) (sh : List Sh) (M : Mm) : Prop :=
  base ≤ H.size ∧ sh.length ≤ 500 ∧ (∀ k, sh.length ≤ k → k < 500 → ad k = H.size + (k - sh.length)) ∧ va_P D vwCl (wl cA ad sh M) H ∧ va_D (Ab base) (wl cA ad sh M) ∧ M 1000 = xs ∧ M 1001 = ys
def Wk (D : va_G) (cA : Nat → ClassId) (s : State) : Prop := va_K D vwCl (tys2 cA) s ∧ ∀ w ∈ NW, va_Nw w s
def Gl (base : Nat) (ad : Nat → Nat) (b xl : Nat) (ys : Nat → Int32) : Prop := b < base ∧ ad 1000 = b ∧ ys 0 = nI xl ∧ xl < 2 ^ 31
def CC (base y : Nat) (p : Program) (s : State) (m : MethodId) (args : Array Value) (meth : Method) (c : Code) : Prop :=
  p.tables.exec = Jvm.exec ∧ c.code = mB y ∧ meth.sig.returnType = mT y ∧ c.maxLocals = mL y ∧ s.vm.findClass (mO y) = some m.cls ∧ (∀ w ∈ GW, w.before args s = true) ∧ meth.locks = false ∧ (mS y = 2 → meth.name = "<init>") ∧ base ≤ s.heap.size
def rtOK (y pc : Nat) (v : Option Value) : Prop :=
  (v = none ∧ decode (mB y) pc = .ok (.return_, 1) ∧ mT y = none) ∨ (∃ x ty, v = some (.int x) ∧ decode (mB y) pc = .ok (.ireturn, 1) ∧ mT y = some ty ∧ narrow ty (.int x) = .int x) ∨ (∃ q C, v = some (.ref q) ∧ decode (mB y) pc = .ok (.areturn, 1) ∧ mT y = some (.object C))
def XM (l : Launch) (base : Nat) (D : va_G) (cA : Nat → ClassId) (ad : Nat → Nat) (b xl : Nat) (xs ys : Nat → Int32) : XP := fun y pc L st sh n M Q =>
  ∀ (p : Program) (e : Env) (s : State) (m : MethodId) (args : Array Value) (below : List Frame) (meth : Method) (c : Code) (H : Heap) (locs : List Loc) (Z : State → Prop) (ls : Array Slot),
    CC base y p s m args meth c → Wk D cA s → Wh base D cA ad xs ys H sh M → va_X b xl xs s H → va_S (Ab base) s.heap H locs → L.length = mL y → lv_has ls (mL y) (asc ad L) → n.1 ≤ (mR y).cells ∧ n.2 ≤ (mR y).slots → H.size = s.heap.size + n.1 →
    (∀ (v : Option Value) (sh' : List Sh) (M' : Mm) (H' : Heap) (locs' : List Loc) (pc' : Nat) (ls' : Array Slot), Q v sh' M' → Wh base D cA ad xs ys H' sh' M' → va_X b xl xs s H' → va_S (Ab base) s.heap H' locs' → H'.size = s.heap.size + (mC y).1 → rtOK y pc' v →
      W p l e (mR y) s m args below meth c H' locs' (mC y).1 (mC y).2 Z (F0 m pc' ls' (v.map (cv ad)).toList)) →
    W p l e (mR y) s m args below meth c H locs n.1 n.2 Z (F0 m pc ls (st.map (cv ad)))
-- inversions
theorem kI_inv {st : List Value} {K : Int32 → List Value → Prop} (k : kI st K) : ∃ x r, st = .int x :: r ∧ K x r := by
  unfold kI at k; split at k
  · exact ⟨_, _, rfl, k⟩
  · exact k.elim
theorem kJ_inv {st : List Value} {K : Int64 → List Value → Prop} (k : kJ st K) : ∃ x r, st = .long x :: r ∧ K x r := by
  unfold kJ at k; split at k
  · exact ⟨_, _, rfl, k⟩
  · exact k.elim
theorem kR_inv {st : List Value} {K : Nat → List Value → Prop} (k : kR st K) : ∃ x r, st = .ref x :: r ∧ K x r := by
  unfold kR at k; split at k
  · exact ⟨_, _, rfl, k⟩
  · exact k.elim
theorem lI_inv {o : Option Value} {K : Int32 → Prop} (k : lI o K) : ∃ x, o = some (.int x) ∧ K x := by
  unfold lI at k; split at k
  · exact ⟨_, rfl, k⟩
  · exact k.elim
theorem lJ_inv {o : Option Value} {K : Int64 → Prop} (k : lJ o K) : ∃ x, o = some (.long x) ∧ K x := by
  unfold lJ at k; split at k
  · exact ⟨_, rfl, k⟩
  · exact k.elim
theorem lR_inv {o : Option Value} {K : Nat → Prop} (k : lR o K) : ∃ x, o = some (.ref x) ∧ K x := by
  unfold lR at k; split at k
  · exact ⟨_, rfl, k⟩
  · exact k.elim
theorem av_inv {o : Option (Nat × Nat)} {t : Nat} {i : Int32} {K : Prop} (k : av o t i K) : ∃ n, o = some (t, n) ∧ vp_in i n ∧ K := by
  unfold av at k; split at k
  · obtain ⟨rfl, h2, h3⟩ := k; exact ⟨_, rfl, h2, h3⟩
  · exact k.elim
theorem al_inv {o : Option (Nat × Nat)} {K : Nat → Prop} (k : al o K) : ∃ n, o = some (0, n) ∧ K n := by
  unfold al at k; split at k
  · exact ⟨_, rfl, k⟩
  · exact k.elim
theorem aln_inv {sh : List Sh} {a : Nat} {q : Nat × Nat} (h : aln sh a = some q) : sh[a]? = some (.inl q) := by
  unfold aln at h; split at h
  · cases h; assumption
  · cases h
theorem gf_inv {sh : List Sh} {o c k : Nat} {v : Value} (h : gf sh o c k = some v) : ∃ fs, sh[o]? = some (.inr (c, fs)) ∧ fs[k]? = some v := by
  unfold gf at h; split at h
  · rename_i c' fs hs
    cases hb : Nat.beq c' c with
    | true =>
      rw [hb] at h
      have e := Nat.eq_of_beq_eq_true hb
      subst e
      exact ⟨fs, hs, h⟩
    | false => rw [hb] at h; cases h
  · cases h
theorem isC_inv {sh : List Sh} {o c : Nat} (h : isC sh o c) : ∃ fs, sh[o]? = some (.inr (c, fs)) := by
  unfold isC at h; split at h
  · subst h; exact ⟨_, by assumption⟩
  · exact h.elim
theorem pop_inv {K : List Value → List Value → Prop} : ∀ {n : Nat} {st acc : List Value}, pop n st acc K → ∃ bs r, st = bs ++ r ∧ bs.length = n ∧ K (bs.reverse ++ acc) r := by
  intro n
  induction n with
  | zero => intro st acc k; exact ⟨[], st, rfl, rfl, k⟩
  | succ n ih =>
    intro st acc k
    cases st with
    | nil => exact k.elim
    | cons v st =>
      obtain ⟨bs, r, h1, h2, h3⟩ := ih k
      exact ⟨v :: bs, r, by rw [h1]; rfl, by rw [List.length_cons, h2], by simpa using h3⟩
theorem sw_inv {a : Nat} {x : Int32} {K : Nat → Prop} : ∀ {d : List (Int32 × Nat)}, sw d a x K → (∃ q ∈ d, x = q.1 ∧ K q.2) ∨ ((∀ q ∈ d, ¬ x = q.1) ∧ K a)
  | [], k => Or.inr ⟨fun _ h => absurd h List.not_mem_nil, k⟩
  | (v, t) :: r, k => by
    unfold sw at k
    split at k
    · exact Or.inl ⟨(v, t), List.mem_cons_self, ‹_›, k⟩
    · rcases sw_inv k with ⟨q, h1, h2, h3⟩ | ⟨h1, h2⟩
      · exact Or.inl ⟨q, List.mem_cons_of_mem _ h1, h2, h3⟩
      · refine Or.inr ⟨fun q hq => ?_, h2⟩
        rcases List.mem_cons.mp hq with rfl | hq
        · assumption
        · exact h1 q hq
theorem dcb_inv {y pc : Nat} {i : Instr} {k nx : Nat} (h : dcb y pc i k nx = true) : decode (mB y) pc = .ok (i, k) ∧ nx = pc + k := by
  simpa [dcb] using h
theorem brb_inv {pc : Nat} {off : Int} {a : Nat} (h : brb pc off a = true) : (pc : Int) + off = (a : Int) := of_decide_eq_true h
theorem cat_le (v : Value) : v.category ≤ 2 := by cases v <;> simp [Value.category]
theorem ok4_sum (ad : Nat → Nat) {r : List Value} (h : ok4 r) : ((r.map (cv ad)).map fun v => v.category).sum ≤ 8 := by
  unfold ok4 at h
  split at h
  · simp
  · rename_i a; have := cat_le (cv ad a); simp; omega
  · rename_i a b; have := cat_le (cv ad a); have := cat_le (cv ad b); simp; omega
  · rename_i a b c; have := cat_le (cv ad a); have := cat_le (cv ad b); have := cat_le (cv ad c); simp; omega
  · rename_i a b c d; have := cat_le (cv ad a); have := cat_le (cv ad b); have := cat_le (cv ad c); have := cat_le (cv ad d); simp; omega
  · exact h.elim
-- a callee's locals
theorem pad_len : ∀ (n : Nat) (l : List Value), (pad n l).length = n
  | 0, _ => rfl
  | n + 1, [] => congrArg (· + 1) (pad_len n [])
  | n + 1, _ :: r => congrArg (· + 1) (pad_len n r)
theorem pad_get : ∀ (n : Nat) (l : List Value) (k : Nat) (v : Value), (pad n l)[k]? = some v → isM v = true ∨ l[k]? = some v
  | 0, _, k, v, h => by simp [pad] at h
  | n + 1, [], 0, v, h => by cases h; exact Or.inl rfl
  | n + 1, [], k + 1, v, h => by
    rcases pad_get n [] k v h with e | e
    · exact Or.inl e
    · simp at e
  | n + 1, x :: r, 0, v, h => Or.inr h
  | n + 1, x :: r, k + 1, v, h => pad_get n r k v h
theorem enl_sl (ad : Nat → Nat) : ∀ (as : List Value), okvs as → (lg_sl (as.map (cv ad))).length = (enl as).length
  | [], _ => rfl
  | v :: r, h => by
    have ih := enl_sl ad r h.2
    cases v <;> simp_all [lg_sl, enl, cv, Value.category, okvs, okv]
theorem enl_get (ad : Nat → Nat) : ∀ (as : List Value) (i k : Nat) (v : Value), okvs as → (enl as)[k]? = some v → isM v = false → (i + k, cv ad v) ∈ lv_args i (as.map (cv ad))
  | [], i, k, v, _, h, _ => by simp [enl] at h
  | .int x :: r, i, 0, v, h0, h, hm => by cases h; exact List.mem_cons_self
  | .int x :: r, i, k + 1, v, h0, h, hm => by
    have := enl_get ad r (i + 1) k v h0.2 h hm
    refine List.mem_cons_of_mem _ ?_
    rw [show i + (k + 1) = i + 1 + k by omega]
    exact this
  | .ref x :: r, i, 0, v, h0, h, hm => by cases h; exact List.mem_cons_self
  | .ref x :: r, i, k + 1, v, h0, h, hm => by
    have := enl_get ad r (i + 1) k v h0.2 h hm
    refine List.mem_cons_of_mem _ ?_
    rw [show i + (k + 1) = i + 1 + k by omega]
    exact this
  | .long x :: r, i, 0, v, h0, h, hm => by cases h; exact List.mem_cons_self
  | .long x :: r, i, 1, v, h0, h, hm => by cases h; cases hm
  | .long x :: r, i, k + 2, v, h0, h, hm => by
    have := enl_get ad r (i + 2) k v h0.2 h hm
    refine List.mem_cons_of_mem _ ?_
    rw [show i + (k + 2) = i + 2 + k by omega]
    exact this
  | .null :: r, i, k, v, h0, h, hm => h0.1.elim
  | .float x :: r, i, k, v, h0, h, hm => h0.1.elim
  | .double x :: r, i, k, v, h0, h, hm => h0.1.elim
  | .retAddr x :: r, i, k, v, h0, h, hm => h0.1.elim
theorem asc_entry {ad : Nat → Nat} {as : List Value} {n : Nat} (h : okvs as) : ∀ q ∈ asc ad (pad n (enl as)), q ∈ lv_args 0 (as.map (cv ad)) := by
  intro q hq
  obtain ⟨v, h1, h2, h3⟩ := asc_mem.mp hq
  rcases pad_get n (enl as) q.1 v h1 with e | e
  · rw [h3] at e; cases e
  · have := enl_get ad as 0 q.1 v h e h3
    rw [Nat.zero_add, ← h2] at this
    exact this
-- classes
theorem cls_in {a : Nat} {C : String} {T : u_T} {N : Nat} (h : vwCl[a]? = some (C, T, N)) : (∀ w ∈ u_ws C T N, w ∈ GW) ∧ ∃ ty : Nat → FieldType, (∀ k, k < N → parseFieldDescriptor (T k).2.2.1 = some (ty k)) ∧ (∀ a, a < N → ∀ b, b < N → a ≠ b → (T a).2.1 ≠ (T b).2.1) := by
  match a, h with
  | 0, h => cases h; exact ⟨fun w hw => List.mem_filter.mpr ⟨inX0 w hw, gdX0 w hw⟩, tyX0, tyX0_ok, nmX0⟩
  | 1, h => cases h; exact ⟨fun w hw => List.mem_filter.mpr ⟨inX1 w hw, gdX1 w hw⟩, tyX1, tyX1_ok, nmX1⟩
  | 2, h => cases h; exact ⟨fun w hw => List.mem_filter.mpr ⟨inX2 w hw, gdX2 w hw⟩, tyX2, tyX2_ok, nmX2⟩
  | 3, h => cases h; exact ⟨fun w hw => List.mem_filter.mpr ⟨inX3 w hw, gdX3 w hw⟩, tyX3, tyX3_ok, nmX3⟩
  | 4, h => cases h; exact ⟨fun w hw => List.mem_filter.mpr ⟨inX4 w hw, gdX4 w hw⟩, tyX4, tyX4_ok, nmX4⟩
  | 5, h => cases h; exact ⟨fun w hw => List.mem_filter.mpr ⟨inX5 w hw, gdX5 w hw⟩, tyX5, tyX5_ok, nmX5⟩
  | 6, h => cases h; exact ⟨fun w hw => List.mem_filter.mpr ⟨inX6 w hw, gdX6 w hw⟩, tyX6, tyX6_ok, nmX6⟩
  | 7, h => cases h; exact ⟨fun w hw => List.mem_filter.mpr ⟨inX7 w hw, gdX7 w hw⟩, tyX7, tyX7_ok, nmX7⟩
  | 8, h => cases h; exact ⟨fun w hw => List.mem_filter.mpr ⟨inX8 w hw, gdX8 w hw⟩, tyX8, tyX8_ok, nmX8⟩
  | 9, h => cases h; exact ⟨fun w hw => List.mem_filter.mpr ⟨inX9 w hw, gdX9 w hw⟩, tyX9, tyX9_ok, nmX9⟩
  | 10, h => cases h; exact ⟨fun w hw => List.mem_filter.mpr ⟨inX10 w hw, gdX10 w hw⟩, tyX10, tyX10_ok, nmX10⟩
  | 11, h => cases h; exact ⟨fun w hw => List.mem_filter.mpr ⟨inX11 w hw, gdX11 w hw⟩, tyX11, tyX11_ok, nmX11⟩
  | a + 12, h => simp [vwCl] at h
theorem goodW (z : Nat) (hz : mOKb z = true) : GoodIn GW (mW z) := by
  intro w hw
  have hc : Cond.code (mN z) (mB z) (mL z) (mT z) ∈ GW := by
    simp only [mOKb, Bool.and_eq_true] at hz
    exact GW_of hz.1.1.1.1.1.1.1.1.1 rfl
  have hg : w ∈ GW := by
    rcases List.mem_cons.mp hw with e | e
    · rw [e]; exact hc
    · exact e
  exact ⟨hg, good_of_word (List.mem_filter.mp hg).2⟩
