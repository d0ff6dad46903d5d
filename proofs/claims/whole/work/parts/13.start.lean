/-! THE CLAIM OUT OF ONE WALK OF THE LAW'S BODY. Your part is whole_start (and what it stands on); all else here is the same for every law, but numbers. -/
def R_law : String := "NineBagsLaw"
def lw_P (b : Addr) (xs : List Int32) (args : Array Value) (s : State) : Prop := args = #[.ref b] ∧ s.IntsAt b xs ∧ xs.length ≤ 256 ∧ (Jvm.Cond.and given_1 narrow_1).before args s = true
def lw_Q (_ : Array Value) (s : State) (o : Outcome) (t : State) : Prop := o = .returned (some (.int 1)) ∧ Framed s o t [] 85 1300
def lw_Z (below : List Frame) (a : Array Value) (s : State) : State → Prop := fun t => ∃ o, t.status = .running ∧ Ended t below o ∧ lw_Q a s o t
/-- the law's own end, with 1 on the stack, nothing written that was there before, its room as the claim has it -/
theorem lw_ret {p : Program} {l : Launch} {e : Env} {s : State} {m : MethodId} {below : List Frame} {meth : Method} {c : Code} {b : Nat} (hx : p.tables.exec = Jvm.exec) (hb : c.code = code) (hr : meth.sig.returnType = ret) (hlocks : meth.locks = false) {pc : Nat} {H : Heap} {ls : Array Slot} (hdg : decode code pc = .ok (.ireturn, 1)) : W p l e room_1 s m #[Value.ref b] below meth c H [] 85 1300 (lw_Z below #[Value.ref b] s) (F0 m pc ls [.int 1]) := by
  intro T hT X
  obtain ⟨fs, hret, hrun, hended, hW, hframe⟩ := X.leave (v := some (.int 1)) (hlocks := hlocks) (fun h => by rw [hr] at h; cases h)
  have hmeth' : T.vm.method? m = some meth := X.method'
  refine ⟨T.setFrames fs, ?_, .returned (some (.int 1)), hrun, hended, rfl, ⟨_, rfl⟩, hW, hframe⟩
  jvm_step X.here [X.here.top, hx, hb, hdg, hmeth', hr, ret, narrow_b1]
  (try refine ⟨rfl, ?_⟩); (try refine ⟨rfl, ?_⟩)
  first | (intro acts; rw [hret _ acts rfl rfl rfl]) | rw [hret _ _ rfl rfl rfl]
  exact Steps.refl _
/-- what holds at the law's entry: the machine, the code, the tables' words (any of lw_tbl by 'hts w (by decide +kernel)'), the script of L ints xs at the cell b, what the Statement gives of the start (any of its parts by flat_of_before) -/
def lw_At (p : Program) (s : State) (m : MethodId) (meth : Method) (c : Code) (b L : Nat) (xs : Nat → Int32) : Prop :=
  p.tables.exec = Jvm.exec ∧ c.code = code ∧ meth.sig.returnType = ret ∧ c.maxLocals = 4 ∧ s.vm.findClass R_law = some m.cls ∧ (∀ w ∈ lw_tbl, w.before #[Value.ref b] s = true) ∧ va_X b L xs s s.heap ∧ b < s.heap.size ∧ meth.locks = false ∧ (Jvm.Cond.and given_1 narrow_1).before #[Value.ref b] s = true
theorem kn_all {s : State} {args : Array Value} (hts : ∀ w ∈ lw_tbl, w.before args s = true) : ∀ (k : Nat) (q : vw_C), vwCl[k]? = some q → ∃ (cC : ClassId) (iS : Nat → Nat), u_Kn s q.1 q.2.1 q.2.2 cC iS := by
  intro k q hq
  match k, hq with
  | 0, hq => cases hq; exact u_known (C := RX0) (T := TX0) (N := 5) (n := 5) hts inX0 (hts (.instantiable RX0 5) (wAt_mem (i := 1185) (by decide +kernel)))
  | 1, hq => cases hq; exact u_known (C := RX1) (T := TX1) (N := 1) (n := 1) hts inX1 (hts (.instantiable RX1 1) (wAt_mem (i := 1052) (by decide +kernel)))
  | 2, hq => cases hq; exact u_known (C := RX2) (T := TX2) (N := 6) (n := 6) hts inX2 (hts (.instantiable RX2 6) (wAt_mem (i := 1095) (by decide +kernel)))
  | 3, hq => cases hq; exact u_known (C := RX3) (T := TX3) (N := 13) (n := 13) hts inX3 (hts (.instantiable RX3 13) (wAt_mem (i := 1211) (by decide +kernel)))
  | 4, hq => cases hq; exact u_known (C := RX4) (T := TX4) (N := 5) (n := 5) hts inX4 (hts (.instantiable RX4 5) (wAt_mem (i := 1072) (by decide +kernel)))
  | 5, hq => cases hq; exact u_known (C := RX5) (T := TX5) (N := 6) (n := 6) hts inX5 (hts (.instantiable RX5 6) (wAt_mem (i := 1026) (by decide +kernel)))
  | 6, hq => cases hq; exact u_known (C := RX6) (T := TX6) (N := 4) (n := 4) hts inX6 (hts (.instantiable RX6 4) (wAt_mem (i := 1143) (by decide +kernel)))
  | 7, hq => cases hq; exact u_known (C := RX7) (T := TX7) (N := 4) (n := 4) hts inX7 (hts (.instantiable RX7 4) (wAt_mem (i := 1120) (by decide +kernel)))
  | 8, hq => cases hq; exact u_known (C := RX8) (T := TX8) (N := 2) (n := 2) hts inX8 (hts (.instantiable RX8 2) (wAt_mem (i := 1149) (by decide +kernel)))
  | 9, hq => cases hq; exact u_known (C := RX9) (T := TX9) (N := 1) (n := 1) hts inX9 (hts (.instantiable RX9 1) (wAt_mem (i := 1062) (by decide +kernel)))
  | 10, hq => cases hq; exact u_known (C := RX10) (T := TX10) (N := 11) (n := 11) hts inX10 (hts (.instantiable RX10 11) (wAt_mem (i := 1018) (by decide +kernel)))
  | 11, hq => cases hq; exact u_known (C := RX11) (T := TX11) (N := 42) (n := 42) hts inX11 (hts (.instantiable RX11 42) (wAt_mem (i := 4198) (by decide +kernel)))
  | k + 12, hq => simp [vwCl] at hq
theorem arr_all {s : State} {args : Array Value} {ty : FieldType} (h : (Cond.arrayClass ty).before args s = true) : ∃ cA : ClassId, ArrOfT s cA ty ∧ s.vm.findClass ("[" ++ ty.toString) = some cA := by
  obtain ⟨cA, kA, comp, h1, h2, h3⟩ := Cond.arrayClass_spec h
  exact ⟨cA, fun n z => ⟨fun k h => (by cases h), kA, h2, comp, h3⟩, h1⟩
theorem WP_snd {l : Launch} {base : Nat} {D : va_G} {cA : Nat → ClassId} {ad : Nat → Nat} {b xl : Nat} {xs ys : Nat → Int32} (hG : Gl base ad b xl ys) (hck : ∀ {y pc : Nat} {op : Ap}, fetch y pc = some op → chkb y pc op = true) (hmk : ∀ {z : Nat}, z < NMs → ¬ z = 0 → mOKb z = true)
    {y pc : Nat} {L st : List Value} {sh : List Sh} {n : Nat × Nat} {M : Mm} {Q : Po} (h : WP y pc L st sh n M Q) : XM l base D cA ad b xl xs ys y pc L st sh n M Q :=
  h _ (fun Z hZ y pc L st sh n M Q op hop hex => snd_row hG hck hmk hZ hop hex)
set_option maxHeartbeats 4000000 in
set_option maxRecDepth 20000 in
/-- the law's walk out of the engine's word -/
theorem whole_of (hck : ∀ {y pc : Nat} {op : Ap}, fetch y pc = some op → chkb y pc op = true) (hmk : ∀ {z : Nat}, z < NMs → ¬ z = 0 → mOKb z = true)
    (hlaw : ∀ (L : Nat) (M : Mm), L ≤ 256 → M 1001 0 = nI L → WP 0 0 [.ref 1000, mk, mk, mk] [] [] (0, 0) M (fun v _ _ => v = some (.int 1)))
    {p : Program} {e : Env} {s : State} {m : MethodId} {below : List Frame} {meth : Method} {c : Code} (l : Launch) {b L : Nat} {xs : Nat → Int32} (hL : L ≤ 256) (C0 : lw_At p s m meth c b L xs) : W p l e room_1 s m #[Value.ref b] below meth c s.heap [] 0 0 (lw_Z below #[Value.ref b] s) (entryFrame m ([Value.ref b] : List Value).toArray 4) := by
  obtain ⟨hx, hb, hr, hml, hown, hts, hX, hbl, hlocks, hgv⟩ := id C0
  have hsk : ∀ k : Nat, ∃ f : ClassId × (Nat → Nat), ∀ q : vw_C, vwCl[k]? = some q → u_Kn s q.1 q.2.1 q.2.2 f.1 f.2 := by
    intro k
    cases hq : vwCl[k]? with
    | none => exact ⟨(0, fun _ => 0), fun q h => by cases h⟩
    | some q =>
      obtain ⟨cC, iS, h⟩ := kn_all hts k q hq
      exact ⟨(cC, iS), fun q' h' => by cases h'; exact h⟩
  obtain ⟨f, hf⟩ := Classical.skolem.mp hsk
  obtain ⟨c0, hA0, hN0⟩ := arr_all (hts (.arrayClass .int) (wAt_mem (i := 1050) (by decide +kernel)))
  obtain ⟨c1, hA1, hN1⟩ := arr_all (hts (.arrayClass .boolean) (wAt_mem (i := 1093) (by decide +kernel)))
  have hWk : Wk (fun k => (f k).1, fun k => (f k).2) (fun t => if t = 0 then c0 else c1) s := by
    refine ⟨⟨fun k q hq => hf k q hq, fun k q hq => ?_⟩, fun w hw => va_Nw.of (nw_tab hw) (hts w (List.mem_filter.mp hw).1)⟩
    match k, hq with
    | 0, hq => cases hq; exact ⟨hA0, hN0⟩
    | 1, hq => cases hq; exact ⟨hA1, hN1⟩
    | k + 2, hq => simp [tys2] at hq
  have hl := lv_entry ([.ref b]) (n := 4) (Nat.le_of_ble_eq_true rfl)
  rw [lg_entry_eq]
  generalize (lg_sl ([.ref b]) ++ List.replicate (4 - (lg_sl ([.ref b])).length) Slot.unset).toArray = ls at hl ⊢
  have hWh : Wh s.heap.size (fun k => (f k).1, fun k => (f k).2) (fun t => if t = 0 then c0 else c1) (fun k => if k = 1000 then b else s.heap.size + k) xs (fun _ => nI L) s.heap [] (fun o => if o = 1000 then xs else fun _ => nI L) := by
    refine ⟨Nat.le_refl _, by decide, fun k h1 h2 => ?_, fun k q h => by simp [wl] at h, ⟨fun i j p q h => by simp [wl] at h, fun k q h => by simp [wl] at h⟩, rfl, rfl⟩
    dsimp only
    rw [if_neg (by omega)]
    rfl
  have hG : Gl s.heap.size (fun k => if k = 1000 then b else s.heap.size + k) b L (fun _ => nI L) := ⟨hbl, rfl, rfl, by omega⟩
  refine WP_snd (l := l) hG hck hmk (hlaw L (fun o => if o = 1000 then xs else fun _ => nI L) hL rfl) p e s m #[Value.ref b] below meth c s.heap [] (lw_Z below #[Value.ref b] s) ls ⟨hx, hb, hr, hml, hown, fun w hw => hts w (List.mem_filter.mp hw).1, hlocks, (fun h => by cases h), Nat.le_refl _⟩ hWk hWh hX va_S.rf rfl (lv_le hl ?_) ⟨Nat.zero_le _, Nat.zero_le _⟩ rfl ?_
  · intro q hq
    have := asc_entry (ad := fun k => if k = 1000 then b else s.heap.size + k) (as := [.ref 1000]) (n := 4) ⟨trivial, trivial⟩ q hq
    exact this
  · intro v sh' M' H' locs' pc' ls' hv _ _ hS' _ hrt
    subst hv
    rcases hrt with ⟨h, -⟩ | ⟨x, ty, h, hd, -⟩ | ⟨q, C, h, -⟩
    · cases h
    · refine va_forget (fun q hq => hS'.2.2 q hq) ?_
      exact lw_ret hx hb hr hlocks hd
    · cases h
