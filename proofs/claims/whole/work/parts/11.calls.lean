/-! the engine is sound: calls -/
section SO
variable {l : Launch} {base : Nat} {D : va_G} {cA : Nat → ClassId} {ad : Nat → Nat} {b xl : Nat} {xs ys : Nat → Int32}
def PC (base : Nat) (D : va_G) (cA : Nat → ClassId) (ad : Nat → Nat) (b xl : Nat) (xs ys : Nat → Int32) (as : List Value) (sh : List Sh) (M : Mm) : Array Value → State → Prop := va_Pc (as.map (cv ad)) (fun U => Wk D cA U ∧ Wh base D cA ad xs ys U.heap sh M ∧ va_X b xl xs U U.heap)
def QC (base : Nat) (D : va_G) (cA : Nat → ClassId) (ad : Nat → Nat) (xs ys : Nat → Int32) (k : Nat) (Q : Po) : Array Value → State → Outcome → State → Prop := fun _ st o t => (∃ (v : Option Value) (sh' : List Sh) (M' : Mm), o = .returned (v.map (cv ad)) ∧ Q v sh' M' ∧ Wh base D cA ad xs ys t.heap sh' M' ∧ t.heap.size = st.heap.size + k) ∧ va_F (Ab base) st t
theorem nw_tab {w : Cond} (h : w ∈ NW) : w.onTables = true := by
  have := (List.mem_filter.mp h).2
  unfold isNest at this
  split at this
  · rfl
  · rfl
  · cases this
theorem Wk.moved {s U : State} (hW : s.WarmedH U.vm) (h : Wk D cA s) : Wk D cA U := by
  refine ⟨va_K.moved hW.alike h.1, fun w hw => ?_⟩
  have hi := (List.mem_filter.mp hw).2
  have hs := h.2 w hw
  unfold isNest at hi
  split at hi
  · exact va_Nw.warmF hW hs
  · exact va_Nw.warmM hW hs
  · cases hi
theorem PC.blind {as : List Value} {sh : List Sh} {M : Mm} : FrameBlind (PC base D cA ad b xl xs ys as sh M) := by
  intro a U g mk' h
  obtain ⟨h1, ⟨h2, h3⟩, h4, h5⟩ := h
  exact ⟨h1, ⟨va_K.moved (u := U) (U := U.calling g mk' a) (Vm.Alike.refl U.vm) h2, fun w hw => va_Nw.same (u := U) (U := U.calling g mk' a) (nw_tab hw) rfl (h3 w hw)⟩, h4, va_X.moved (u := U) (U := U.calling g mk' a) (Vm.Alike.refl U.vm) h5⟩
theorem PC.at {as : List Value} {sh : List Sh} {M : Mm} {s : State} {H : Heap} (hk : Wk D cA s) (hh : Wh base D cA ad xs ys H sh M) (hx : va_X b xl xs s H) : ∀ U : State, U.heap = H → s.WarmedH U.vm → PC base D cA ad b xl xs ys as sh M (as.map (cv ad)).toArray U := by
  intro U hU hW
  refine ⟨rfl, hk.moved hW, by rw [hU]; exact hh, ?_⟩
  rw [hU]
  exact va_X.moved hW.alike hx
/-- a method's contract out of the engine's word at its entry -/
theorem met_of {z : Nat} {as : List Value} {sh : List Sh} {M : Mm} {Q : Po} (hz : mOKb z = true) (h1 : okvs as) (h2 : (enl as).length ≤ mL z)
    (h : XM l base D cA ad b xl xs ys z 0 (pad (mL z) (enl as)) [] sh (0, 0) M Q) : Met l (mN z) (mW z) (mR z) (PC base D cA ad b xl xs ys as sh M) (QC base D cA ad xs ys (mC z).1 Q) (mC z).1 (mC z).2 (Ab base) := by
  simp only [mOKb, Bool.and_eq_true, decide_eq_true_eq] at hz
  obtain ⟨⟨⟨⟨⟨⟨⟨⟨⟨hcode, hcls⟩, hpl⟩, -⟩, -⟩, -⟩, hrc⟩, hrs⟩, -⟩, hkind⟩ := hz
  refine Met.ofW (cc := mB z) (maxL := mL z) (ret := mT z) hpl rfl ?_
  intro p e s m args below meth c s₁ B hml hv
  obtain ⟨rfl, hWk, hWh, hX⟩ := hv
  have hx := B.exec
  have hb := B.bytes
  have hr := B.returns
  have hts : ∀ w ∈ GW, w.before (as.map (cv ad)).toArray s = true := fun w hw => atoms_spec (ws := mW z) B.pre w (List.mem_cons_of_mem _ hw)
  have hown : s.vm.findClass (mO z) = some m.cls := by rw [← hcls]; exact findClass_of_methodNamed B.named
  have hlocks := B.notSynchronized
  have hin : mS z = 2 → meth.name = "<init>" := by
    intro hs
    rw [hs] at hkind
    simp only [Bool.and_eq_true, decide_eq_true_eq] at hkind
    rw [(name_of_methodNamed B.named B.method).1, hkind.1.2]
  have hl := lv_entry (as.map (cv ad)) (n := mL z) (by rw [enl_sl ad as h1]; exact h2)
  rw [lg_entry_eq]
  generalize (lg_sl (as.map (cv ad)) ++ List.replicate (mL z - (lg_sl (as.map (cv ad))).length) Slot.unset).toArray = ls at hl ⊢
  refine h p e s m _ below meth c s.heap [] _ ls ⟨hx, hb, hr, hml, hown, hts, hlocks, hin, hWh.1⟩ hWk hWh hX va_S.rf (pad_len _ _) (lv_le hl (asc_entry h1)) ⟨Nat.zero_le _, Nat.zero_le _⟩ rfl ?_
  intro v sh' M' H' locs' pc' ls' hQ hWh' hX' hS' hsz hrt
  have hq : ∀ t : State, t.heap = H' → QC base D cA ad xs ys (mC z).1 Q (as.map (cv ad)).toArray s (.returned (v.map (cv ad))) t := fun t ht => ⟨⟨v, sh', M', rfl, hQ, by rw [ht]; exact hWh', by rw [ht]; exact hsz⟩, hS'.F ht⟩
  rcases hrt with ⟨rfl, hd, hT⟩ | ⟨x, ty, rfl, hd, hT, hn⟩ | ⟨q, C, rfl, hd, hT⟩
  · exact W.vret hx hb (by rw [hr, hT]) (fun t ht _ => hq t ht) hS'.2.2 hd
  · exact W.zret hx hb (by rw [hr, hT]) hn (fun t ht _ => hq t ht) hS'.2.2 hd
  · exact W.aret hx hb (by rw [hr, hT]) (Or.inl ⟨C, rfl⟩) (Or.inr ⟨_, rfl⟩) (fun t ht _ => hq t ht) hS'.2.2 hd
/-- behind a call -/
theorem call_W {p : Program} {e : Env} {R : Room} {s : State} {m : MethodId} {args : Array Value} {below : List Frame} {meth : Method} {c : Code} {H : Heap} {locs : List Loc} {cells slots mc ms : Nat} {Z : State → Prop} {pc : Nat} {ls : Array Slot} {st0 rest : List Value} {a : Array Value} {Q : Po}
    (hr : va_Run p l e R s m args below meth c H locs cells slots mc ms (F0 m pc ls st0) rest (QC base D cA ad xs ys mc Q a) (Ab base)) (hS : va_S (Ab base) s.heap H locs) (hX : va_X b xl xs s H) (hbb : b < base) (hbH : base ≤ H.size)
    (kk : ∀ (v : Option Value) (sh' : List Sh) (M' : Mm) (H1 : Heap) (locs1 : List Loc), Q v sh' M' → Wh base D cA ad xs ys H1 sh' M' → va_X b xl xs s H1 → va_S (Ab base) s.heap H1 locs1 → H1.size = H.size + mc → W p l e R s m args below meth c H1 locs1 (cells + mc) (slots + ms) Z (F0 m (pc + 3) ls ((v.map (cv ad)).toList ++ rest))) :
    W p l e R s m args below meth c H locs cells slots Z (F0 m pc ls st0) := by
  intro T hT X
  obtain ⟨v, st₀, t, T', L, h0, X', hL, e1, e2, ⟨⟨v', sh', M', hv, hq, hWh, hsz⟩, hz, hk⟩, st⟩ := hr T hT X
  cases hv
  rw [h0] at hz hk hsz
  obtain ⟨t2, a1, b1⟩ := kk v' sh' M' T'.heap (locs ++ L) hq (by rw [e1]; exact hWh) (hX.kept (by rw [e1]; exact hk b (by omega) (by unfold Ab; omega)))
    ⟨Nat.le_trans hS.1 (by rw [e1]; exact hz), fun q h1 h2 => by rw [e1, hk q (Nat.lt_of_lt_of_le h1 hS.1) h2]; exact hS.2.1 q h1 h2, fun q hq => by
      rcases List.mem_append.mp hq with h | h
      · exact hS.2.2 q h
      · exact hL q h⟩ (by rw [e1]; exact hsz) T' rfl X'
  exact ⟨t2, st t2 a1, b1⟩
/-- the words of a call -/
theorem callB_w {y z idx w : Nat} {s : State} {args : Array Value} (hts : ∀ w ∈ GW, w.before args s = true) (hz : mOKb z = true) (hc : callb y z = true) (hl : wAt w (.methodLink (mO y) idx (mN z)) = true) : CallB (mR y) s args (mO y) idx (mN z) (mB z) (mL z) (mT z) (mW z) (mR z) (mC z).1 (mC z).2 (mA z) := by
  have hG := goodW z hz
  simp only [mOKb, Bool.and_eq_true, decide_eq_true_eq] at hz
  obtain ⟨⟨⟨⟨⟨⟨⟨⟨⟨hcode, hcls⟩, hpl⟩, hm1⟩, hm2⟩, hpar⟩, hrc⟩, hrs⟩, hini⟩, hkind⟩ := hz
  simp only [callb, Bool.and_eq_true, decide_eq_true_eq] at hc
  exact callB_of (mA z) hts hG rfl hrc hrs (by rw [hcls]; exact hts _ (GW_of hini rfl)) (hts _ (GW_of hl rfl)) ⟨hm1, hm2, hpar⟩ ⟨hc.1.2, hc.2⟩
theorem callN_w {y z idx w : Nat} {s : State} {args : Array Value} (hts : ∀ w ∈ GW, w.before args s = true) (hnw : ∀ w ∈ NW, va_Nw w s) (hz : mOKb z = true) (hc : callb y z = true) (hl : wAt w (.methodLinkNest (mO y) idx (mN z) "NineBags") = true) : va_CN (mR y) s args (mO y) idx (mN z) "NineBags" (mB z) (mL z) (mT z) (mW z) (mR z) (mC z).1 (mC z).2 (mA z) := by
  have hG := goodW z hz
  simp only [mOKb, Bool.and_eq_true, decide_eq_true_eq] at hz
  obtain ⟨⟨⟨⟨⟨⟨⟨⟨⟨hcode, hcls⟩, hpl⟩, hm1⟩, hm2⟩, hpar⟩, hrc⟩, hrs⟩, hini⟩, hkind⟩ := hz
  simp only [callb, Bool.and_eq_true, decide_eq_true_eq] at hc
  exact va_cnB (mA z) hts hG rfl hrc hrs (hnw _ (NW_of hl rfl)) (by rw [hcls]; exact hts _ (GW_of hini rfl)) ⟨hm1, hm2, hpar⟩ ⟨hc.1.2, hc.2⟩
theorem linkb_inv {y z idx w : Nat} {d : List (Int32 × Nat)} (h : linkb y z idx w d = true) : wAt w (.methodLink (mO y) idx (mN z)) = true ∨ wAt w (.methodLinkNest (mO y) idx (mN z) "NineBags") = true := by
  unfold linkb at h
  split at h
  · exact Or.inl h
  · exact Or.inr h
  · cases h
end SO
