/-! what is checked of an instruction's row against the bytes and the tables -/
def tbk (k : Nat) : List Cond := match k with
  | 0 => k2_sels lw_privs
  | 1 => tables_1_1
  | 2 => tables_1_2
  | 3 => tables_1_3
  | 4 => tables_1_4
  | 5 => tables_1_5
  | _ => tables_1_6
def wAt (i : Nat) (w : Cond) : Bool := decide ((tbk (i / 1000))[i % 1000]? = some w)
theorem tbk_in (k : Nat) : ∀ w ∈ tbk k, w ∈ lw_tbl := by
  intro w h
  unfold lw_tbl tables_1
  simp only [List.mem_append]
  unfold tbk at h
  split at h
  · exact Or.inl h
  · exact Or.inr (Or.inl h)
  · exact Or.inr (Or.inr (Or.inl h))
  · exact Or.inr (Or.inr (Or.inr (Or.inl h)))
  · exact Or.inr (Or.inr (Or.inr (Or.inr (Or.inl h))))
  · exact Or.inr (Or.inr (Or.inr (Or.inr (Or.inr (Or.inl h)))))
  · exact Or.inr (Or.inr (Or.inr (Or.inr (Or.inr (Or.inr h)))))
theorem wAt_mem {i : Nat} {w : Cond} (h : wAt i w = true) : w ∈ lw_tbl := tbk_in _ w (List.mem_of_getElem? (of_decide_eq_true h))
def isNest : Cond → Bool
  | .fieldLinkNest .. => true
  | .methodLinkNest .. => true
  | _ => false
noncomputable def GW : List Cond := lw_tbl.filter goodWord
noncomputable def NW : List Cond := lw_tbl.filter isNest
theorem GW_of {i : Nat} {w : Cond} (h : wAt i w = true) (hg : goodWord w = true) : w ∈ GW := List.mem_filter.mpr ⟨wAt_mem h, hg⟩
theorem NW_of {i : Nat} {w : Cond} (h : wAt i w = true) (hg : isNest w = true) : w ∈ NW := List.mem_filter.mpr ⟨wAt_mem h, hg⟩
noncomputable def mW (y : Nat) : List Cond := Cond.code (mN y) (mB y) (mL y) (mT y) :: GW
noncomputable def dcb (y pc : Nat) (i : Instr) (k nx : Nat) : Bool := decide (decode (mB y) pc = .ok (i, k)) && decide (nx = pc + k)
def brb (pc : Nat) (off : Int) (a : Nat) : Bool := decide ((pc : Int) + off = (a : Int))
noncomputable def callb (y z : Nat) : Bool := decide (z < NMs) && decide (¬ z = 0) && decide ((mR z).frames + 1 ≤ (mR y).frames) && decide (8 + (mL z + 11) + (mR z).locals ≤ (mR y).locals)
noncomputable def linkb (y z idx b : Nat) (d : List (Int32 × Nat)) : Bool := match d with
  | [(0, _)] => wAt b (.methodLink (mO y) idx (mN z))
  | [(1, _)] => wAt b (.methodLinkNest (mO y) idx (mN z) "NineBags")
  | _ => false
noncomputable def flinkb (y a k idx : Nat) (d : List (Int32 × Nat)) : Bool := match vwCl[a]? with
  | some (C, T, N) => decide (k < N) && decide ((T k).1 = C) && (match d with
    | (0, w) :: _ => wAt w (.fieldLink (mO y) idx C (T k).2.1 (T k).2.2.1)
    | (1, w) :: _ => wAt w (.fieldLinkNest (mO y) idx C (T k).2.1 (T k).2.2.1 "NineBags")
    | _ => false)
  | none => false
def ftyb (a k t : Nat) : Bool := match vwCl[a]? with
  | some (_, T, _) => if t = 0 then decide (parseFieldDescriptor (T k).2.2.1 = some .int) else if t = 1 then decide (parseFieldDescriptor (T k).2.2.1 = some .boolean) else
    (match parseFieldDescriptor (T k).2.2.1 with | some (.object _) => true | some (.array _) => true | _ => false)
  | none => false
/-- a final field: in a constructor of its own class, by its own link -/
noncomputable def finb (y a k : Nat) (d : List (Int32 × Nat)) : Bool := match vwCl[a]? with
  | some (C, T, _) => !(T k).2.2.2 || (decide (mS y = 2) && decide (C = mO y) && (match d with | q :: _ => decide (q.1 = 0) | [] => false))
  | none => false
noncomputable def chkb (y pc : Nat) (op : Ap) : Bool := match op with
  | (i, nx, a, b, d) => match i with
    | .iconst k => dcb y pc (.iconst k) 1 nx && decide (d = [(Int32.ofInt k, 0)])
    | .bipush k => dcb y pc (.bipush k) 2 nx && decide (d = [((Int8.ofInt k).toInt32, 0)])
    | .sipush k => dcb y pc (.sipush k) 3 nx && decide (d = [((Int16.ofInt k).toInt32, 0)])
    | .ldc k => dcb y pc (.ldc k) 2 nx && (match d with | [(v, _)] => wAt b (.constant (mO y) k v) | _ => false)
    | .ldc_w k => dcb y pc (.ldc_w k) 3 nx && (match d with | [(v, _)] => wAt b (.constant (mO y) k v) | _ => false)
    | .lconst k => dcb y pc (.lconst k) 1 nx && decide (k.val = a)
    | .ldc2_w k => dcb y pc (.ldc2_w k) 3 nx && wAt b (.constantLong (mO y) k (Int64.ofNat a))
    | .iload k => dcb y pc (.iload k) 2 nx
    | .iload_n k => dcb y pc (.iload_n k) 1 nx
    | .lload k => dcb y pc (.lload k) 2 nx
    | .lload_n k => dcb y pc (.lload_n k) 1 nx
    | .aload k => dcb y pc (.aload k) 2 nx
    | .aload_n k => dcb y pc (.aload_n k) 1 nx
    | .istore k => dcb y pc (.istore k) 2 nx && decide (k < mL y)
    | .istore_n k => dcb y pc (.istore_n k) 1 nx && decide (k.val < mL y)
    | .astore k => dcb y pc (.astore k) 2 nx && decide (k < mL y)
    | .astore_n k => dcb y pc (.astore_n k) 1 nx && decide (k.val < mL y)
    | .lstore_n k => dcb y pc (.lstore_n k) 1 nx && decide (k.val + 1 < mL y)
    | .iinc k c => dcb y pc (.iinc k c) 3 nx && decide (k < mL y) && decide (d = [(Int32.ofInt c, 0)])
    | .ifCond c o => dcb y pc (.ifCond c o) 3 nx && brb pc o a
    | .if_icmp c o => dcb y pc (.if_icmp c o) 3 nx && brb pc o a
    | .goto o => dcb y pc (.goto o) 3 nx && brb pc o a
    | .tableswitch dflt lo hi offs => decide (decode (mB y) pc = .ok (.tableswitch dflt lo hi offs, nx - pc)) && brb pc dflt a &&
        d.all (fun q => decide (¬ q.1.toInt < lo) && decide (¬ hi < q.1.toInt) && (match offs[(q.1.toInt - lo).toNat]? with | some off => brb pc off q.2 | none => false)) &&
        (List.range (hi - lo + 1).toNat).all (fun j => d.any (fun q => decide (q.1.toInt = lo + (j : Int))))
    | .lookupswitch dflt ps => decide (decode (mB y) pc = .ok (.lookupswitch dflt ps, nx - pc)) && brb pc dflt a &&
        (ps.toList.zip (ps.toList.drop 1)).all (fun (a, next) => a.1 < next.1) &&
        decide (d.length = ps.toList.length) && (d.zip ps.toList).all (fun q => decide (q.1.1.toInt = q.2.1) && brb pc q.2.2 q.1.2)
    | .getfield k => dcb y pc (.getfield k) 3 nx && flinkb y a b k d
    | .putfield k => dcb y pc (.putfield k) 3 nx && flinkb y a b k d && (match d with | [_, (_, t)] => decide (t ≤ 2) && ftyb a b t | _ => false) && finb y a b d
    | .new k => dcb y pc (.new k) 3 nx && (match vwCl[a]?, d with
        | some (C, _, N), [(_, i1), (_, i2)] => wAt b (.classLink (mO y) k C) && wAt i1 (.instantiable C N) && wAt i2 (.initialized C)
        | _, _ => false)
    | .newarray t => dcb y pc (.newarray t) 2 nx && (decide (t = .int ∧ a = 0) || decide (t = .boolean ∧ a = 1)) && wAt b (.arrayClass (newarray.typeOf t))
    | .invokevirtual k => dcb y pc (.invokevirtual k) 3 nx && callb y a && decide (mS a = 0) && linkb y a k b d
    | .invokestatic k => dcb y pc (.invokestatic k) 3 nx && (if a = 9998 then wAt b (.methodLink (mO y) k arraycopyName) && decide (1 ≤ (mR y).frames) && decide (60 ≤ (mR y).locals) else if a = 9997 then wAt b (.methodLink (mO y) k Lib.Math.max.name) && decide (1 ≤ (mR y).frames) && decide (60 ≤ (mR y).locals) else if a = 9996 then wAt b (.methodLink (mO y) k Lib.Math.min.name) && decide (1 ≤ (mR y).frames) && decide (60 ≤ (mR y).locals) else callb y a && decide (mS a = 1) && linkb y a k b d)
    | .invokespecial k => dcb y pc (.invokespecial k) 3 nx && (if a = 9999 then wAt b (.methodLink (mO y) k Lib.objectInit) && decide (1 ≤ (mR y).frames) && decide (20 ≤ (mR y).locals) else callb y a && decide (mS a = 2) && linkb y a k b d)
    | .ireturn => dcb y pc .ireturn 1 nx
    | .areturn => dcb y pc .areturn 1 nx && (match mT y with | some (.object _) => true | _ => false)
    | .return_ => dcb y pc .return_ 1 nx && decide (mT y = none)
    | i => dcb y pc i 1 nx
/-- what is checked of a method -/
noncomputable def mOKb (z : Nat) : Bool :=
  wAt (mX z).1 (.code (mN z) (mB z) (mL z) (mT z)) && decide ((mN z).cls = mO z) && plainName (mN z).cls && decide ((mN z).cls ≠ "java/lang/invoke/MethodHandle") && decide ((mN z).cls ≠ "java/lang/invoke/VarHandle") &&
  decide ((parseMethodDescriptor (mN z).desc).map (fun d => d.parameters.length) = some (mA z)) && decide ((mR z).cells = (mC z).1) && decide ((mR z).slots = (mC z).2) && wAt (mX z).2.2.2 (.initialized (mO z)) &&
  (match mS z with
   | 0 => wAt (mX z).2.1 (.instanceMethod (mN z)) && wAt (mX z).2.2.1 (.selects (mO z) (mN z) (mN z)) && (match vwCl[mK z]? with | some (C, _, _) => decide (C = mO z) | none => false)
   | 1 => wAt (mX z).2.1 (.static (mN z))
   | 2 => wAt (mX z).2.1 (.instanceMethod (mN z)) && decide ((mN z).name = "<init>") && decide (mT z = none)
   | _ => false)
