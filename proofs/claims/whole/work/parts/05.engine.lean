/-! THE ENGINE: what one instruction asks, over shapes and numbers -/
abbrev Sh : Type := (Nat × Nat) ⊕ (Nat × List Value)
abbrev Mm : Type := Nat → Nat → Int32
abbrev Po : Type := Option Value → List Sh → Mm → Prop
abbrev XP : Type := Nat → Nat → List Value → List Value → List Sh → Nat × Nat → Mm → Po → Prop
/-- a local that holds nothing -/
abbrev mk : Value := .retAddr 0
def up (M : Mm) (o k : Nat) (x : Int32) : Mm := fun a => if a = o then upd (M o) k x else M a
def zr (M : Mm) (o : Nat) : Mm := fun a => if a = o then (fun _ => 0) else M a
def cpm (M : Mm) (a0 a1 s d n : Nat) : Mm := fun a => if a = a1 then va_cpy (M a0) (M a1) s d n else M a
/-- field k of the object o of class c -/
def gf (sh : List Sh) (o c k : Nat) : Option Value := match sh[o]? with
  | some (.inr (c', fs)) => bif Nat.beq c' c then fs[k]? else none
  | _ => none
def aln (sh : List Sh) (a : Nat) : Option (Nat × Nat) := match sh[a]? with
  | some (.inl q) => some q
  | _ => none
def isC (sh : List Sh) (o c : Nat) : Prop := match sh[o]? with
  | some (.inr (c', _)) => c' = c
  | _ => False
def stf (sh : List Sh) (o k : Nat) (v : Value) : List Sh := match sh[o]? with
  | some (.inr (c, fs)) => sh.set o (.inr (c, fs.set k v))
  | _ => sh
def un : Value → Value
  | .long _ => mk
  | .double _ => mk
  | v => v
def sto : Nat → Value → List Value → List Value
  | 0, v, _ :: L => v :: L
  | 1, v, x0 :: _ :: L => un x0 :: v :: L
  | k + 2, v, x0 :: L => x0 :: sto (k + 1) v L
  | _, _, L => L
def ok4 : List Value → Prop
  | [] => True
  | [_] => True
  | [_, _] => True
  | [_, _, _] => True
  | [_, _, _, _] => True
  | _ => False
-- the pieces of which the rows are made
def kI (st : List Value) (K : Int32 → List Value → Prop) : Prop := match st with
  | .int x :: r => K x r
  | _ => False
def kJ (st : List Value) (K : Int64 → List Value → Prop) : Prop := match st with
  | .long x :: r => K x r
  | _ => False
def kR (st : List Value) (K : Nat → List Value → Prop) : Prop := match st with
  | .ref x :: r => K x r
  | _ => False
def lI (o : Option Value) (K : Int32 → Prop) : Prop := match o with
  | some (.int x) => K x
  | _ => False
def lJ (o : Option Value) (K : Int64 → Prop) : Prop := match o with
  | some (.long x) => K x
  | _ => False
def lR (o : Option Value) (K : Nat → Prop) : Prop := match o with
  | some (.ref x) => K x
  | _ => False
def kd (d : List (Int32 × Nat)) (K : Int32 → Prop) : Prop := match d with
  | (v, _) :: _ => K v
  | [] => False
/-- what a field gives -/
def gv (o : Option Value) (x : Int32) (K : Value → Prop) : Prop := match o with
  | some (.int _) => K (.int x)
  | some (.ref q) => K (.ref q)
  | _ => False
def av (o : Option (Nat × Nat)) (t : Nat) (i : Int32) (K : Prop) : Prop := match o with
  | some (t', n) => t' = t ∧ vp_in i n ∧ K
  | none => False
def al (o : Option (Nat × Nat)) (K : Nat → Prop) : Prop := match o with
  | some (0, k) => K k
  | _ => False
def sw (d : List (Int32 × Nat)) (a : Nat) (x : Int32) (K : Nat → Prop) : Prop := match d with
  | [] => K a
  | (v, t) :: r => if x = v then K t else sw r a x K
/-- n operands off the stack, the first pushed first -/
def pop : Nat → List Value → List Value → (List Value → List Value → Prop) → Prop
  | 0, st, acc, K => K acc st
  | n + 1, v :: st, acc, K => pop n st (v :: acc) K
  | _ + 1, [], _, _ => False
/-- the callee's locals: what is passed, then nothing -/
def enl : List Value → List Value
  | [] => []
  | .long x :: r => .long x :: mk :: enl r
  | .double x :: r => .double x :: mk :: enl r
  | v :: r => v :: enl r
def pad : Nat → List Value → List Value
  | 0, _ => []
  | n + 1, [] => mk :: pad n []
  | n + 1, v :: r => v :: pad n r
def okv : Value → Prop
  | .int _ => True
  | .long _ => True
  | .ref _ => True
  | _ => False
def okvs : List Value → Prop
  | [] => True
  | v :: r => okv v ∧ okvs r
/-- a call of method z: Y is the callee, X goes on behind it -/
def kc (X : XP) (z y nx : Nat) (L : List Value) (sh : List Sh) (n : Nat × Nat) (M : Mm) (Q : Po) (as rest : List Value) : Prop :=
  okvs as ∧ (enl as).length ≤ mL z ∧ (n.1 + (mC z).1 ≤ (mR y).cells ∧ n.2 + (mC z).2 ≤ (mR y).slots) ∧ ok4 rest ∧ X z 0 (pad (mL z) (enl as)) [] sh (0, 0) M (fun v sh' M' => X y nx L (v.toList ++ rest) sh' (n.1 + (mC z).1, n.2 + (mC z).2) M' Q)
def rz (ty : Option FieldType) (x : Int32) (K : Prop) : Prop := match ty with
  | some .int => K
  | some .boolean => (x = 0 ∨ x = 1) ∧ K
  | _ => False
def ex1 (X : XP) (op : Ap) (y : Nat) (L st : List Value) (sh : List Sh) (n : Nat × Nat) (M : Mm) (Q : Po) : Prop :=
  match op with
  | (i, nx, a, b, d) => match i with
    | .iconst _ => kd d fun v => X y nx L (.int v :: st) sh n M Q
    | .bipush _ => kd d fun v => X y nx L (.int v :: st) sh n M Q
    | .sipush _ => kd d fun v => X y nx L (.int v :: st) sh n M Q
    | .ldc _ => kd d fun v => X y nx L (.int v :: st) sh n M Q
    | .ldc_w _ => kd d fun v => X y nx L (.int v :: st) sh n M Q
    | .lconst _ => X y nx L (.long (Int64.ofNat a) :: st) sh n M Q
    | .ldc2_w _ => X y nx L (.long (Int64.ofNat a) :: st) sh n M Q
    | .iload k => lI L[k]? fun x => X y nx L (.int x :: st) sh n M Q
    | .iload_n k => lI L[k.val]? fun x => X y nx L (.int x :: st) sh n M Q
    | .lload k => lJ L[k]? fun x => X y nx L (.long x :: st) sh n M Q
    | .lload_n k => lJ L[k.val]? fun x => X y nx L (.long x :: st) sh n M Q
    | .aload k => lR L[k]? fun x => X y nx L (.ref x :: st) sh n M Q
    | .aload_n k => lR L[k.val]? fun x => X y nx L (.ref x :: st) sh n M Q
    | .istore k => kI st fun x r => X y nx (sto k (.int x) L) r sh n M Q
    | .istore_n k => kI st fun x r => X y nx (sto k.val (.int x) L) r sh n M Q
    | .astore k => kR st fun x r => X y nx (sto k (.ref x) L) r sh n M Q
    | .astore_n k => kR st fun x r => X y nx (sto k.val (.ref x) L) r sh n M Q
    | .lstore_n k => kJ st fun x r => X y nx (sto k.val (.long x) (sto (k.val + 1) mk L)) r sh n M Q
    | .iinc k c => lI L[k]? fun x => kd d fun v => X y nx (sto k (.int (x + v)) L) st sh n M Q
    | .iadd => kI st fun v r => kI r fun u r => X y nx L (.int (u + v) :: r) sh n M Q
    | .isub => kI st fun v r => kI r fun u r => X y nx L (.int (u - v) :: r) sh n M Q
    | .imul => kI st fun v r => kI r fun u r => X y nx L (.int (u * v) :: r) sh n M Q
    | .iand => kI st fun v r => kI r fun u r => X y nx L (.int (u &&& v) :: r) sh n M Q
    | .ior => kI st fun v r => kI r fun u r => X y nx L (.int (u ||| v) :: r) sh n M Q
    | .idiv => kI st fun v r => kI r fun u r => ¬ v = 0 ∧ X y nx L (.int (u / v) :: r) sh n M Q
    | .irem => kI st fun v r => kI r fun u r => ¬ v = 0 ∧ X y nx L (.int (u - u / v * v) :: r) sh n M Q
    | .ishl => kI st fun v r => kI r fun u r => X y nx L (.int (u <<< (v &&& 31)) :: r) sh n M Q
    | .ishr => kI st fun v r => kI r fun u r => X y nx L (.int (u >>> (v &&& 31)) :: r) sh n M Q
    | .iushr => kI st fun v r => kI r fun u r => X y nx L (.int (u.toUInt32 >>> (v.toUInt32 &&& Int32.toUInt32 31)).toInt32 :: r) sh n M Q
    | .ladd => kJ st fun v r => kJ r fun u r => X y nx L (.long (u + v) :: r) sh n M Q
    | .lmul => kJ st fun v r => kJ r fun u r => X y nx L (.long (u * v) :: r) sh n M Q
    | .land => kJ st fun v r => kJ r fun u r => X y nx L (.long (u &&& v) :: r) sh n M Q
    | .ldiv => kJ st fun v r => kJ r fun u r => ¬ v = 0 ∧ X y nx L (.long (u / v) :: r) sh n M Q
    | .lrem => kJ st fun v r => kJ r fun u r => ¬ v = 0 ∧ X y nx L (.long (u - u / v * v) :: r) sh n M Q
    | .lcmp => kJ st fun v r => kJ r fun u r => X y nx L (.int (lg_cmp u v) :: r) sh n M Q
    | .i2l => kI st fun v r => X y nx L (.long v.toInt64 :: r) sh n M Q
    | .l2i => kJ st fun v r => X y nx L (.int v.toInt32 :: r) sh n M Q
    | .dup => (kI st fun v r => X y nx L (.int v :: .int v :: r) sh n M Q) ∨ (kR st fun v r => X y nx L (.ref v :: .ref v :: r) sh n M Q)
    | .dup2 => kI st fun v r => kR r fun u r => X y nx L (.int v :: .ref u :: .int v :: .ref u :: r) sh n M Q
    | .ifCond .eq _ => kI st fun x r => if x = 0 then X y a L r sh n M Q else X y nx L r sh n M Q
    | .ifCond .ne _ => kI st fun x r => if x = 0 then X y nx L r sh n M Q else X y a L r sh n M Q
    | .ifCond .lt _ => kI st fun x r => if x < 0 then X y a L r sh n M Q else X y nx L r sh n M Q
    | .ifCond .ge _ => kI st fun x r => if x < 0 then X y nx L r sh n M Q else X y a L r sh n M Q
    | .ifCond .gt _ => kI st fun x r => if 0 < x then X y a L r sh n M Q else X y nx L r sh n M Q
    | .ifCond .le _ => kI st fun x r => if 0 < x then X y nx L r sh n M Q else X y a L r sh n M Q
    | .if_icmp .eq _ => kI st fun v r => kI r fun u r => if u = v then X y a L r sh n M Q else X y nx L r sh n M Q
    | .if_icmp .ne _ => kI st fun v r => kI r fun u r => if u = v then X y nx L r sh n M Q else X y a L r sh n M Q
    | .if_icmp .lt _ => kI st fun v r => kI r fun u r => if u < v then X y a L r sh n M Q else X y nx L r sh n M Q
    | .if_icmp .ge _ => kI st fun v r => kI r fun u r => if u < v then X y nx L r sh n M Q else X y a L r sh n M Q
    | .if_icmp .gt _ => kI st fun v r => kI r fun u r => if v < u then X y a L r sh n M Q else X y nx L r sh n M Q
    | .if_icmp .le _ => kI st fun v r => kI r fun u r => if v < u then X y nx L r sh n M Q else X y a L r sh n M Q
    | .goto _ => X y a L st sh n M Q
    | .tableswitch _ _ _ _ => kI st fun x r => sw d a x fun t => X y t L r sh n M Q
    | .lookupswitch _ _ => kI st fun x r => sw d a x fun t => X y t L r sh n M Q
    | .getfield _ => kR st fun o r => gv (gf sh o a b) (M o b) fun v => X y nx L (v :: r) sh n M Q
    | .putfield _ => match d with
      | [_, (_, 0)] => kI st fun x r => kR r fun o r => gf sh o a b = some (.int 0) ∧ X y nx L r sh n (up M o b x) Q
      | [_, (_, 1)] => kI st fun x r => kR r fun o r => gf sh o a b = some (.int 0) ∧ (x = 0 ∨ x = 1) ∧ X y nx L r sh n (up M o b x) Q
      | [_, (_, 2)] => kR st fun q r => kR r fun o r => (gf sh o a b = some .null ∨ ∃ q0, gf sh o a b = some (.ref q0)) ∧ X y nx L r (stf sh o b (.ref q)) n M Q
      | _ => False
    | .iaload => kI st fun i r => kR r fun o r => if y = 0 then (o = 1000 ∧ vp_in i (M 1001 0).toNatClampNeg ∧ X y nx L (.int (M o i.toNatClampNeg) :: r) sh n M Q) else av (aln sh o) 0 i (X y nx L (.int (M o i.toNatClampNeg) :: r) sh n M Q)
    | .baload => kI st fun i r => kR r fun o r => av (aln sh o) 1 i (X y nx L (.int (M o i.toNatClampNeg) :: r) sh n M Q)
    | .iastore => kI st fun x r => kI r fun i r => kR r fun o r => av (aln sh o) 0 i (X y nx L r sh n (up M o i.toNatClampNeg x) Q)
    | .bastore => kI st fun x r => kI r fun i r => kR r fun o r => av (aln sh o) 1 i ((x = 0 ∨ x = 1) ∧ X y nx L r sh n (up M o i.toNatClampNeg x) Q)
    | .arraylength => kR st fun o r => if y = 0 then (o = 1000 ∧ X y nx L (.int (M 1001 0) :: r) sh n M Q) else (al (aln sh o) fun k => X y nx L (.int (nI k) :: r) sh n M Q)
    | .new _ => n.1 + 1 ≤ (mR y).cells ∧ n.2 + (fsOf a).length ≤ (mR y).slots ∧ sh.length + 1 ≤ 500 ∧ X y nx L (.ref sh.length :: st) (sh ++ [.inr (a, fsOf a)]) (n.1 + 1, n.2 + (fsOf a).length) (zr M sh.length) Q
    | .newarray _ => kI st fun k r => ¬ k < 0 ∧ k.toNatClampNeg ≤ 10000 ∧ n.1 + 1 ≤ (mR y).cells ∧ n.2 + k.toNatClampNeg ≤ (mR y).slots ∧ sh.length + 1 ≤ 500 ∧ X y nx L (.ref sh.length :: r) (sh ++ [.inl (a, k.toNatClampNeg)]) (n.1 + 1, n.2 + k.toNatClampNeg) (zr M sh.length) Q
    | .invokevirtual _ => pop (mA a) st [] fun as r => kR r fun o r => isC sh o (mK a) ∧ kc X a y nx L sh n M Q (.ref o :: as) r
    | .invokestatic _ => if a = 9998 then (kI st fun k r => kI r fun dp r => kR r fun a1 r => kI r fun sp r => kR r fun a0 r => ok4 r ∧ ¬ sp < 0 ∧ ¬ dp < 0 ∧ ¬ k < 0 ∧ (∃ n0 n1, aln sh a0 = some (0, n0) ∧ aln sh a1 = some (0, n1) ∧ sp.toNatClampNeg + k.toNatClampNeg ≤ n0 ∧ dp.toNatClampNeg + k.toNatClampNeg ≤ n1) ∧ X y nx L r sh n (cpm M a0 a1 sp.toNatClampNeg dp.toNatClampNeg k.toNatClampNeg) Q)
        else if a = 9997 then (kI st fun v r => kI r fun u r => ok4 r ∧ X y nx L (.int (if u < v then v else u) :: r) sh n M Q)
        else if a = 9996 then (kI st fun v r => kI r fun u r => ok4 r ∧ X y nx L (.int (if v < u then v else u) :: r) sh n M Q)
        else pop (mA a) st [] fun as r => kc X a y nx L sh n M Q as r
    | .invokespecial _ => if a = 9999 then (kR st fun _ r => ok4 r ∧ X y nx L r sh n M Q) else pop (mA a) st [] fun as r => kR r fun o r => kc X a y nx L sh n M Q (.ref o :: as) r
    | .ireturn => st.length = 1 ∧ n = mC y ∧ kI st fun x _ => rz (mT y) x (Q (some (.int x)) sh M)
    | .areturn => st.length = 1 ∧ n = mC y ∧ kR st fun x _ => Q (some (.ref x)) sh M
    | .return_ => st = [] ∧ n = mC y ∧ Q none sh M
    | _ => False
/-- from here the method comes to its end, and there Q holds -/
def WP : XP := fun y pc L st sh n M Q => ∀ X : XP, (∀ (Z : XP), (∀ y pc L st sh n M Q, Z y pc L st sh n M Q → X y pc L st sh n M Q) → ∀ (y pc : Nat) (L st : List Value) (sh : List Sh) (n : Nat × Nat) (M : Mm) (Q : Po) (op : Ap), fetch y pc = some op → ex1 Z op y L st sh n M Q → X y pc L st sh n M Q) → X y pc L st sh n M Q
theorem WP.fold {y pc : Nat} {L st : List Value} {sh : List Sh} {n : Nat × Nat} {M : Mm} {Q : Po} {op : Ap} (h : fetch y pc = some op) (he : ex1 WP op y L st sh n M Q) : WP y pc L st sh n M Q :=
  fun X hX => hX WP (fun y pc L st sh n M Q hw => hw X hX) y pc L st sh n M Q op h he
