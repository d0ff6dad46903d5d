/-! the rows, an equation each: helpers -/
theorem ckc {X : XP} {z y nx : Nat} {L : List Value} {sh : List Sh} {n : Nat × Nat} {M : Mm} {Q : Po} {as rest : List Value} (h1 : okvs as) (h2 : (enl as).length ≤ mL z) (h3 : n.1 + (mC z).1 ≤ (mR y).cells ∧ n.2 + (mC z).2 ≤ (mR y).slots) :
    kc X z y nx L sh n M Q as rest = (ok4 rest ∧ X z 0 (pad (mL z) (enl as)) [] sh (0, 0) M (fun v sh' M' => X y nx L (v.toList ++ rest) sh' (n.1 + (mC z).1, n.2 + (mC z).2) M' Q)) :=
  propext ⟨fun h => h.2.2.2, fun h => ⟨h1, h2, h3, h⟩⟩
theorem rret {A B C : Prop} (h1 : A) (h2 : B) : (A ∧ B ∧ C) = C := propext ⟨fun h => h.2.2, fun h => ⟨h1, h2, h⟩⟩
theorem gv_int (z x : Int32) (K : Value → Prop) : gv (some (.int z)) x K = K (.int x) := rfl
theorem gv_ref (q : Nat) (x : Int32) (K : Value → Prop) : gv (some (.ref q)) x K = K (.ref q) := rfl
theorem av_some (t n : Nat) (i : Int32) (K : Prop) : av (some (t, n)) t i K = (vp_in i n ∧ K) := propext ⟨fun h => h.2, fun h => ⟨rfl, h⟩⟩
theorem al_some (n : Nat) (K : Nat → Prop) : al (some (0, n)) K = K n := rfl
theorem un_int (x : Int32) : un (.int x) = .int x := rfl
theorem un_ref (x : Nat) : un (.ref x) = .ref x := rfl
theorem un_mk : un mk = mk := rfl
theorem ok4_0 : ok4 [] = True := rfl
theorem ok4_1 (a : Value) : ok4 [a] = True := rfl
theorem ok4_2 (a b : Value) : ok4 [a, b] = True := rfl
theorem ok4_3 (a b c : Value) : ok4 [a, b, c] = True := rfl
theorem ok4_4 (a b c d : Value) : ok4 [a, b, c, d] = True := rfl
