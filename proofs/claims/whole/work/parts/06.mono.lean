/-! a row asks no less of less: so WP is what its rows say -/
theorem kI_m {st : List Value} {K K' : Int32 → List Value → Prop} (h : ∀ x r, K x r → K' x r) (k : kI st K) : kI st K' := by
  unfold kI at k ⊢; split at k
  · exact h _ _ k
  · exact k.elim
theorem kJ_m {st : List Value} {K K' : Int64 → List Value → Prop} (h : ∀ x r, K x r → K' x r) (k : kJ st K) : kJ st K' := by
  unfold kJ at k ⊢; split at k
  · exact h _ _ k
  · exact k.elim
theorem kR_m {st : List Value} {K K' : Nat → List Value → Prop} (h : ∀ x r, K x r → K' x r) (k : kR st K) : kR st K' := by
  unfold kR at k ⊢; split at k
  · exact h _ _ k
  · exact k.elim
theorem lI_m {o : Option Value} {K K' : Int32 → Prop} (h : ∀ x, K x → K' x) (k : lI o K) : lI o K' := by
  unfold lI at k ⊢; split at k
  · exact h _ k
  · exact k.elim
theorem lJ_m {o : Option Value} {K K' : Int64 → Prop} (h : ∀ x, K x → K' x) (k : lJ o K) : lJ o K' := by
  unfold lJ at k ⊢; split at k
  · exact h _ k
  · exact k.elim
theorem lR_m {o : Option Value} {K K' : Nat → Prop} (h : ∀ x, K x → K' x) (k : lR o K) : lR o K' := by
  unfold lR at k ⊢; split at k
  · exact h _ k
  · exact k.elim
theorem kd_m {d : List (Int32 × Nat)} {K K' : Int32 → Prop} (h : ∀ x, K x → K' x) (k : kd d K) : kd d K' := by
  unfold kd at k ⊢; split at k
  · exact h _ k
  · exact k.elim
theorem gv_m {o : Option Value} {x : Int32} {K K' : Value → Prop} (h : ∀ x, K x → K' x) (k : gv o x K) : gv o x K' := by
  unfold gv at k ⊢; split at k
  · exact h _ k
  · exact h _ k
  · exact k.elim
theorem av_m {o : Option (Nat × Nat)} {t : Nat} {i : Int32} {K K' : Prop} (h : K → K') (k : av o t i K) : av o t i K' := by
  unfold av at k ⊢; split at k
  · exact ⟨k.1, k.2.1, h k.2.2⟩
  · exact k.elim
theorem al_m {o : Option (Nat × Nat)} {K K' : Nat → Prop} (h : ∀ t, K t → K' t) (k : al o K) : al o K' := by
  unfold al at k ⊢; split at k
  · exact h _ k
  · exact k.elim
theorem sw_m {a : Nat} {x : Int32} {K K' : Nat → Prop} (h : ∀ t, K t → K' t) : ∀ {d : List (Int32 × Nat)}, sw d a x K → sw d a x K'
  | [], k => h _ k
  | (v, t) :: r, k => by
    unfold sw at k ⊢
    split at k
    · rw [if_pos ‹_›]; exact h _ k
    · rw [if_neg ‹_›]; exact sw_m h k
theorem pop_m {K K' : List Value → List Value → Prop} (h : ∀ a r, K a r → K' a r) {n : Nat} : ∀ {st acc : List Value}, pop n st acc K → pop n st acc K' := by
  induction n with
  | zero => intro st acc k; exact h _ _ k
  | succ n ih =>
    intro st acc k
    cases st with
    | nil => exact k.elim
    | cons v st => exact ih k
theorem if_m {c : Prop} [Decidable c] {A B A' B' : Prop} (h1 : A → A') (h2 : B → B') (k : if c then A else B) : if c then A' else B' := by
  by_cases hc : c
  · rw [if_pos hc] at k ⊢; exact h1 k
  · rw [if_neg hc] at k ⊢; exact h2 k
theorem rz_m {ty : Option FieldType} {x : Int32} {K K' : Prop} (h : K → K') (k : rz ty x K) : rz ty x K' := by
  unfold rz at k ⊢; split at k
  · exact h k
  · exact ⟨k.1, h k.2⟩
  · exact k.elim
theorem kc_m {Z X : XP} (h : ∀ y pc L st sh n M (R R' : Po), (∀ v s m, R v s m → R' v s m) → Z y pc L st sh n M R → X y pc L st sh n M R') {Q Q' : Po} (hq : ∀ v s m, Q v s m → Q' v s m) {z y nx : Nat} {L : List Value} {sh : List Sh} {n : Nat × Nat} {M : Mm} {as rest : List Value} (k : kc Z z y nx L sh n M Q as rest) : kc X z y nx L sh n M Q' as rest :=
  ⟨k.1, k.2.1, k.2.2.1, k.2.2.2.1, h _ _ _ _ _ _ _ _ _ (fun _ _ _ r => h _ _ _ _ _ _ _ _ _ hq r) k.2.2.2.2⟩
theorem ex1_mono {Z X : XP} (h : ∀ y pc L st sh n M (R R' : Po), (∀ v s m, R v s m → R' v s m) → Z y pc L st sh n M R → X y pc L st sh n M R') {Q Q' : Po} (hq : ∀ v s m, Q v s m → Q' v s m) {op : Ap} {y : Nat} {L st : List Value} {sh : List Sh} {n : Nat × Nat} {M : Mm} : ex1 Z op y L st sh n M Q → ex1 X op y L st sh n M Q' := by
  obtain ⟨i, nx, a, b, d⟩ := op
  have hX : ∀ {y pc : Nat} {L st : List Value} {sh : List Sh} {n : Nat × Nat} {M : Mm}, Z y pc L st sh n M Q → X y pc L st sh n M Q' := fun k => h _ _ _ _ _ _ _ _ _ hq k
  cases i <;> try exact fun k => False.elim k
  case iconst => exact kd_m (fun _ => hX)
  case bipush => exact kd_m (fun _ => hX)
  case sipush => exact kd_m (fun _ => hX)
  case ldc => exact kd_m (fun _ => hX)
  case ldc_w => exact kd_m (fun _ => hX)
  case lconst => exact hX
  case ldc2_w => exact hX
  case iload => exact lI_m (fun _ => hX)
  case iload_n => exact lI_m (fun _ => hX)
  case lload => exact lJ_m (fun _ => hX)
  case lload_n => exact lJ_m (fun _ => hX)
  case aload => exact lR_m (fun _ => hX)
  case aload_n => exact lR_m (fun _ => hX)
  case istore => exact kI_m (fun _ _ => hX)
  case istore_n => exact kI_m (fun _ _ => hX)
  case astore => exact kR_m (fun _ _ => hX)
  case astore_n => exact kR_m (fun _ _ => hX)
  case lstore_n => exact kJ_m (fun _ _ => hX)
  case iinc => exact lI_m (fun _ => kd_m (fun _ => hX))
  case iadd => exact kI_m (fun _ _ => kI_m (fun _ _ => hX))
  case isub => exact kI_m (fun _ _ => kI_m (fun _ _ => hX))
  case imul => exact kI_m (fun _ _ => kI_m (fun _ _ => hX))
  case iand => exact kI_m (fun _ _ => kI_m (fun _ _ => hX))
  case ior => exact kI_m (fun _ _ => kI_m (fun _ _ => hX))
  case idiv => exact kI_m (fun _ _ => kI_m (fun _ _ => And.imp_right hX))
  case irem => exact kI_m (fun _ _ => kI_m (fun _ _ => And.imp_right hX))
  case ishl => exact kI_m (fun _ _ => kI_m (fun _ _ => hX))
  case ishr => exact kI_m (fun _ _ => kI_m (fun _ _ => hX))
  case iushr => exact kI_m (fun _ _ => kI_m (fun _ _ => hX))
  case ladd => exact kJ_m (fun _ _ => kJ_m (fun _ _ => hX))
  case lmul => exact kJ_m (fun _ _ => kJ_m (fun _ _ => hX))
  case land => exact kJ_m (fun _ _ => kJ_m (fun _ _ => hX))
  case ldiv => exact kJ_m (fun _ _ => kJ_m (fun _ _ => And.imp_right hX))
  case lrem => exact kJ_m (fun _ _ => kJ_m (fun _ _ => And.imp_right hX))
  case lcmp => exact kJ_m (fun _ _ => kJ_m (fun _ _ => hX))
  case i2l => exact kI_m (fun _ _ => hX)
  case l2i => exact kJ_m (fun _ _ => hX)
  case dup => exact fun k => k.elim (fun k => Or.inl (kI_m (fun _ _ => hX) k)) (fun k => Or.inr (kR_m (fun _ _ => hX) k))
  case dup2 => exact kI_m (fun _ _ => kR_m (fun _ _ => hX))
  case ifCond c o => cases c <;> exact kI_m (fun _ _ => if_m hX hX)
  case if_icmp c o => cases c <;> exact kI_m (fun _ _ => kI_m (fun _ _ => if_m hX hX))
  case goto => exact hX
  case tableswitch => exact kI_m (fun _ _ => sw_m (fun _ => hX))
  case lookupswitch => exact kI_m (fun _ _ => sw_m (fun _ => hX))
  case getfield => exact kR_m (fun _ _ => gv_m (fun _ => hX))
  case putfield =>
    intro k
    simp only [ex1] at k ⊢
    split at k
    · exact kI_m (fun _ _ => kR_m (fun _ _ => And.imp_right hX)) k
    · exact kI_m (fun _ _ => kR_m (fun _ _ => And.imp_right (And.imp_right hX))) k
    · exact kR_m (fun _ _ => kR_m (fun _ _ => And.imp_right hX)) k
    · exact k.elim
  case iaload => exact kI_m (fun _ _ => kR_m (fun _ _ => if_m (And.imp_right (And.imp_right hX)) (av_m hX)))
  case baload => exact kI_m (fun _ _ => kR_m (fun _ _ => av_m hX))
  case iastore => exact kI_m (fun _ _ => kI_m (fun _ _ => kR_m (fun _ _ => av_m hX)))
  case bastore => exact kI_m (fun _ _ => kI_m (fun _ _ => kR_m (fun _ _ => av_m (And.imp_right hX))))
  case arraylength => exact kR_m (fun _ _ => if_m (And.imp_right hX) (al_m (fun _ => hX)))
  case new => exact fun k => ⟨k.1, k.2.1, k.2.2.1, hX k.2.2.2⟩
  case newarray => exact kI_m (fun _ _ k => ⟨k.1, k.2.1, k.2.2.1, k.2.2.2.1, k.2.2.2.2.1, hX k.2.2.2.2.2⟩)
  case invokevirtual => exact pop_m (fun _ _ => kR_m (fun _ _ => And.imp_right (kc_m h hq)))
  case invokestatic => exact if_m (kI_m (fun _ _ => kI_m (fun _ _ => kR_m (fun _ _ => kI_m (fun _ _ => kR_m (fun _ _ k => ⟨k.1, k.2.1, k.2.2.1, k.2.2.2.1, k.2.2.2.2.1, hX k.2.2.2.2.2⟩)))))) (if_m (kI_m (fun _ _ => kI_m (fun _ _ => And.imp_right hX))) (if_m (kI_m (fun _ _ => kI_m (fun _ _ => And.imp_right hX))) (pop_m (fun _ _ => kc_m h hq))))
  case invokespecial => exact if_m (kR_m (fun _ _ => And.imp_right hX)) (pop_m (fun _ _ => kR_m (fun _ _ => kc_m h hq)))
  case ireturn => exact fun k => ⟨k.1, k.2.1, kI_m (fun _ _ => rz_m (hq _ _ _)) k.2.2⟩
  case areturn => exact fun k => ⟨k.1, k.2.1, kR_m (fun _ _ => hq _ _ _) k.2.2⟩
  case return_ => exact fun k => ⟨k.1, k.2.1, hq _ _ _ k.2.2⟩
theorem WP.both {y pc : Nat} {L st : List Value} {sh : List Sh} {n : Nat × Nat} {M : Mm} {Q : Po} (h : WP y pc L st sh n M Q) : (∀ Q' : Po, (∀ v s m, Q v s m → Q' v s m) → WP y pc L st sh n M Q') ∧ (∀ op, fetch y pc = some op → ∀ Q' : Po, (∀ v s m, Q v s m → Q' v s m) → ex1 WP op y L st sh n M Q') := by
  refine h (fun y pc L st sh n M Q => (∀ Q' : Po, (∀ v s m, Q v s m → Q' v s m) → WP y pc L st sh n M Q') ∧ (∀ op, fetch y pc = some op → ∀ Q' : Po, (∀ v s m, Q v s m → Q' v s m) → ex1 WP op y L st sh n M Q')) ?_
  intro Z hZ y pc L st sh n M Q op hop he
  have h1 : ∀ Q' : Po, (∀ v s m, Q v s m → Q' v s m) → ex1 WP op y L st sh n M Q' := fun Q' hq => ex1_mono (Z := Z) (X := WP) (fun y pc L st sh n M R R' hr hz => (hZ y pc L st sh n M R hz).1 R' hr) hq he
  refine ⟨fun Q' hq => WP.fold hop (h1 Q' hq), fun op' hop' => ?_⟩
  cases hop.symm.trans hop'
  exact h1
theorem WP.mono {y pc : Nat} {L st : List Value} {sh : List Sh} {n : Nat × Nat} {M : Mm} {Q Q' : Po} (h : WP y pc L st sh n M Q) (hq : ∀ v s m, Q v s m → Q' v s m) : WP y pc L st sh n M Q' := h.both.1 Q' hq
theorem WP_eq {y pc : Nat} {L st : List Value} {sh : List Sh} {n : Nat × Nat} {M : Mm} {Q : Po} (op : Ap) (hop : fetch y pc = some op) : WP y pc L st sh n M Q = ex1 WP op y L st sh n M Q :=
  propext ⟨fun h => h.both.2 op hop Q (fun _ _ _ k => k), fun h => WP.fold hop h⟩
/-- behind a call -/
def Kn (y nx : Nat) (L st : List Value) (n : Nat × Nat) (Q : Po) : Po := fun v sh M => WP y nx L (v.toList ++ st) sh n M Q
theorem Kn_some (y nx : Nat) (L st : List Value) (n : Nat × Nat) (Q : Po) (v : Value) (sh : List Sh) (M : Mm) : Kn y nx L st n Q (some v) sh M = WP y nx L (v :: st) sh n M Q := rfl
theorem Kn_none (y nx : Nat) (L st : List Value) (n : Nat × Nat) (Q : Po) (sh : List Sh) (M : Mm) : Kn y nx L st n Q none sh M = WP y nx L st sh n M Q := rfl
