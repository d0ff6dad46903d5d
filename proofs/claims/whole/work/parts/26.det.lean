/-! the machine is of one mind: two words of WP meet -/
theorem pop_det {K K2 : List Value → List Value → Prop} {G : Prop} (h : ∀ as r, K as r → K2 as r → G) : ∀ {n : Nat} {st acc : List Value}, pop n st acc K → pop n st acc K2 → G := by
  intro n
  induction n with
  | zero => intro st acc k k2; exact h _ _ k k2
  | succ n ih =>
    intro st acc k k2
    cases st with
    | nil => exact k.elim
    | cons v st => exact ih k k2
theorem sw_det {a : Nat} {x : Int32} {K K2 : Nat → Prop} {G : Prop} (h : ∀ t, K t → K2 t → G) : ∀ {d : List (Int32 × Nat)}, sw d a x K → sw d a x K2 → G
  | [], k, k2 => h _ k k2
  | (v, t) :: r, k, k2 => by
    unfold sw at k k2
    by_cases hx : x = v
    · rw [if_pos hx] at k k2; exact h _ k k2
    · rw [if_neg hx] at k k2; exact sw_det h k k2
theorem if_det {c : Prop} [Decidable c] {A B A2 B2 G : Prop} (h1 : A → A2 → G) (h2 : B → B2 → G) (k : if c then A else B) (k2 : if c then A2 else B2) : G := by
  by_cases hc : c
  · rw [if_pos hc] at k k2; exact h1 k k2
  · rw [if_neg hc] at k k2; exact h2 k k2
theorem kI_det {st : List Value} {K K2 : Int32 → List Value → Prop} {G : Prop} (h : ∀ x r, K x r → K2 x r → G) (k : kI st K) (k2 : kI st K2) : G := by
  obtain ⟨x, r, rfl, k⟩ := kI_inv k; exact h _ _ k k2
theorem kJ_det {st : List Value} {K K2 : Int64 → List Value → Prop} {G : Prop} (h : ∀ x r, K x r → K2 x r → G) (k : kJ st K) (k2 : kJ st K2) : G := by
  obtain ⟨x, r, rfl, k⟩ := kJ_inv k; exact h _ _ k k2
theorem kR_det {st : List Value} {K K2 : Nat → List Value → Prop} {G : Prop} (h : ∀ x r, K x r → K2 x r → G) (k : kR st K) (k2 : kR st K2) : G := by
  obtain ⟨x, r, rfl, k⟩ := kR_inv k; exact h _ _ k k2
theorem lI_det {o : Option Value} {K K2 : Int32 → Prop} {G : Prop} (h : ∀ x, K x → K2 x → G) (k : lI o K) (k2 : lI o K2) : G := by
  obtain ⟨x, rfl, k⟩ := lI_inv k; exact h _ k k2
theorem lJ_det {o : Option Value} {K K2 : Int64 → Prop} {G : Prop} (h : ∀ x, K x → K2 x → G) (k : lJ o K) (k2 : lJ o K2) : G := by
  obtain ⟨x, rfl, k⟩ := lJ_inv k; exact h _ k k2
theorem lR_det {o : Option Value} {K K2 : Nat → Prop} {G : Prop} (h : ∀ x, K x → K2 x → G) (k : lR o K) (k2 : lR o K2) : G := by
  obtain ⟨x, rfl, k⟩ := lR_inv k; exact h _ k k2
theorem kd_det {d : List (Int32 × Nat)} {K K2 : Int32 → Prop} {G : Prop} (h : ∀ x, K x → K2 x → G) (k : kd d K) (k2 : kd d K2) : G := by
  cases d with
  | nil => exact k.elim
  | cons q d => exact h _ k k2
theorem gv_det {o : Option Value} {x : Int32} {K K2 : Value → Prop} {G : Prop} (h : ∀ v, K v → K2 v → G) (k : gv o x K) (k2 : gv o x K2) : G := by
  unfold gv at k k2
  split at k
  · exact h _ k k2
  · exact h _ k k2
  · exact k.elim
theorem av_det {o : Option (Nat × Nat)} {t : Nat} {i : Int32} {K K2 G : Prop} (h : K → K2 → G) (k : av o t i K) (k2 : av o t i K2) : G := by
  obtain ⟨n, rfl, _, k⟩ := av_inv k; exact h k k2.2.2
theorem al_det {o : Option (Nat × Nat)} {K K2 : Nat → Prop} {G : Prop} (h : ∀ n, K n → K2 n → G) (k : al o K) (k2 : al o K2) : G := by
  obtain ⟨n, rfl, k⟩ := al_inv k; exact h _ k k2
theorem rz_det {ty : Option FieldType} {x : Int32} {K K2 G : Prop} (h : K → K2 → G) (k : rz ty x K) (k2 : rz ty x K2) : G := by
  unfold rz at k k2
  split at k
  · exact h k k2
  · exact h k.2 k2.2
  · exact k.elim
theorem ex1_det {Z : XP} (h : ∀ y pc L st sh n M (R R2 : Po), Z y pc L st sh n M R → WP y pc L st sh n M R2 → ∃ v s m, R v s m ∧ R2 v s m) {Q Q2 : Po} {op : Ap} {y : Nat} {L st : List Value} {sh : List Sh} {n : Nat × Nat} {M : Mm} : ex1 Z op y L st sh n M Q → ex1 WP op y L st sh n M Q2 → ∃ v s m, Q v s m ∧ Q2 v s m := by
  obtain ⟨i, nx, a, b, d⟩ := op
  have hX : ∀ {y pc : Nat} {L st : List Value} {sh : List Sh} {n : Nat × Nat} {M : Mm}, Z y pc L st sh n M Q → WP y pc L st sh n M Q2 → ∃ v s m, Q v s m ∧ Q2 v s m := fun k k2 => h _ _ _ _ _ _ _ _ _ k k2
  have hc : ∀ {z y nx : Nat} {L : List Value} {sh : List Sh} {n : Nat × Nat} {M : Mm} {as rest : List Value}, kc Z z y nx L sh n M Q as rest → kc WP z y nx L sh n M Q2 as rest → ∃ v s m, Q v s m ∧ Q2 v s m := by
    intro z y nx L sh n M as rest k k2
    obtain ⟨v, s, m, k3, k4⟩ := h _ _ _ _ _ _ _ _ _ k.2.2.2.2 k2.2.2.2.2
    exact hX k3 k4
  cases i <;> try exact fun k => False.elim k
  case iconst => exact kd_det (fun _ => hX)
  case bipush => exact kd_det (fun _ => hX)
  case sipush => exact kd_det (fun _ => hX)
  case ldc => exact kd_det (fun _ => hX)
  case ldc_w => exact kd_det (fun _ => hX)
  case lconst => exact hX
  case ldc2_w => exact hX
  case iload => exact lI_det (fun _ => hX)
  case iload_n => exact lI_det (fun _ => hX)
  case lload => exact lJ_det (fun _ => hX)
  case lload_n => exact lJ_det (fun _ => hX)
  case aload => exact lR_det (fun _ => hX)
  case aload_n => exact lR_det (fun _ => hX)
  case istore => exact kI_det (fun _ _ => hX)
  case istore_n => exact kI_det (fun _ _ => hX)
  case astore => exact kR_det (fun _ _ => hX)
  case astore_n => exact kR_det (fun _ _ => hX)
  case lstore_n => exact kJ_det (fun _ _ => hX)
  case iinc => exact lI_det (fun _ => kd_det (fun _ => hX))
  case iadd => exact kI_det (fun _ _ => kI_det (fun _ _ => hX))
  case isub => exact kI_det (fun _ _ => kI_det (fun _ _ => hX))
  case imul => exact kI_det (fun _ _ => kI_det (fun _ _ => hX))
  case iand => exact kI_det (fun _ _ => kI_det (fun _ _ => hX))
  case ior => exact kI_det (fun _ _ => kI_det (fun _ _ => hX))
  case idiv => exact kI_det (fun _ _ => kI_det (fun _ _ k k2 => hX k.2 k2.2))
  case irem => exact kI_det (fun _ _ => kI_det (fun _ _ k k2 => hX k.2 k2.2))
  case ishl => exact kI_det (fun _ _ => kI_det (fun _ _ => hX))
  case ishr => exact kI_det (fun _ _ => kI_det (fun _ _ => hX))
  case iushr => exact kI_det (fun _ _ => kI_det (fun _ _ => hX))
  case ladd => exact kJ_det (fun _ _ => kJ_det (fun _ _ => hX))
  case lmul => exact kJ_det (fun _ _ => kJ_det (fun _ _ => hX))
  case land => exact kJ_det (fun _ _ => kJ_det (fun _ _ => hX))
  case ldiv => exact kJ_det (fun _ _ => kJ_det (fun _ _ k k2 => hX k.2 k2.2))
  case lrem => exact kJ_det (fun _ _ => kJ_det (fun _ _ k k2 => hX k.2 k2.2))
  case lcmp => exact kJ_det (fun _ _ => kJ_det (fun _ _ => hX))
  case i2l => exact kI_det (fun _ _ => hX)
  case l2i => exact kJ_det (fun _ _ => hX)
  case dup =>
    intro k k2
    rcases k with k | k
    · obtain ⟨x, r, rfl, k⟩ := kI_inv k
      rcases k2 with k2 | k2
      · exact hX k k2
      · exact k2.elim
    · obtain ⟨x, r, rfl, k⟩ := kR_inv k
      rcases k2 with k2 | k2
      · exact k2.elim
      · exact hX k k2
  case dup2 => exact kI_det (fun _ _ => kR_det (fun _ _ => hX))
  case ifCond c o => cases c <;> exact kI_det (fun _ _ => if_det hX hX)
  case if_icmp c o => cases c <;> exact kI_det (fun _ _ => kI_det (fun _ _ => if_det hX hX))
  case goto => exact hX
  case tableswitch => exact kI_det (fun _ _ => sw_det (fun _ => hX))
  case lookupswitch => exact kI_det (fun _ _ => sw_det (fun _ => hX))
  case getfield => exact kR_det (fun _ _ => gv_det (fun _ => hX))
  case putfield =>
    intro k k2
    simp only [ex1] at k k2
    split at k
    · exact kI_det (fun _ _ => kR_det (fun _ _ k k2 => hX k.2 k2.2)) k k2
    · exact kI_det (fun _ _ => kR_det (fun _ _ k k2 => hX k.2.2 k2.2.2)) k k2
    · exact kR_det (fun _ _ => kR_det (fun _ _ k k2 => hX k.2 k2.2)) k k2
    · exact k.elim
  case iaload => exact kI_det (fun _ _ => kR_det (fun _ _ => if_det (fun k k2 => hX k.2.2 k2.2.2) (av_det hX)))
  case baload => exact kI_det (fun _ _ => kR_det (fun _ _ => av_det hX))
  case iastore => exact kI_det (fun _ _ => kI_det (fun _ _ => kR_det (fun _ _ => av_det hX)))
  case bastore => exact kI_det (fun _ _ => kI_det (fun _ _ => kR_det (fun _ _ => av_det (fun k k2 => hX k.2 k2.2))))
  case arraylength => exact kR_det (fun _ _ => if_det (fun k k2 => hX k.2 k2.2) (al_det (fun _ => hX)))
  case new => exact fun k k2 => hX k.2.2.2 k2.2.2.2
  case newarray => exact kI_det (fun _ _ k k2 => hX k.2.2.2.2.2 k2.2.2.2.2.2)
  case invokevirtual => exact pop_det (fun _ _ => kR_det (fun _ _ k k2 => hc k.2 k2.2))
  case invokestatic => exact if_det (kI_det (fun _ _ => kI_det (fun _ _ => kR_det (fun _ _ => kI_det (fun _ _ => kR_det (fun _ _ k k2 => hX k.2.2.2.2.2 k2.2.2.2.2.2)))))) (if_det (kI_det (fun _ _ => kI_det (fun _ _ k k2 => hX k.2 k2.2))) (if_det (kI_det (fun _ _ => kI_det (fun _ _ k k2 => hX k.2 k2.2))) (pop_det (fun _ _ => hc))))
  case invokespecial => exact if_det (kR_det (fun _ _ k k2 => hX k.2 k2.2)) (pop_det (fun _ _ => kR_det (fun _ _ => hc)))
  case ireturn => exact fun k k2 => kI_det (fun _ _ => rz_det (fun k k2 => ⟨_, _, _, k, k2⟩)) k.2.2 k2.2.2
  case areturn => exact fun k k2 => kR_det (fun _ _ k k2 => ⟨_, _, _, k, k2⟩) k.2.2 k2.2.2
  case return_ => exact fun k k2 => ⟨_, _, _, k.2.2, k2.2.2⟩
theorem WP.det {y pc : Nat} {L st : List Value} {sh : List Sh} {n : Nat × Nat} {M : Mm} {Q Q2 : Po} (h : WP y pc L st sh n M Q) (h2 : WP y pc L st sh n M Q2) : ∃ v s m, Q v s m ∧ Q2 v s m := by
  refine h (fun y pc L st sh n M Q => ∀ Q2 : Po, WP y pc L st sh n M Q2 → ∃ v s m, Q v s m ∧ Q2 v s m) ?_ Q2 h2
  intro Z hZ y pc L st sh n M Q op hop he Q2 h2
  exact ex1_det (fun y pc L st sh n M R R2 k k2 => hZ y pc L st sh n M R k R2 k2) he (h2.both.2 op hop Q2 (fun _ _ _ k => k))
/-- a method that always ends so is an equation -/
theorem WP.is {y pc : Nat} {L st : List Value} {sh sh' : List Sh} {n : Nat × Nat} {M M' : Mm} {Q : Po} {v : Option Value} (h : ∀ Q : Po, Q v sh' M' → WP y pc L st sh n M Q) : WP y pc L st sh n M Q = Q v sh' M' := by
  refine propext ⟨fun hq => ?_, h Q⟩
  obtain ⟨v', s', m', k, e⟩ := WP.det hq (h (fun v1 s1 m1 => v1 = v ∧ s1 = sh' ∧ m1 = M') ⟨rfl, rfl, rfl⟩)
  obtain ⟨rfl, rfl, rfl⟩ := e
  exact k
/-- a loop counted up -/
theorem for_up {n : Nat} {P : Nat → Prop} (h0 : P n) (hs : ∀ k, k < n → P (k + 1) → P k) : P 0 := by
  have : ∀ j, j ≤ n → P (n - j) := by
    intro j
    induction j with
    | zero => intro _; exact h0
    | succ j ih =>
      intro hj
      refine hs _ (by omega) ?_
      rw [show n - (j + 1) + 1 = n - j by omega]
      exact ih (by omega)
  have h := this n (Nat.le_refl n)
  rwa [Nat.sub_self] at h
