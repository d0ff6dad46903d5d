/-! what a text says, and the reference's reading of it -/
section
variable {α : Sort _}
/-- a number, from p on -/
def numC (tx : Nat → Int32) (tl p : Nat) (most : Int32) (bad : Int32 → Nat → α) (good : Nat → Int32 → α) : α :=
  if isf (lt tx tl (sk tx tl p)) then (if okN tx tl (sk tx tl p) most then good (dn tx tl (sk tx tl p)) (nv tx (sk tx tl p) (dn tx tl (sk tx tl p) - sk tx tl p)) else bad 2 (sk tx tl p)) else bad 1 (sk tx tl p)
/-- a sign, from p on -/
def signC (tx : Nat → Int32) (tl p : Nat) (sg : Int32) (bad : Int32 → Nat → α) (good : Nat → α) : α :=
  if lt tx tl (sk tx tl p) = sg then good (sk tx tl p + 1) else bad 1 (sk tx tl p)
/-- the tables F: cells 67 .. 72 as the reference has them -/
def kindC (tx : Nat → Int32) (tl p K : Nat) (F : Mm) (bad : Int32 → Nat → α) (good : Nat → Mm → α) : α :=
  numC tx tl p 999 bad fun p v => numC tx tl p 99 bad fun p w => good p (up (up F 67 K v) 68 K w)
def thingC (tx : Nat → Int32) (tl p K N : Nat) (F : Mm) (bad : Int32 → Nat → α) (good : Nat → Mm → α) : α :=
  numC tx tl p (nI K - 1) bad fun p v => good p (up F 72 N v)
end
theorem numC_mono {tx : Nat → Int32} {tl p : Nat} {most : Int32} {b b' : Int32 → Nat → Prop} {g g' : Nat → Int32 → Prop} (hb : ∀ e y, b e y → b' e y) (hg : ∀ q v, g q v → g' q v) (h : numC tx tl p most b g) : numC tx tl p most b' g' := by
  unfold numC at h ⊢
  split at h
  · rename_i q1
    rw [if_pos q1]
    split at h
    · rename_i q2
      rw [if_pos q2]; exact hg _ _ h
    · rename_i q2
      rw [if_neg q2]; exact hb _ _ h
  · rename_i q1
    rw [if_neg q1]; exact hb _ _ h
/-- only what reading a number may change has changed -/
def Fn (M M' : Mm) : Prop := ∀ c j, (c = 58 → ¬ j = 13 ∧ ¬ j = 14 ∧ ¬ j = 15 ∧ ¬ j = 16) → M' c j = M c j
theorem Fn.cell {M M' : Mm} (h : Fn M M') {c : Nat} (hc : ¬ c = 58) : M' c = M c := funext (fun j => h c j (fun e => absurd e hc))
theorem Fn.pl {M M' : Mm} (h : Fn M M') {j : Nat} (hj : ¬ j = 13 ∧ ¬ j = 14 ∧ ¬ j = 15 ∧ ¬ j = 16) : M' 58 j = M 58 j := h 58 j (fun _ => hj)
theorem Fn.tr {M M' M'' : Mm} (h : Fn M M') (h' : Fn M' M'') : Fn M M'' := fun c j hc => (h' c j hc).trans (h c j hc)
theorem Fn.up {M : Mm} {k : Nat} {x : Int32} (hk : k = 13 ∨ k = 14 ∨ k = 15 ∨ k = 16) : Fn M (up M 58 k x) := by
  intro c j hc
  rw [up_at]
  by_cases q : c = 58
  · rw [if_pos q, if_neg (by have := hc q; omega), q]
  · rw [if_neg q]
theorem Fn_NM {M : Mm} {tl s : Nat} : Fn M (NM M tl s) := ((Fn.up (by omega)).tr (Fn.up (by omega))).tr (Fn.up (by omega))
theorem r_number {A B : Nat} {M : Mm} {Q : Po} {tl p : Nat} {most : Int32} (h : TX M tl p) (hq : numC (M 66) tl p most (fun e y => 0 < e → ∀ M', Fn M M' → M' 58 13 = nI y → Q (some (.int e)) (shw A B) M') (fun q v => rng v.toInt64 0 most.toInt64 = true → ∀ M', Fn M M' → TX M' tl q → M' 58 15 = v → M' 58 16 = nI (sk (M 66) tl p) → Q (some (.int 0)) (shw A B) M')) : WP 152 0 [.ref 58, .int 0, .int most, mk] [] (shw A B) (0, 0) M Q := by
  rw [e_m_takeNumber h]
  have hs := sk_le (tx := M 66) h.2.2.2
  have hd := dn_le (tx := M 66) hs.2
  obtain ⟨h1, h2, h3, h4⟩ := id h
  unfold numC at hq
  split at hq
  · rename_i q1
    rw [if_pos q1]
    split at hq
    · rename_i q2
      rw [if_pos q2]
      refine hq ?_ _ Fn_NM ⟨h1, rfl, h3, hd.2⟩ rfl rfl
      unfold okN at q2
      rw [Bool.and_eq_true] at q2
      exact q2.2
    · rename_i q2
      rw [if_neg q2]
      exact hq (by decide) _ (Fn_NM.tr (Fn.up (by omega))) rfl
  · rename_i q1
    rw [if_neg q1]
    exact hq (by decide) _ ((Fn.up (by omega)).tr (Fn.up (by omega))) rfl
