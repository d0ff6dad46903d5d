/-! the component: hands copied, the past -/
def cpF (f g : Nat → Int32) : Nat → Int32 := fun j => if j < 7 then f j else g j
theorem cpm_7 (M : Mm) (a b : Nat) : cpm M a b 0 0 7 = st M b (cpF (M a) (M b)) := by
  funext x
  unfold cpm st
  by_cases q : x = b
  · rw [if_pos q, if_pos q]
    funext j
    unfold va_cpy cpF
    by_cases r : j < 7
    · rw [if_pos ⟨Nat.zero_le _, by omega⟩, if_pos r, Nat.sub_zero, Nat.zero_add]
    · rw [if_neg (by omega), if_neg r]
  · rw [if_neg q, if_neg q]
theorem e_h_copy {A B o r : Nat} {M : Mm} {Q : Po} (ho : isHH o) (hr : isHH r) : WP 16 0 [.ref o, .ref r] [] (shw A B) (0, 0) M Q = Q none (shw A B) (st M (o + 1) (cpF (M (r + 1)) (M (o + 1)))) := by
  have g0 : ¬ (0 : Int32) < 0 := by decide
  have g7 : ¬ (7 : Int32) < 0 := by decide
  have g : ∃ n0 n1, aln (shw A B) (r + 1) = some (0, n0) ∧ aln (shw A B) (o + 1) = some (0, n1) ∧ 0 + 7 ≤ n0 ∧ 0 + 7 ≤ n1 := ⟨7, 7, yhh_1 hr, yhh_1 ho, by decide, by decide⟩
  simp only [w_h_copy_0, w_h_copy_1, w_h_copy_4, w_h_copy_5, w_h_copy_6, w_h_copy_9, w_h_copy_10, w_h_copy_12, w_h_copy_15, xhh_0 ho, xhh_0 hr, g0, g7, eq_true g, not_false_eq_true, show ((0 : Int32).toNatClampNeg) = 0 by decide, show ((7 : Int32).toNatClampNeg) = 7 by decide, cpm_7, i10, Bool.false_eq_true, eq_self, true_or, or_true, if_true, if_false, gv_int, gv_ref, av_some, al_some, un_int, un_ref, un_mk, ok4_0, ok4_1, ok4_2, ok4_3, ok4_4, Kn_some, Kn_none, true_and, and_true]
theorem e_z_size {A B : Nat} {M : Mm} {Q : Po} : WP 47 0 [.ref 7] [] (shw A B) (0, 0) M Q = Q (some (.int (M 7 4))) (shw A B) M := by
  simp only [w_z_size_0, w_z_size_1, w_z_size_4, xz_4, i10, Bool.false_eq_true, eq_self, true_or, or_true, if_true, if_false, gv_int, gv_ref, av_some, al_some, un_int, un_ref, un_mk, ok4_0, ok4_1, ok4_2, ok4_3, ok4_4, Kn_some, Kn_none, true_and, and_true]
