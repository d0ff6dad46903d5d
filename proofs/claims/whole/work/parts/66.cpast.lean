/-! the component: hands copied, the past -/
def cpF (f g : Nat → Int32) : Nat → Int32 := fun j => if j < 7 then f j else g j
theorem cpm_7 (M : Mm) (a b : Nat) : cpm M a b 0 0 7 = st M b (cpF (M a) (M b)) := by
  funext x
  unfold cpm st
  by_cases q : x = b
  · rw [if_pos q, if_pos q]
    funext j
    unfold va_cpy cpF
    by_cases r : j < 7
    · rw [if_pos ⟨Nat.zero_le _, by omega⟩, if_pos r, Nat.sub_zero, Nat.zero_add]
    · rw [if_neg (by omega), if_neg r]
  · rw [if_neg q, if_neg q]
theorem e_h_copy {A B o r : Nat} {M : Mm} {Q : Po} (ho : isHH o) (hr : isHH r) : WP 16 0 [.ref o, .ref r] [] (shw A B) (0, 0) M Q = Q none (shw A B) (st M (o + 1) (cpF (M (r + 1)) (M (o + 1)))) := by
  have g0 : ¬ (0 : Int32) < 0 := by decide
  have g7 : ¬ (7 : Int32) < 0 := by decide
  have g : ∃ n0 n1, aln (shw A B) (r + 1) = some (0, n0) ∧ aln (shw A B) (o + 1) = some (0, n1) ∧ 0 + 7 ≤ n0 ∧ 0 + 7 ≤ n1 := ⟨7, 7, yhh_1 hr, yhh_1 ho, by decide, by decide⟩
  simp only [w_h_copy_0, w_h_copy_1, w_h_copy_4, w_h_copy_5, w_h_copy_6, w_h_copy_9, w_h_copy_10, w_h_copy_12, w_h_copy_15, xhh_0 ho, xhh_0 hr, g0, g7, eq_true g, not_false_eq_true, show ((0 : Int32).toNatClampNeg) = 0 by decide, show ((7 : Int32).toNatClampNeg) = 7 by decide, cpm_7, i10, Bool.false_eq_true, eq_self, true_or, or_true, if_true, if_false, gv_int, gv_ref, av_some, al_some, un_int, un_ref, un_mk, ok4_0, ok4_1, ok4_2, ok4_3, ok4_4, Kn_some, Kn_none, true_and, and_true]
theorem e_z_size {A B : Nat} {M : Mm} {Q : Po} : WP 47 0 [.ref 7] [] (shw A B) (0, 0) M Q = Q (some (.int (M 7 4))) (shw A B) M := by
  simp only [w_z_size_0, w_z_size_1, w_z_size_4, xz_4, i10, Bool.false_eq_true, eq_self, true_or, or_true, if_true, if_false, gv_int, gv_ref, av_some, al_some, un_int, un_ref, un_mk, ok4_0, ok4_1, ok4_2, ok4_3, ok4_4, Kn_some, Kn_none, true_and, and_true]
/-- an act more -/
def zrM (M : Mm) (u : Nat) (x : Int32) : Mm := if u < 20 then up (up M 8 u x) 7 4 (nI (u + 1)) else up (up (up (cpm M 8 8 1 0 19) 7 4 19) 8 19 x) 7 4 20
theorem e_z_remember {A B u : Nat} {M : Mm} {Q : Po} {x : Int32} (hu : M 7 4 = nI u) (h20 : u ≤ 20) : WP 48 0 [.ref 7, .int x] [] (shw A B) (0, 0) M Q = Q none (shw A B) (zrM M u x) := by
  unfold zrM
  by_cases q : u < 20
  · have g1 : nI u < 20 := nI_lt (b := 20) q (by decide)
    have g2 : vp_in (nI u) 20 := vp_in_nI q (by decide)
    rw [if_pos q]
    simp only [w_z_remember_0, w_z_remember_1, w_z_remember_4, w_z_remember_6, w_z_remember_9, w_z_remember_10, w_z_remember_13, w_z_remember_14, w_z_remember_15, w_z_remember_18, w_z_remember_19, w_z_remember_21, w_z_remember_24, w_z_remember_25, w_z_remember_27, w_z_remember_30, w_z_remember_31, w_z_remember_34, w_z_remember_35, w_z_remember_38, w_z_remember_39, w_z_remember_40, w_z_remember_41, w_z_remember_42, w_z_remember_45, w_z_remember_46, w_z_remember_47, w_z_remember_50, xz_4, xz_0, al_8, hu, g1, g2, nI_clamp (show u < 2 ^ 31 by omega), show ∀ x, up M 8 u x 7 4 = nI u from fun _ => hu, nI_1, i10, Bool.false_eq_true, eq_self, true_or, or_true, if_true, if_false, gv_int, gv_ref, av_some, al_some, un_int, un_ref, un_mk, ok4_0, ok4_1, ok4_2, ok4_3, ok4_4, Kn_some, Kn_none, true_and, and_true]
  · have e : u = 20 := by omega
    subst e
    rw [if_neg q]
    have g0 : ¬ (0 : Int32) < 0 := by decide
    have g1 : ¬ (1 : Int32) < 0 := by decide
    have g19 : ¬ (19 : Int32) < 0 := by decide
    have g : ∃ n0 n1 : Nat, some ((0 : Nat), 20) = some ((0 : Nat), n0) ∧ some ((0 : Nat), 20) = some ((0 : Nat), n1) ∧ 1 + 19 ≤ n0 ∧ 0 + 19 ≤ n1 := ⟨20, 20, rfl, rfl, by decide, by decide⟩
    have g2 : vp_in (19 : Int32) 20 := vp_in_nI (n := 19) (by decide) (by decide)
    simp only [w_z_remember_0, w_z_remember_1, w_z_remember_4, w_z_remember_6, w_z_remember_9, w_z_remember_10, w_z_remember_13, w_z_remember_14, w_z_remember_15, w_z_remember_18, w_z_remember_19, w_z_remember_21, w_z_remember_24, w_z_remember_25, w_z_remember_27, w_z_remember_30, w_z_remember_31, w_z_remember_34, w_z_remember_35, w_z_remember_38, w_z_remember_39, w_z_remember_40, w_z_remember_41, w_z_remember_42, w_z_remember_45, w_z_remember_46, w_z_remember_47, w_z_remember_50, xz_4, xz_0, al_8, hu, show (nI 20 < 20) = False by decide, g0, g1, g19, not_false_eq_true, show ((0 : Int32).toNatClampNeg) = 0 by decide, show ((1 : Int32).toNatClampNeg) = 1 by decide, show ((19 : Int32).toNatClampNeg) = 19 by decide, eq_true g, show ∀ X : Mm, up X 7 4 19 7 4 = 19 from fun _ => rfl, show ∀ X : Mm, ∀ x, up (up X 7 4 19) 8 19 x 7 4 = 19 from fun _ _ => rfl, g2, show (19 : Int32) + 1 = 20 by decide, i10, Bool.false_eq_true, eq_self, true_or, or_true, if_true, if_false, gv_int, gv_ref, av_some, al_some, un_int, un_ref, un_mk, ok4_0, ok4_1, ok4_2, ok4_3, ok4_4, Kn_some, Kn_none, true_and, and_true]
theorem e_z_hasImage {A B i : Nat} {M : Mm} {Q : Po} (hi : i < 2) (hk : M 11 i = 0 ∨ M 11 i = 1) : WP 51 0 [.ref 7, .int (nI i)] [] (shw A B) (0, 0) M Q = Q (some (.int (M 11 i))) (shw A B) M := by
  have g2 : vp_in (nI i) 2 := vp_in_nI hi (by decide)
  simp only [w_z_hasImage_0, w_z_hasImage_1, w_z_hasImage_4, w_z_hasImage_5, w_z_hasImage_6, xz_3, al_11, g2, nI_clamp (show i < 2 ^ 31 by omega), eq_true hk, i10, Bool.false_eq_true, eq_self, true_or, or_true, if_true, if_false, gv_int, gv_ref, av_some, al_some, un_int, un_ref, un_mk, ok4_0, ok4_1, ok4_2, ok4_3, ok4_4, Kn_some, Kn_none, true_and, and_true]
theorem e_z_imageHands {A B i : Nat} {M : Mm} {Q : Po} (hi : i < 2) : WP 52 0 [.ref 7, .int (nI i)] [] (shw A B) (0, 0) M Q = Q (some (.int (M 9 i))) (shw A B) M := by
  have g2 : vp_in (nI i) 2 := vp_in_nI hi (by decide)
  simp only [w_z_imageHands_0, w_z_imageHands_1, w_z_imageHands_4, w_z_imageHands_5, w_z_imageHands_6, xz_1, al_9, g2, nI_clamp (show i < 2 ^ 31 by omega), i10, Bool.false_eq_true, eq_self, true_or, or_true, if_true, if_false, gv_int, gv_ref, av_some, al_some, un_int, un_ref, un_mk, ok4_0, ok4_1, ok4_2, ok4_3, ok4_4, Kn_some, Kn_none, true_and, and_true]
theorem e_z_imageChance {A B i : Nat} {M : Mm} {Q : Po} (hi : i < 2) : WP 53 0 [.ref 7, .int (nI i)] [] (shw A B) (0, 0) M Q = Q (some (.int (M 10 i))) (shw A B) M := by
  have g2 : vp_in (nI i) 2 := vp_in_nI hi (by decide)
  simp only [w_z_imageChance_0, w_z_imageChance_1, w_z_imageChance_4, w_z_imageChance_5, w_z_imageChance_6, xz_2, al_10, g2, nI_clamp (show i < 2 ^ 31 by omega), i10, Bool.false_eq_true, eq_self, true_or, or_true, if_true, if_false, gv_int, gv_ref, av_some, al_some, un_int, un_ref, un_mk, ok4_0, ok4_1, ok4_2, ok4_3, ok4_4, Kn_some, Kn_none, true_and, and_true]
theorem e_z_forgetActs {A B : Nat} {M : Mm} {Q : Po} : WP 46 0 [.ref 7] [] (shw A B) (0, 0) M Q = Q none (shw A B) (up M 7 4 0) := by
  simp only [w_z_forgetActs_0, w_z_forgetActs_1, w_z_forgetActs_2, w_z_forgetActs_5, xz_4, i10, Bool.false_eq_true, eq_self, true_or, or_true, if_true, if_false, gv_int, gv_ref, av_some, al_some, un_int, un_ref, un_mk, ok4_0, ok4_1, ok4_2, ok4_3, ok4_4, Kn_some, Kn_none, true_and, and_true]
theorem e_z_keepImage {A B i : Nat} {M : Mm} {Q : Po} {x y : Int32} (hi : i < 2) : WP 50 0 [.ref 7, .int (nI i), .int x, .int y] [] (shw A B) (0, 0) M Q = Q none (shw A B) (up (up (up (up M 9 i x) 10 i y) 11 i 1) 7 4 0) := by
  have g2 : vp_in (nI i) 2 := vp_in_nI hi (by decide)
  simp only [w_z_keepImage_0, w_z_keepImage_1, w_z_keepImage_4, w_z_keepImage_5, w_z_keepImage_6, w_z_keepImage_7, w_z_keepImage_8, w_z_keepImage_11, w_z_keepImage_12, w_z_keepImage_13, w_z_keepImage_14, w_z_keepImage_15, w_z_keepImage_18, w_z_keepImage_19, w_z_keepImage_20, w_z_keepImage_21, w_z_keepImage_22, w_z_keepImage_25, xz_1, al_9, xz_2, al_10, xz_3, al_11, cl_7, g2, nI_clamp (show i < 2 ^ 31 by omega), e_z_forgetActs, i10, Bool.false_eq_true, eq_self, true_or, or_true, if_true, if_false, gv_int, gv_ref, av_some, al_some, un_int, un_ref, un_mk, ok4_0, ok4_1, ok4_2, ok4_3, ok4_4, Kn_some, Kn_none, true_and, and_true]
theorem e_z_takeLatest {A B u : Nat} {M : Mm} {Q : Po} (hu : M 7 4 = nI (u + 1)) (h20 : u < 20) : WP 49 0 [.ref 7] [] (shw A B) (0, 0) M Q = Q (some (.int (M 8 u))) (shw A B) (up M 7 4 (nI u)) := by
  have g1 : (0 : Int32) < nI (u + 1) := nI_lt (a := 0) (by omega) (by omega)
  have g2 : vp_in (nI u) 20 := vp_in_nI h20 (by decide)
  have e : nI (u + 1) - 1 = nI u := pk_sub (a := u + 1) (b := 1) (by omega)
  simp only [w_z_takeLatest_0, w_z_takeLatest_1, w_z_takeLatest_4, w_z_takeLatest_7, w_z_takeLatest_8, w_z_takeLatest_9, w_z_takeLatest_12, w_z_takeLatest_13, w_z_takeLatest_14, w_z_takeLatest_17, w_z_takeLatest_18, w_z_takeLatest_21, w_z_takeLatest_22, w_z_takeLatest_25, w_z_takeLatest_26, xz_4, xz_0, al_8, hu, g1, e, g2, show ∀ x, up M 7 4 x 7 4 = x from fun _ => rfl, show ∀ x, up M 7 4 x 8 = M 8 from fun _ => rfl, nI_clamp (show u < 2 ^ 31 by omega), i10, Bool.false_eq_true, eq_self, true_or, or_true, if_true, if_false, gv_int, gv_ref, av_some, al_some, un_int, un_ref, un_mk, ok4_0, ok4_1, ok4_2, ok4_3, ok4_4, Kn_some, Kn_none, true_and, and_true]
