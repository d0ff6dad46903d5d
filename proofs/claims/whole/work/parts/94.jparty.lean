/-! both read alike -/
theorem JP.fr2 {M M' : Mm} {A K C N : Nat} (h : JP M A K C N) (hf : ∀ c, A ≤ c → c ≤ A + 9 → M' c = M c) (h1 : M' 58 0 = M 58 0 ∧ M' 58 3 = M 58 3 ∧ M' 58 7 = M 58 7) (h2 : M' 59 = M 59 ∧ M' 60 = M 60 ∧ M' 61 = M 61 ∧ M' 62 = M 62 ∧ M' 63 = M 63 ∧ M' 64 = M 64) : JP M' A K C N := by
  obtain ⟨a0, a3, a7⟩ := h1
  obtain ⟨b1, b2, b3, b4, b5, b6⟩ := h2
  have ek : kN M' = kN M := by unfold kN; rw [b6]
  have ew : wN M' = wN M := by unfold wN; rw [b3, b4]
  have et : wT M' = wT M := by unfold wT; rw [ew, ek]
  obtain ⟨c1, c2, c3, c4, c5, c6, c7, c8⟩ := h
  refine ⟨?_, ?_, ?_, ?_, ?_, ?_, ?_, ?_⟩
  · unfold MD at c1 ⊢; rw [a0, a3, a7, b6]; exact c1
  · rw [ek, et, b5]; exact c2.fr hf
  · rw [hf (A + 1) (by omega) (by omega), hf (A + 2) (by omega) (by omega), b1, b2]; exact c3
  · rw [hf (A + 3) (by omega) (by omega), b3]; exact c4
  · rw [hf (A + 5) (by omega) (by omega), hf (A + 6) (by omega) (by omega), b4, ew]; exact c5
  · rw [b5]; exact c6
  · rw [b4]; exact c7
  · rw [ek]; exact c8
theorem e_r_clear {A B : Nat} {M : Mm} {Q : Po} : WP 58 0 [.ref 1] [] (shw A B) (0, 0) M Q = Q none (shw A B) (up M 1 1 0) := by
  simp only [w_r_clear_0, w_r_clear_1, w_r_clear_2, w_r_clear_5, xr_1, i10, Bool.false_eq_true, eq_self, true_or, or_true, if_true, if_false, gv_int, gv_ref, av_some, al_some, un_int, un_ref, un_mk, ok4_0, ok4_1, ok4_2, ok4_3, ok4_4, Kn_some, Kn_none, true_and, and_true]
theorem e_s_forget {A B : Nat} {M : Mm} {Q : Po} : WP 73 0 [.ref 21] [] (shw A B) (0, 0) M Q = Q none (shw A B) (up M 21 3 0) := by
  simp only [w_s_forget_0, w_s_forget_1, w_s_forget_2, w_s_forget_5, xs_3, i10, Bool.false_eq_true, eq_self, true_or, or_true, if_true, if_false, gv_int, gv_ref, av_some, al_some, un_int, un_ref, un_mk, ok4_0, ok4_1, ok4_2, ok4_3, ok4_4, Kn_some, Kn_none, true_and, and_true]
theorem e_z_clear {A B : Nat} {M : Mm} {Q : Po} : WP 45 0 [.ref 7, mk] [] (shw A B) (0, 0) M Q = Q none (shw A B) (up (up (up M 7 4 0) 11 0 0) 11 1 0) := by
  have i0 : vp_in (nI 0) 2 := vp_in_nI (by decide) (by decide)
  have i1 : vp_in (nI 1) 2 := vp_in_nI (by decide) (by decide)
  refine WP.is (fun Q hQ => ?_)
  simp only [w_z_clear_0, w_z_clear_1, w_z_clear_2, w_z_clear_5, w_z_clear_6, w_z_clear_8, w_z_clear_9, w_z_clear_12, w_z_clear_13, w_z_clear_16, w_z_clear_17, w_z_clear_18, w_z_clear_19, w_z_clear_22, w_z_clear_25, xz_4, xz_3, al_11, i10, Bool.false_eq_true, eq_self, true_or, or_true, if_true, if_false, gv_int, gv_ref, av_some, al_some, un_int, un_ref, un_mk, ok4_0, ok4_1, ok4_2, ok4_3, ok4_4, Kn_some, Kn_none, true_and, and_true]
  rw [w_z_clear_7]
  simp only [w_z_clear_0, w_z_clear_1, w_z_clear_2, w_z_clear_5, w_z_clear_6, w_z_clear_8, w_z_clear_9, w_z_clear_12, w_z_clear_13, w_z_clear_16, w_z_clear_17, w_z_clear_18, w_z_clear_19, w_z_clear_22, w_z_clear_25, xz_4, xz_3, al_11, show ((0 : Int32) < 2) = True by decide, show vp_in (0 : Int32) 2 from i0, show ((0 : Int32).toNatClampNeg) = 0 by decide, show (0 : Int32) + 1 = 1 by decide, i10, Bool.false_eq_true, eq_self, true_or, or_true, if_true, if_false, gv_int, gv_ref, av_some, al_some, un_int, un_ref, un_mk, ok4_0, ok4_1, ok4_2, ok4_3, ok4_4, Kn_some, Kn_none, true_and, and_true]
  rw [w_z_clear_7]
  simp only [w_z_clear_0, w_z_clear_1, w_z_clear_2, w_z_clear_5, w_z_clear_6, w_z_clear_8, w_z_clear_9, w_z_clear_12, w_z_clear_13, w_z_clear_16, w_z_clear_17, w_z_clear_18, w_z_clear_19, w_z_clear_22, w_z_clear_25, xz_4, xz_3, al_11, show ((1 : Int32) < 2) = True by decide, show vp_in (1 : Int32) 2 from i1, show ((1 : Int32).toNatClampNeg) = 1 by decide, show (1 : Int32) + 1 = 2 by decide, i10, Bool.false_eq_true, eq_self, true_or, or_true, if_true, if_false, gv_int, gv_ref, av_some, al_some, un_int, un_ref, un_mk, ok4_0, ok4_1, ok4_2, ok4_3, ok4_4, Kn_some, Kn_none, true_and, and_true]
  rw [w_z_clear_7]
  simp only [w_z_clear_0, w_z_clear_1, w_z_clear_2, w_z_clear_5, w_z_clear_6, w_z_clear_8, w_z_clear_9, w_z_clear_12, w_z_clear_13, w_z_clear_16, w_z_clear_17, w_z_clear_18, w_z_clear_19, w_z_clear_22, w_z_clear_25, xz_4, xz_3, al_11, show ((2 : Int32) < 2) = False by decide, i10, Bool.false_eq_true, eq_self, true_or, or_true, if_true, if_false, gv_int, gv_ref, av_some, al_some, un_int, un_ref, un_mk, ok4_0, ok4_1, ok4_2, ok4_3, ok4_4, Kn_some, Kn_none, true_and, and_true]
  exact hQ
theorem ex_ref (q : Nat) : (some (Value.ref q) = some Value.null ∨ ∃ q0, some (Value.ref q) = some (Value.ref q0)) = True := eq_true (Or.inr ⟨q, rfl⟩)
/-- the component's memory behind a new party -/
def PX (M1 : Mm) : Mm := up (up (up (up (up (up (up (up (up (st (up M1 1 1 0) 4 (flF (-1) 7 (up M1 1 1 0 4))) 7 4 0) 11 0 0) 11 1 0) 12 0 0) 12 1 0) 12 2 0) 12 5 0) 21 3 0) 29 4 0
theorem PX_hi {M1 : Mm} {c : Nat} (hc : 30 ≤ c) : PX M1 c = M1 c := by
  unfold PX
  simp only [up_c, st_at]
  repeat rw [if_neg (by omega)]
theorem j_party {A B : Nat} {M : Mm} (hj : JJ M A B) : WP 106 0 [.ref 0, mk, mk] [] (shw A B) (0, 0) M (JQ 160 [.ref 58, mk]) := by
  obtain ⟨K, C, N, h⟩ := id hj
  obtain ⟨h0, h1, h2, h3, h4, h5, h6, h7, h8, h9, h10⟩ := id h
  have hp := h0.pp
  obtain ⟨c1, c2, c3, c4, c5, c6, c7, c8⟩ := id h1
  obtain ⟨d1, d2, d3, d4⟩ := id h2
  obtain ⟨⟨m1, m2, m3⟩, m4, m5, m6⟩ := id c2.1
  have hv : HV (M 4) C := by rw [d1]; exact d2
  obtain ⟨k, k1, k2, k3, k4, k5, k6⟩ := id h3
  have hB : isPP B := by unfold AB at h0; unfold isPP; omega
  have hab : (38 ≤ A ∧ A ≤ 48) ∧ (38 ≤ B ∧ B ≤ 48) ∧ (A + 9 < B ∨ B + 9 < A) := by unfold AB at h0; omega
  simp only [w_c_party_0, w_c_party_1, w_c_party_4, w_c_party_5, w_c_party_8, w_c_party_11, w_c_party_12, w_c_party_13, w_c_party_16, w_c_party_19, w_c_party_20, w_c_party_23, w_c_party_25, w_c_party_26, w_c_party_27, w_c_party_28, w_c_party_29, w_c_party_32, w_c_party_33, w_c_party_34, w_c_party_35, w_c_party_38, w_c_party_41, w_c_party_42, w_c_party_43, w_c_party_46, w_c_party_47, w_c_party_50, w_c_party_53, w_c_party_54, w_c_party_57, w_c_party_60, w_c_party_61, w_c_party_64, w_c_party_67, w_c_party_68, w_c_party_71, w_c_party_74, w_c_party_75, w_c_party_78, w_c_party_81, w_c_party_82, w_c_party_85, w_c_party_88, xc_0, xc_9, cl_1, xc_8, xc_1, xc_3, cl_7, xc_4, cl_12, xc_6, cl_21, xc_7, cl_29, cl_1, i10, Bool.false_eq_true, eq_self, true_or, or_true, if_true, if_false, gv_int, gv_ref, av_some, al_some, un_int, un_ref, un_mk, ok4_0, ok4_1, ok4_2, ok4_3, ok4_4, Kn_some, Kn_none, true_and, and_true]
  rcases partyC_o (M 2) k (k + 1) 0 0 0 0 M with ⟨e, y, ho⟩ | ⟨K', C', N', F', ho⟩
  · refine c_readInto (F0 := M) hB k2 k1 ?_
    rw [ho]
    intro he M1 hF hS
    have he0 := ne_0 he
    simp only [w_c_party_0, w_c_party_1, w_c_party_4, w_c_party_5, w_c_party_8, w_c_party_11, w_c_party_12, w_c_party_13, w_c_party_16, w_c_party_19, w_c_party_20, w_c_party_23, w_c_party_25, w_c_party_26, w_c_party_27, w_c_party_28, w_c_party_29, w_c_party_32, w_c_party_33, w_c_party_34, w_c_party_35, w_c_party_38, w_c_party_41, w_c_party_42, w_c_party_43, w_c_party_46, w_c_party_47, w_c_party_50, w_c_party_53, w_c_party_54, w_c_party_57, w_c_party_60, w_c_party_61, w_c_party_64, w_c_party_67, w_c_party_68, w_c_party_71, w_c_party_74, w_c_party_75, w_c_party_78, w_c_party_81, w_c_party_82, w_c_party_85, w_c_party_88, xc_0, xc_9, cl_1, xc_8, xc_1, xc_3, cl_7, xc_4, cl_12, xc_6, cl_21, xc_7, cl_29, e_r_clear, cl_1, eq_false he0, i10, Bool.false_eq_true, eq_self, true_or, or_true, if_true, if_false, gv_int, gv_ref, av_some, al_some, un_int, un_ref, un_mk, ok4_0, ok4_1, ok4_2, ok4_3, ok4_4, Kn_some, Kn_none, true_and, and_true]
    refine JQ.mk ?_
    have hc : ∀ c, ¬ (B ≤ c ∧ c ≤ B + 9) → ¬ c = 1 → up M1 1 1 0 c = M c := fun c h1 h2 => funext (fun j => by
      rw [up_c, if_neg h2]; exact hF c j h1 (fun e => absurd e h2))
    have e66 : up M1 1 1 0 66 = M 66 := hc 66 (by omega) (by decide)
    have e58 : up M1 1 1 0 58 = M 58 := hc 58 (by omega) (by decide)
    refine r_party2 (tl := k) (F0 := M) (by rw [e58]; exact k3) k1 (by rw [e66]; exact k5) (fun c c1 c2 => hc c (by omega) (by omega)) ?_
    rw [e66, ← k4, ho]
    intro _ M2 hFr hfp
    have h2c : ∀ c, ¬ (67 ≤ c ∧ c ≤ 72) → ¬ c = 58 → M2 c = up M1 1 1 0 c := fun c h1 h2 => funext (fun j => hFr c j (by unfold scr; omega))
    have hall : ∀ c, ¬ (B ≤ c ∧ c ≤ B + 9) → ¬ c = 1 → ¬ (67 ≤ c ∧ c ≤ 72) → ¬ c = 58 → up M2 58 12 0 c = M c := fun c a1 a2 a3 a4 => by
      rw [up_c, if_neg a4, h2c c a3 a4]; exact hc c a1 a2
    have h58 : ∀ j, ¬ (12 ≤ j ∧ j ≤ 17) → ¬ j = 20 → ¬ j = 24 → up M2 58 12 0 58 j = M 58 j := fun j a1 a2 a3 => by
      rw [up_at, if_pos rfl, if_neg (by omega), hFr 58 j (by unfold scr; omega), e58]
    have hFX : wT (up M2 58 12 0) = wT M := by
      have ek : kN (up M2 58 12 0) = kN M := by unfold kN; rw [hall 64 (by omega) (by omega) (by omega) (by omega)]
      have ew : wN (up M2 58 12 0) = wN M := by unfold wN; rw [hall 61 (by omega) (by omega) (by omega) (by omega), hall 62 (by omega) (by omega) (by omega) (by omega)]
      unfold wT
      rw [ew, ek]
    refine ⟨rfl, rfl, K, C, N, h0, h1.fr2 (fun c a1 a2 => hall c (by omega) (by omega) (by omega) (by omega)) ⟨h58 0 (by omega) (by omega) (by omega), h58 3 (by omega) (by omega) (by omega), h58 7 (by omega) (by omega) (by omega)⟩ ⟨hall 59 (by omega) (by omega) (by omega) (by omega), hall 60 (by omega) (by omega) (by omega) (by omega), hall 61 (by omega) (by omega) (by omega) (by omega), hall 62 (by omega) (by omega) (by omega) (by omega), hall 63 (by omega) (by omega) (by omega) (by omega), hall 64 (by omega) (by omega) (by omega) (by omega)⟩, ?_, ?_, ?_, ?_, ?_, ?_, ?_, ?_, ?_⟩
    · rw [hall 4 (by omega) (by omega) (by omega) (by omega), hall 17 (by omega) (by omega) (by omega) (by omega), hall 65 (by omega) (by omega) (by omega) (by omega)]; exact h2
    · refine ⟨0, by omega, ?_, rfl, ?_, fun i hi => absurd hi (Nat.not_lt_zero _), ?_⟩
      · show M2 1 1 = 0
        rw [h2c 1 (by omega) (by omega)]; rfl
      · rw [hall 2 (by omega) (by omega) (by omega) (by omega), hall 66 (by omega) (by omega) (by omega) (by omega)]; exact k4
      · show M2 1 5 = M2 58 13
        rw [h2c 1 (by omega) (by omega), hfp]
        exact hS.2.2
    · rw [hall 7 (by omega) (by omega) (by omega) (by omega), hall 8 (by omega) (by omega) (by omega) (by omega), h58 26 (by omega) (by omega) (by omega), hall 73 (by omega) (by omega) (by omega) (by omega)]; exact h4
    · rw [hall 9 (by omega) (by omega) (by omega) (by omega), hall 10 (by omega) (by omega) (by omega) (by omega), hall 11 (by omega) (by omega) (by omega) (by omega), hall 83 (by omega) (by omega) (by omega) (by omega), hall 84 (by omega) (by omega) (by omega) (by omega)]; exact h5
    · rw [hall 12 (by omega) (by omega) (by omega) (by omega), h58 30 (by omega) (by omega) (by omega), hall 76 (by omega) (by omega) (by omega) (by omega), hall 77 (by omega) (by omega) (by omega) (by omega), hall 78 (by omega) (by omega) (by omega) (by omega)]; exact h6
    · rw [hall 12 (by omega) (by omega) (by omega) (by omega), h58 37 (by omega) (by omega) (by omega), hall 13 (by omega) (by omega) (by omega) (by omega), hall 14 (by omega) (by omega) (by omega) (by omega), hall 81 (by omega) (by omega) (by omega) (by omega), hall 82 (by omega) (by omega) (by omega) (by omega)]; exact h7
    · rw [hall 0 (by omega) (by omega) (by omega) (by omega), h58 10 (by omega) (by omega) (by omega)]; exact h8
    · unfold JS SHK at h9 ⊢
      rw [hFX, hall 21 (by omega) (by omega) (by omega) (by omega), hall 28 (by omega) (by omega) (by omega) (by omega), hall 63 (by omega) (by omega) (by omega) (by omega)]; exact h9
    · unfold JG GK GI at h10 ⊢
      rw [hFX, hall 29 (by omega) (by omega) (by omega) (by omega), hall 36 (by omega) (by omega) (by omega) (by omega), hall 37 (by omega) (by omega) (by omega) (by omega), hall 63 (by omega) (by omega) (by omega) (by omega), hall 76 (by omega) (by omega) (by omega) (by omega), hall 77 (by omega) (by omega) (by omega) (by omega), hall 78 (by omega) (by omega) (by omega) (by omega), h58 30 (by omega) (by omega) (by omega)]; exact h10
  · refine c_readInto (F0 := M) hB k2 k1 ?_
    rw [ho]
    intro hO M1 hF hfp hD
    have hc : ∀ c, ¬ (B ≤ c ∧ c ≤ B + 9) → ¬ c = 1 → M1 c = M c := fun c a1 a2 => funext (fun j => hF c j a1 (fun e => absurd e a2))
    have pB1 : PX M1 B 1 = nI C' := by rw [PX_hi (by omega)]; exact hD.1.1.2.1
    have pXe : up (up (up (up (up (up (up (up (up (st (up M1 1 1 0) 4 (flF (-1) 7 (up M1 1 1 0 4))) 7 4 0) 11 0 0) 11 1 0) 12 0 0) 12 1 0) 12 2 0) 12 5 0) 21 3 0) 29 4 0 = PX M1 := rfl
    simp only [w_c_party_0, w_c_party_1, w_c_party_4, w_c_party_5, w_c_party_8, w_c_party_11, w_c_party_12, w_c_party_13, w_c_party_16, w_c_party_19, w_c_party_20, w_c_party_23, w_c_party_25, w_c_party_26, w_c_party_27, w_c_party_28, w_c_party_29, w_c_party_32, w_c_party_33, w_c_party_34, w_c_party_35, w_c_party_38, w_c_party_41, w_c_party_42, w_c_party_43, w_c_party_46, w_c_party_47, w_c_party_50, w_c_party_53, w_c_party_54, w_c_party_57, w_c_party_60, w_c_party_61, w_c_party_64, w_c_party_67, w_c_party_68, w_c_party_71, w_c_party_74, w_c_party_75, w_c_party_78, w_c_party_81, w_c_party_82, w_c_party_85, w_c_party_88, xc_0, xc_9, cl_1, xc_8, xc_1, xc_3, cl_7, xc_4, cl_12, xc_6, cl_21, xc_7, cl_29, e_r_clear, cl_1, ex_ref, shw_swap, shw_swap2, e_h_layAllOnTable isHH_3, show (3 + 1 : Nat) = 4 from rfl, e_z_clear, e_n_clear, e_s_forget, e_g_forget, cl_0, cl_1, cl_3, cl_5, cl_7, cl_12, cl_15, cl_21, cl_29, zpp hp, pXe, xpp_1 hB, pB1, i10, Bool.false_eq_true, eq_self, true_or, or_true, if_true, if_false, gv_int, gv_ref, av_some, al_some, un_int, un_ref, un_mk, ok4_0, ok4_1, ok4_2, ok4_3, ok4_4, Kn_some, Kn_none, true_and, and_true]
    refine ⟨nI C', B, A, rfl, rfl, ?_⟩
    have p66 : PX M1 66 = M 66 := (PX_hi (by decide)).trans (hc 66 (by omega) (by decide))
    have p58 : PX M1 58 = M 58 := (PX_hi (by decide)).trans (hc 58 (by omega) (by decide))
    refine r_party2 (tl := k) (F0 := M) (by rw [p58]; exact k3) k1 (by rw [p66]; exact k5) (fun c c1 c2 => (PX_hi (by omega)).trans (hc c (by omega) (by omega))) ?_
    rw [p66, ← k4, ho]
    intro _ M0 M2 pp hFr hRS hPJ
    obtain ⟨⟨z0, z3, z7⟩, zF, z59, z61, z62, -, z64⟩ := hPJ
    have m0 : ∀ c, ¬ (67 ≤ c ∧ c ≤ 72) → ¬ c = 58 → M0 c = PX M1 c := fun c a1 a2 => funext (fun j => hFr c j (by unfold scr; omega))
    have tb : ∀ c, 67 ≤ c → c ≤ 72 → up M0 58 12 0 c = F' c := fun c a1 a2 => by
      rw [up_c, if_neg (by omega)]; exact hRS.2.2.2.2 c a1 a2
    have m2 : ∀ c, ¬ (59 ≤ c ∧ c ≤ 72) → ¬ c = 58 → M2 c = PX M1 c ∨ c = 66 := fun c a1 a2 => Or.inl (by
      rw [zF.cell a2 (by omega), up_c, if_neg a2]; exact m0 c (by omega) a2)
    have m2c : ∀ c, ¬ (59 ≤ c ∧ c ≤ 72) → ¬ c = 58 → M2 c = PX M1 c := fun c a1 a2 => by
      rw [zF.cell a2 (by omega), up_c, if_neg a2]; exact m0 c (by omega) a2
    have m66 : M2 66 = M 66 := by
      rw [zF.cell (by decide) (by decide), up_c, if_neg (by decide), m0 66 (by decide) (by decide)]; exact p66
    have m58 : ∀ j, ¬ (j = 0 ∨ j = 3 ∨ j = 7) → ¬ (12 ≤ j ∧ j ≤ 17) → ¬ j = 20 → ¬ j = 24 → M2 58 j = M 58 j := fun j a0 a1 a2 a3 => by
      rw [zF 58 j (fun _ => by omega) (by decide) (by omega), up_at, if_pos rfl, if_neg (by omega), hFr 58 j (by unfold scr; omega), p58]
    have m12 : M2 58 12 = 0 := by
      rw [zF 58 12 (fun _ => by omega) (by decide) (by omega)]; rfl
    have m13 : M2 58 13 = -1 := by
      rw [zF 58 13 (fun _ => by omega) (by decide) (by omega)]
      exact hRS.1.2.1.2
    have m65 : ∀ j, ¬ j < 7 → M2 65 j = 0 := fun j hj => by
      rw [zF 65 j (fun e => absurd e (by decide)) (by decide) (by omega), up_at, if_neg (by decide), m0 65 (by decide) (by decide), PX_hi (by decide), hc 65 (by omega) (by decide)]
      exact d4 j hj
    rw [tb 67 (by decide) (by decide), tb 68 (by decide) (by decide)] at z59
    rw [tb 69 (by decide) (by decide), tb 71 (by decide) (by decide)] at z61
    rw [tb 70 (by decide) (by decide)] at z62
    rw [tb 72 (by decide) (by decide)] at z64
    obtain ⟨⟨oK, oC, oN⟩, o1, o2, o3⟩ := id hO
    have cB : ∀ c, B ≤ c → c ≤ B + 9 → PE M2 c = M1 c := fun c a1 a2 => by
      have e : PE M2 c = M2 c := by
        unfold PE
        simp only [up_c]
        repeat rw [if_neg (by omega)]
      rw [e, m2c c (by omega) (by omega), PX_hi (by omega)]
    have hD2 : CD (PE M2) B K' C' N' F' := hD.fr cB
    obtain ⟨hcp, t1, t2, t3, t4, ⟨P, l1, l2, p1, p2, p3, p4⟩, dd⟩ := hD2
    have kt : ∀ t, t < N' → ∃ j, j < K' ∧ M2 64 t = nI j := by
      intro t ht
      rw [(z64 t (by omega)).1, if_pos ht]
      exact inb_of (o3 t ht) (by omega)
    have kk : ∀ t, t < N' → kN (PE M2) t < K' ∧ M2 64 t = nI (kN (PE M2) t) := by
      intro t ht
      obtain ⟨j, j1, j2⟩ := kt t ht
      have e : kN (PE M2) t = j := by
        show (M2 64 t).toNatClampNeg = j
        rw [j2, nI_clamp (by omega)]
      rw [e]; exact ⟨j1, j2⟩
    have wn : ∀ i k, i < C' → k < K' → wN (PE M2) i k = if bt (F' 69 i) (nI k) then 0 else F' 70 (5 * i + k) := by
      intro i k hi hk
      show (if bt (M2 61 i) (nI k) then 0 else M2 62 (5 * i + k)) = _
      rw [(z61 i hi).1, z62 i k hi hk]
    refine ⟨rfl, rfl, K', C', N', ?_, ⟨⟨z0, z3, z7, oK, oC, oN, ?_⟩, ⟨hcp, ?_, ?_, ?_, P, l1, l2, p1, p2, p3, ?_⟩, ?_, ?_, ?_, ?_, ?_, fun t ht => (kk t ht).1⟩, ?_, ?_, ?_, ?_, ?_, ?_, ?_, Or.inl ?_, Or.inl ?_⟩
    · unfold AB at h0 ⊢; omega
    · intro t ht
      show ∃ j, j < 5 ∧ M2 64 t = nI j
      by_cases q : t < N'
      · obtain ⟨j, j1, j2⟩ := kt t q
        exact ⟨j, by omega, j2⟩
      · rw [(z64 t ht).1, if_neg q]; exact ⟨0, by omega, rfl⟩
    · intro t ht
      have e := kk t ht
      refine ⟨?_, by omega⟩
      rw [t4 t ht, ← e.2, (z64 t (by omega)).1, if_pos ht]
    · intro i t hi ht
      have e := kk t ht
      rw [(t3 i _ hi e.1).2]
      exact (wn i _ hi e.1).symm
    · intro i hi
      rw [(t2 i hi).2]
      exact (z61 i hi).2.symm
    · refine PL_eq p4 (fun k hk => ?_)
      unfold lkB
      by_cases q : k / 4 < C'
      · show (decide (k / 4 < C') && (decide (k % 4 < C') && bt (M2 63 (k / 4)) (nI (k % 4)))) = _
        rw [(z61 _ q).2]
      · rw [decide_eq_false q, Bool.false_and, Bool.false_and]
    · intro k hk
      exact ⟨(t1 k hk).1.trans (z59 k hk).1.symm, (t1 k hk).2.trans (z59 k hk).2.symm⟩
    · intro i hi
      exact (t2 i hi).1.trans (z61 i hi).1.symm
    · intro i k hi hk
      refine ⟨(t3 i k hi hk).1.trans (z62 i k hi hk).symm, ?_⟩
      rw [(t3 i k hi hk).2, wn i k hi hk]
    · intro i j hi hj
      show bt (M2 63 i) (nI j) = true → _
      rw [(z61 i hi).2]
      intro z
      exact (dd i j hi hj z).1
    · intro i k hi hk
      show ∃ x, x ≤ 99 ∧ M2 62 (5 * i + k) = nI x
      rw [z62 i k hi hk]
      have r := o2 i k hi hk
      rw [show (99 : Int32).toInt64 = (nI 100 - 1).toInt64 from by decide, show (0 : Int64) = 0 from rfl, rng_n (by decide)] at r
      obtain ⟨x, x1, x2⟩ := inb_of r (by decide)
      exact ⟨x, by omega, x2⟩
    · have e4 : PE M2 4 = flF (-1) 7 (M 4) := by
        show M2 4 = _
        rw [m2c 4 (by decide) (by decide)]
        show flF (-1) 7 (M1 4) = _
        rw [hc 4 (by omega) (by decide)]
      have e17 : PE M2 17 = M 17 := by
        show M2 17 = _
        rw [m2c 17 (by decide) (by decide)]
        show M1 17 = _
        exact hc 17 (by omega) (by decide)
      rw [e4, e17]
      show JH _ _ (M2 65) C'
      refine ⟨?_, fun t ht => Or.inl (z64 t ht).2, fun j hj => ?_, m65⟩
      · funext j
        unfold flF
        by_cases q : j < 7
        · rw [if_pos q, (z64 j q).2]
        · rw [if_neg q, m65 j q, d1, d4 j q]
      · rw [d3 j hj, d4 j hj, m65 j hj]
    · refine ⟨0, by omega, ?_, m12, ?_, fun i hi => absurd hi (Nat.not_lt_zero _), ?_⟩
      · show M2 1 1 = 0
        rw [m2c 1 (by decide) (by decide)]; rfl
      · show M2 2 = M2 66
        rw [m66, m2c 2 (by decide) (by decide)]
        show M1 2 = M 66
        rw [hc 2 (by omega) (by decide)]; exact k4
      · show M2 1 5 = M2 58 13
        rw [m13, m2c 1 (by decide) (by decide)]
        exact hfp
    · refine ⟨0, by omega, ?_, rfl, fun j hj => absurd hj (Nat.not_lt_zero _)⟩
      show M2 7 4 = 0
      rw [m2c 7 (by decide) (by decide)]; rfl
    · intro i hi
      have e11 : PE M2 11 i = 0 := by
        show M2 11 i = 0
        rw [m2c 11 (by decide) (by decide)]
        show upd (upd (M1 11) 0 0) 1 0 i = 0
        simp only [upd_at]
        by_cases q : i = 1
        · rw [if_pos q]
        · rw [if_neg q, if_pos (by omega)]
      have e84 : PE M2 84 i = 0 := by
        show upd (upd (M2 84) 0 0) 1 0 i = 0
        simp only [upd_at]
        by_cases q : i = 1
        · rw [if_pos q]
        · rw [if_neg q, if_pos (by omega)]
      exact ⟨e11.trans e84.symm, Or.inl e11⟩
    · refine ⟨0, by omega, ?_, rfl, fun q hq => absurd hq (Nat.not_lt_zero _), ?_, ?_⟩
      · show M2 12 0 = 0
        rw [m2c 12 (by decide) (by decide)]; rfl
      · show M2 12 1 = bS (fun _ => false) 16
        rw [m2c 12 (by decide) (by decide)]
        show (0 : Int32) = bS (fun _ => false) 16
        decide
      · show M2 12 2 = bS (fun _ => false) 16
        rw [m2c 12 (by decide) (by decide)]
        show (0 : Int32) = bS (fun _ => false) 16
        decide
    · refine ⟨0, by omega, ?_, rfl, fun q hq => absurd hq (Nat.not_lt_zero _)⟩
      show M2 12 5 = 0
      rw [m2c 12 (by decide) (by decide)]; rfl
    · show JC (M2 0 10) (M2 58 10)
      rw [m2c 0 (by decide) (by decide), m58 10 (by omega) (by omega) (by omega) (by omega)]
      show JC (M1 0 10) (M 58 10)
      rw [hc 0 (by omega) (by decide)]; exact h8
    · show M2 21 3 = 0
      rw [m2c 21 (by decide) (by decide)]; rfl
    · show M2 29 4 = 0
      rw [m2c 29 (by decide) (by decide)]; rfl
