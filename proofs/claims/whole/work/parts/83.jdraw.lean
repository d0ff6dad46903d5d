/-! both do alike: draws, images -/
theorem dwE_far (i c : Nat) (h : Nat → Int32) : ∀ n j, n ≤ j → (dwE i c n h).2 j = h j
  | 0, j, _ => rfl
  | n + 1, j, hj => by
    rw [dwE_s]
    unfold dwS
    split
    · dsimp only
      rw [upd_at, if_neg (by omega), dwE_far i c h n j (by omega)]
    · exact dwE_far i c h n j (by omega)
theorem dwE_HV {i c : Nat} {h : Nat → Int32} (hc : 0 < c) (hv : HV h c) : ∀ n, HV (dwE i c n h).2 c
  | 0 => hv
  | n + 1 => by
    have ih := dwE_HV (i := i) hc hv n
    rw [dwE_s]
    unfold dwS
    split
    · exact HV_upd ih (Nat.mod_lt _ hc)
    · exact ih
theorem dwE_n {i c : Nat} {h : Nat → Int32} (hv : HV h c) (hc : c ≤ 4) : ∀ n, n ≤ 7 → (dwE i c n h).1 = nS (fun t => decide (h t = -1)) n
  | 0, _ => rfl
  | n + 1, hn => by
    have ih := dwE_n (i := i) hv hc n (by omega)
    have e := dwE_far i c h n n (Nat.le_refl n)
    have hm := neg_m1 hv (show n < 7 by omega) hc
    rw [dwE_s, nS_s]
    unfold dwS
    rw [e]
    by_cases q : h n = -1
    · rw [if_pos (hm.mpr q), decide_eq_true q, if_pos rfl, ih]
    · rw [if_neg (fun z => q (hm.mp z)), decide_eq_false q, if_neg (by decide), ih]; rfl
theorem j_draw {A B : Nat} {M : Mm} {x : Int32} (hj : JJ M A B) : WP 117 0 [.ref 0, .int x, mk, mk, mk] [] (shw A B) (0, 0) M (JQ 184 [.ref 58, .int x, mk, mk]) := by
  obtain ⟨K, C, N, h⟩ := id hj
  obtain ⟨h0, h1, h2, h3, h4, h5, h6, h7, h8, h9, h10⟩ := id h
  have hp := h0.pp
  obtain ⟨c1, c2, c3, c4, c5, c6, c7, c8⟩ := id h1
  obtain ⟨d1, d2, d3, d4⟩ := id h2
  obtain ⟨⟨m1, m2, m3⟩, m4, m5, m6⟩ := id c2.1
  have hv : HV (M 4) C := by rw [d1]; exact d2
  obtain ⟨u, u1, u2, u3, u4⟩ := id h4
  cases hx : inb x C
  · simp only [w_c_draw_0, w_c_draw_1, w_c_draw_4, w_c_draw_5, w_c_draw_8, w_c_draw_11, w_c_draw_13, w_c_draw_14, w_c_draw_15, w_c_draw_18, w_c_draw_19, w_c_draw_20, w_c_draw_23, w_c_draw_26, w_c_draw_29, w_c_draw_30, w_c_draw_31, w_c_draw_34, w_c_draw_36, w_c_draw_37, w_c_draw_38, w_c_draw_41, w_c_draw_42, w_c_draw_45, w_c_draw_48, w_c_draw_51, w_c_draw_52, w_c_draw_53, w_c_draw_54, w_c_draw_58, w_c_draw_59, w_c_draw_62, w_c_draw_65, w_c_draw_68, w_c_draw_69, w_c_draw_72, w_c_draw_74, w_c_draw_77, w_c_draw_78, w_c_draw_81, w_c_draw_82, w_c_draw_85, w_c_draw_87, w_c_draw_88, w_c_draw_91, w_c_draw_92, w_c_draw_93, w_c_draw_94, w_c_draw_95, w_c_draw_98, w_c_draw_101, w_c_draw_104, w_c_draw_105, w_c_draw_106, w_c_draw_107, w_c_draw_110, w_c_draw_111, w_c_draw_112, w_c_draw_115, w_c_draw_118, w_c_draw_119, w_c_draw_122, xc_8, xc_1, xc_3, cl_7, e_p_hasChild hp c2.1, hx, cl_0, cl_1, cl_3, cl_5, cl_7, cl_12, cl_15, cl_21, cl_29, zpp hp, i10, Bool.false_eq_true, eq_self, true_or, or_true, if_true, if_false, gv_int, gv_ref, av_some, al_some, un_int, un_ref, un_mk, ok4_0, ok4_1, ok4_2, ok4_3, ok4_4, Kn_some, Kn_none, true_and, and_true]
    refine JQ.mk ?_
    rw [e_m_draw c1 u3 u1, hx]
    exact ⟨rfl, rfl, hj⟩
  by_cases q : bagE (M 65) N (-1) = 0
  · simp only [w_c_draw_0, w_c_draw_1, w_c_draw_4, w_c_draw_5, w_c_draw_8, w_c_draw_11, w_c_draw_13, w_c_draw_14, w_c_draw_15, w_c_draw_18, w_c_draw_19, w_c_draw_20, w_c_draw_23, w_c_draw_26, w_c_draw_29, w_c_draw_30, w_c_draw_31, w_c_draw_34, w_c_draw_36, w_c_draw_37, w_c_draw_38, w_c_draw_41, w_c_draw_42, w_c_draw_45, w_c_draw_48, w_c_draw_51, w_c_draw_52, w_c_draw_53, w_c_draw_54, w_c_draw_58, w_c_draw_59, w_c_draw_62, w_c_draw_65, w_c_draw_68, w_c_draw_69, w_c_draw_72, w_c_draw_74, w_c_draw_77, w_c_draw_78, w_c_draw_81, w_c_draw_82, w_c_draw_85, w_c_draw_87, w_c_draw_88, w_c_draw_91, w_c_draw_92, w_c_draw_93, w_c_draw_94, w_c_draw_95, w_c_draw_98, w_c_draw_101, w_c_draw_104, w_c_draw_105, w_c_draw_106, w_c_draw_107, w_c_draw_110, w_c_draw_111, w_c_draw_112, w_c_draw_115, w_c_draw_118, w_c_draw_119, w_c_draw_122, xc_8, xc_1, xc_3, cl_7, e_p_hasChild hp c2.1, hx, cl_0, cl_1, cl_3, cl_5, cl_7, cl_12, cl_15, cl_21, cl_29, zpp hp, xpp_2 hp, m3, e_h_bagOf isHH_3 m6, show (3 + 1 : Nat) = 4 from rfl, d1, q, i10, Bool.false_eq_true, eq_self, true_or, or_true, if_true, if_false, gv_int, gv_ref, av_some, al_some, un_int, un_ref, un_mk, ok4_0, ok4_1, ok4_2, ok4_3, ok4_4, Kn_some, Kn_none, true_and, and_true]
    refine JQ.mk ?_
    rw [e_m_draw c1 u3 u1, hx, if_pos rfl, if_pos q]
    exact ⟨rfl, rfl, hj⟩
  obtain ⟨i, i1, rfl⟩ := inb_of hx (by omega)
  have hC : 0 < C := by omega
  simp only [w_c_draw_0, w_c_draw_1, w_c_draw_4, w_c_draw_5, w_c_draw_8, w_c_draw_11, w_c_draw_13, w_c_draw_14, w_c_draw_15, w_c_draw_18, w_c_draw_19, w_c_draw_20, w_c_draw_23, w_c_draw_26, w_c_draw_29, w_c_draw_30, w_c_draw_31, w_c_draw_34, w_c_draw_36, w_c_draw_37, w_c_draw_38, w_c_draw_41, w_c_draw_42, w_c_draw_45, w_c_draw_48, w_c_draw_51, w_c_draw_52, w_c_draw_53, w_c_draw_54, w_c_draw_58, w_c_draw_59, w_c_draw_62, w_c_draw_65, w_c_draw_68, w_c_draw_69, w_c_draw_72, w_c_draw_74, w_c_draw_77, w_c_draw_78, w_c_draw_81, w_c_draw_82, w_c_draw_85, w_c_draw_87, w_c_draw_88, w_c_draw_91, w_c_draw_92, w_c_draw_93, w_c_draw_94, w_c_draw_95, w_c_draw_98, w_c_draw_101, w_c_draw_104, w_c_draw_105, w_c_draw_106, w_c_draw_107, w_c_draw_110, w_c_draw_111, w_c_draw_112, w_c_draw_115, w_c_draw_118, w_c_draw_119, w_c_draw_122, xc_8, xc_1, xc_3, cl_7, e_p_hasChild hp c2.1, hx, cl_0, cl_1, cl_3, cl_5, cl_7, cl_12, cl_15, cl_21, cl_29, zpp hp, xpp_2 hp, m3, e_h_bagOf isHH_3 m6, show (3 + 1 : Nat) = 4 from rfl, d1, eq_false q, e_h_packed isHH_3, e_z_rem u2 u1, i10, Bool.false_eq_true, eq_self, true_or, or_true, if_true, if_false, gv_int, gv_ref, av_some, al_some, un_int, un_ref, un_mk, ok4_0, ok4_1, ok4_2, ok4_3, ok4_4, Kn_some, Kn_none, true_and, and_true]
  have sp : ∀ f, st (up (st M 8 (z8 (M 8) u (pkE (M 65) 7))) 7 4 (nI (rmU u))) 4 f A = M A := by
    intro f
    have := h0.pp
    unfold isPP at this
    rw [st_at, if_neg (by omega), up_c, if_neg (by omega), st_at, if_neg (by omega)]
  have := for_up (n := N) (P := fun t => WP 117 56 [.ref 0, .int (nI i), .int (bagE (M 65) N (-1)), .int (nI ((i + (dwE i C t (M 65)).1) % C)), .int (nI t)] [] (shw A B) (0, 0) (st (up (st M 8 (z8 (M 8) u (pkE (M 65) 7))) 7 4 (nI (rmU u))) 4 (dwE i C t (M 65)).2) (JQ 184 [.ref 58, .int (nI i), mk, mk])) ?_ ?_
  · rw [show (i + (dwE i C 0 (M 65)).1) % C = i from Nat.mod_eq_of_lt i1, show st (up (st M 8 (z8 (M 8) u (pkE (M 65) 7))) 7 4 (nI (rmU u))) 4 (dwE i C 0 (M 65)).2 = up (st M 8 (z8 (M 8) u (pkE (M 65) 7))) 7 4 (nI (rmU u)) from by
      show st _ 4 (M 65) = _
      rw [← d1]
      exact st_self (up (st M 8 (z8 (M 8) u (pkE (M 4) 7))) 7 4 (nI (rmU u))) 4] at this
    exact this
  · have eb : bcE (bagE (M 65) N (-1)) = nI (dwE i C N (M 65)).1 := by
      rw [bagE_bS, bc_bS _ (by omega), dwE_n d2 m5 N m6]
    rw [w_c_draw_56]
    simp only [w_c_draw_0, w_c_draw_1, w_c_draw_4, w_c_draw_5, w_c_draw_8, w_c_draw_11, w_c_draw_13, w_c_draw_14, w_c_draw_15, w_c_draw_18, w_c_draw_19, w_c_draw_20, w_c_draw_23, w_c_draw_26, w_c_draw_29, w_c_draw_30, w_c_draw_31, w_c_draw_34, w_c_draw_36, w_c_draw_37, w_c_draw_38, w_c_draw_41, w_c_draw_42, w_c_draw_45, w_c_draw_48, w_c_draw_51, w_c_draw_52, w_c_draw_53, w_c_draw_54, w_c_draw_58, w_c_draw_59, w_c_draw_62, w_c_draw_65, w_c_draw_68, w_c_draw_69, w_c_draw_72, w_c_draw_74, w_c_draw_77, w_c_draw_78, w_c_draw_81, w_c_draw_82, w_c_draw_85, w_c_draw_87, w_c_draw_88, w_c_draw_91, w_c_draw_92, w_c_draw_93, w_c_draw_94, w_c_draw_95, w_c_draw_98, w_c_draw_101, w_c_draw_104, w_c_draw_105, w_c_draw_106, w_c_draw_107, w_c_draw_110, w_c_draw_111, w_c_draw_112, w_c_draw_115, w_c_draw_118, w_c_draw_119, w_c_draw_122, xc_8, xc_1, xc_3, cl_7, xpp_2 hp, sp, m3, lt_irr, e_j_bitCount, eb, i10, Bool.false_eq_true, eq_self, true_or, or_true, if_true, if_false, gv_int, gv_ref, av_some, al_some, un_int, un_ref, un_mk, ok4_0, ok4_1, ok4_2, ok4_3, ok4_4, Kn_some, Kn_none, true_and, and_true]
    refine JQ.mk ?_
    refine Eq.mpr (e_m_draw (u := u) c1 u3 u1) ?_
    rw [nI_clamp (show i < 2 ^ 31 by omega)]
    refine ite_t hx (ite_f q ?_)
    refine ⟨rfl, rfl, K, C, N, h0, h1.fr h0 ?_ ⟨rfl, rfl, rfl⟩ ⟨rfl, rfl, rfl, rfl, rfl, rfl⟩, ?_, h3, JZ_rem u1 u4 d2, h5, h6, h7, h8, h9, h10⟩
    · intro c c1 c2
      simp only [RM, up_c, st_at]
      repeat rw [if_neg (by omega)]
    · exact JH_new h2 (dwE_HV hC d2 N) (fun j hj => (dwE_far i C (M 65) N j (by omega)).trans (d4 j hj))
  · intro t ht ih
    have g1 : nI t < nI N := nI_lt ht (by omega)
    have e := dwE_far i C (M 65) t t (Nat.le_refl t)
    have hm := neg_m1 d2 (show t < 7 by omega) m5
    have hle := dwE_le i C (M 65) t
    rw [dwE_s] at ih
    unfold dwS at ih
    rw [e] at ih
    rw [w_c_draw_56]
    generalize dwE i C t (M 65) = s0 at ih e hle ⊢
    by_cases r : M 65 t = -1
    · rw [if_pos (hm.mpr r)] at ih
      dsimp only at ih
      rw [show i + (s0.1 + 1) = i + s0.1 + 1 by omega, mod_step hC] at ih
      have ml := Nat.mod_lt (i + s0.1) hC
      by_cases z : (i + s0.1) % C + 1 < C
      · rw [if_pos z] at ih
        have z' : nI ((i + s0.1) % C + 1) < nI C := nI_lt z (by omega)
        simp only [w_c_draw_0, w_c_draw_1, w_c_draw_4, w_c_draw_5, w_c_draw_8, w_c_draw_11, w_c_draw_13, w_c_draw_14, w_c_draw_15, w_c_draw_18, w_c_draw_19, w_c_draw_20, w_c_draw_23, w_c_draw_26, w_c_draw_29, w_c_draw_30, w_c_draw_31, w_c_draw_34, w_c_draw_36, w_c_draw_37, w_c_draw_38, w_c_draw_41, w_c_draw_42, w_c_draw_45, w_c_draw_48, w_c_draw_51, w_c_draw_52, w_c_draw_53, w_c_draw_54, w_c_draw_58, w_c_draw_59, w_c_draw_62, w_c_draw_65, w_c_draw_68, w_c_draw_69, w_c_draw_72, w_c_draw_74, w_c_draw_77, w_c_draw_78, w_c_draw_81, w_c_draw_82, w_c_draw_85, w_c_draw_87, w_c_draw_88, w_c_draw_91, w_c_draw_92, w_c_draw_93, w_c_draw_94, w_c_draw_95, w_c_draw_98, w_c_draw_101, w_c_draw_104, w_c_draw_105, w_c_draw_106, w_c_draw_107, w_c_draw_110, w_c_draw_111, w_c_draw_112, w_c_draw_115, w_c_draw_118, w_c_draw_119, w_c_draw_122, xc_8, xc_1, xc_3, cl_7, xpp_2 hp, xpp_1 hp, sp, m3, m2, g1, e_h_holderOf isHH_3 (show t < 7 by omega), show (3 + 1 : Nat) = 4 from rfl, show ∀ f, st (up (st M 8 (z8 (M 8) u (pkE (M 65) 7))) 7 4 (nI (rmU u))) 4 f 4 = f from fun _ => rfl, e, r, cl_0, cl_1, cl_3, cl_5, cl_7, cl_12, cl_15, cl_21, cl_29, zpp hp, e_h_put isHH_3 (show t < 7 by omega), up_st, nI_1, z', i10, Bool.false_eq_true, eq_self, true_or, or_true, if_true, if_false, gv_int, gv_ref, av_some, al_some, un_int, un_ref, un_mk, ok4_0, ok4_1, ok4_2, ok4_3, ok4_4, Kn_some, Kn_none, true_and, and_true]
        exact ih
      · rw [if_neg z] at ih
        have z' : (nI ((i + s0.1) % C + 1) < nI C) = False := eq_false (nI_nlt (by omega) (by omega))
        simp only [w_c_draw_0, w_c_draw_1, w_c_draw_4, w_c_draw_5, w_c_draw_8, w_c_draw_11, w_c_draw_13, w_c_draw_14, w_c_draw_15, w_c_draw_18, w_c_draw_19, w_c_draw_20, w_c_draw_23, w_c_draw_26, w_c_draw_29, w_c_draw_30, w_c_draw_31, w_c_draw_34, w_c_draw_36, w_c_draw_37, w_c_draw_38, w_c_draw_41, w_c_draw_42, w_c_draw_45, w_c_draw_48, w_c_draw_51, w_c_draw_52, w_c_draw_53, w_c_draw_54, w_c_draw_58, w_c_draw_59, w_c_draw_62, w_c_draw_65, w_c_draw_68, w_c_draw_69, w_c_draw_72, w_c_draw_74, w_c_draw_77, w_c_draw_78, w_c_draw_81, w_c_draw_82, w_c_draw_85, w_c_draw_87, w_c_draw_88, w_c_draw_91, w_c_draw_92, w_c_draw_93, w_c_draw_94, w_c_draw_95, w_c_draw_98, w_c_draw_101, w_c_draw_104, w_c_draw_105, w_c_draw_106, w_c_draw_107, w_c_draw_110, w_c_draw_111, w_c_draw_112, w_c_draw_115, w_c_draw_118, w_c_draw_119, w_c_draw_122, xc_8, xc_1, xc_3, cl_7, xpp_2 hp, xpp_1 hp, sp, m3, m2, g1, e_h_holderOf isHH_3 (show t < 7 by omega), show (3 + 1 : Nat) = 4 from rfl, show ∀ f, st (up (st M 8 (z8 (M 8) u (pkE (M 65) 7))) 7 4 (nI (rmU u))) 4 f 4 = f from fun _ => rfl, e, r, cl_0, cl_1, cl_3, cl_5, cl_7, cl_12, cl_15, cl_21, cl_29, zpp hp, e_h_put isHH_3 (show t < 7 by omega), up_st, nI_1, z', i10, Bool.false_eq_true, eq_self, true_or, or_true, if_true, if_false, gv_int, gv_ref, av_some, al_some, un_int, un_ref, un_mk, ok4_0, ok4_1, ok4_2, ok4_3, ok4_4, Kn_some, Kn_none, true_and, and_true]
        exact ih
    · rw [if_neg (fun z => r (hm.mp z))] at ih
      simp only [w_c_draw_0, w_c_draw_1, w_c_draw_4, w_c_draw_5, w_c_draw_8, w_c_draw_11, w_c_draw_13, w_c_draw_14, w_c_draw_15, w_c_draw_18, w_c_draw_19, w_c_draw_20, w_c_draw_23, w_c_draw_26, w_c_draw_29, w_c_draw_30, w_c_draw_31, w_c_draw_34, w_c_draw_36, w_c_draw_37, w_c_draw_38, w_c_draw_41, w_c_draw_42, w_c_draw_45, w_c_draw_48, w_c_draw_51, w_c_draw_52, w_c_draw_53, w_c_draw_54, w_c_draw_58, w_c_draw_59, w_c_draw_62, w_c_draw_65, w_c_draw_68, w_c_draw_69, w_c_draw_72, w_c_draw_74, w_c_draw_77, w_c_draw_78, w_c_draw_81, w_c_draw_82, w_c_draw_85, w_c_draw_87, w_c_draw_88, w_c_draw_91, w_c_draw_92, w_c_draw_93, w_c_draw_94, w_c_draw_95, w_c_draw_98, w_c_draw_101, w_c_draw_104, w_c_draw_105, w_c_draw_106, w_c_draw_107, w_c_draw_110, w_c_draw_111, w_c_draw_112, w_c_draw_115, w_c_draw_118, w_c_draw_119, w_c_draw_122, xc_8, xc_1, xc_3, cl_7, xpp_2 hp, sp, m3, g1, e_h_holderOf isHH_3 (show t < 7 by omega), show (3 + 1 : Nat) = 4 from rfl, show ∀ f, st (up (st M 8 (z8 (M 8) u (pkE (M 65) 7))) 7 4 (nI (rmU u))) 4 f 4 = f from fun _ => rfl, e, eq_false r, cl_0, cl_1, cl_3, cl_5, cl_7, cl_12, cl_15, cl_21, cl_29, zpp hp, nI_1, i10, Bool.false_eq_true, eq_self, true_or, or_true, if_true, if_false, gv_int, gv_ref, av_some, al_some, un_int, un_ref, un_mk, ok4_0, ok4_1, ok4_2, ok4_3, ok4_4, Kn_some, Kn_none, true_and, and_true]
      exact ih
theorem land_mod (x : Nat) : lN x &&& 2147483647 = lN (x % 2147483648) := by
  have e : lN x &&& lN 2147483647 = lN (x &&& 2147483647) := by
    apply Int64.toBitVec_inj.1
    show BitVec.ofNat 64 x &&& BitVec.ofNat 64 2147483647 = BitVec.ofNat 64 (x &&& 2147483647)
    apply BitVec.eq_of_getLsbD_eq
    intro i hi
    simp [hi]
  have e2 : x &&& 2147483647 = x % 2147483648 := Nat.and_two_pow_sub_one_eq_mod x 31
  rw [← e2, ← e]; rfl
theorem seed_step2 {a : Nat} (h : a < 2147483648) : (((nI a).toInt64 * 1103515245 + 12345) &&& 2147483647).toInt32 = nI (nx a) := by
  rw [nI_l (by omega), show (1103515245 : Int64) = lN 1103515245 from rfl, show (12345 : Int64) = lN 12345 from rfl, lN_mul, lN_add, land_mod, lN_i]
  rfl
theorem e_c_drawOf {A B : Nat} {M : Mm} {Q : Po} {a n : Nat} (hs : M 0 10 = nI a) (ha : a < 2147483648) (hn : 0 < n) (hn7 : n ≤ 7) : WP 140 0 [.ref 0, .int (nI n)] [] (shw A B) (0, 0) M Q = Q (some (.int (nI (nx a / 65536 % n)))) (shw A B) (up M 0 10 (nI (nx a))) := by
  have g2 : ¬ (65536 : Int32) = 0 := by decide
  have g3 : ¬ nI n = 0 := nI_ne0 hn (by omega)
  have g4 : (0 < nI n) = True := eq_true (nI_lt (a := 0) hn (by omega))
  have hx := nx_lt a
  simp only [w_c_drawOf_0, w_c_drawOf_1, w_c_drawOf_2, w_c_drawOf_5, w_c_drawOf_6, w_c_drawOf_9, w_c_drawOf_10, w_c_drawOf_13, w_c_drawOf_14, w_c_drawOf_17, w_c_drawOf_18, w_c_drawOf_19, w_c_drawOf_22, w_c_drawOf_23, w_c_drawOf_26, w_c_drawOf_27, w_c_drawOf_30, w_c_drawOf_33, w_c_drawOf_34, w_c_drawOf_35, w_c_drawOf_36, w_c_drawOf_39, w_c_drawOf_40, xc_10, hs, g2, g3, g4, not_false_eq_true, seed_step2 ha, up_c, st_at, upd_at, Nat.reduceEqDiff, reduceIte, d65536 (show nx a < 2 ^ 31 by omega), pk_div (show nx a / 65536 < 2 ^ 31 by omega) hn (show n < 2 ^ 31 by omega), rem_nI, i10, Bool.false_eq_true, eq_self, true_or, or_true, if_true, if_false, gv_int, gv_ref, av_some, al_some, un_int, un_ref, un_mk, ok4_0, ok4_1, ok4_2, ok4_3, ok4_4, Kn_some, Kn_none, true_and, and_true]
theorem drE_HV {n c : Nat} {s : Nat × (Nat → Int32)} (hc : 0 < c) (hv : HV s.2 c) : ∀ k, HV (drE n c k s).2 c
  | 0 => hv
  | k + 1 => HV_upd (drE_HV hc hv k) (Nat.mod_lt _ hc)
theorem drE_far {n c : Nat} {s : Nat × (Nat → Int32)} (hn : 0 < n) (j : Nat) (hj : n ≤ j) : ∀ k, (drE n c k s).2 j = s.2 j
  | 0 => rfl
  | k + 1 => by
    rw [drE_s]
    unfold drS
    dsimp only
    have := Nat.mod_lt (nx (drE n c k s).1 / 65536) hn
    rw [upd_at, if_neg (by omega), drE_far hn j hj k]
theorem j_drift {A B : Nat} {M : Mm} {x : Int32} (hj : JJ M A B) : WP 118 0 [.ref 0, .int x, mk, mk, mk] [] (shw A B) (0, 0) M (JQ 186 [.ref 58, .int x, mk, mk]) := by
  obtain ⟨K, C, N, h⟩ := id hj
  obtain ⟨h0, h1, h2, h3, h4, h5, h6, h7, h8, h9, h10⟩ := id h
  have hp := h0.pp
  obtain ⟨c1, c2, c3, c4, c5, c6, c7, c8⟩ := id h1
  obtain ⟨d1, d2, d3, d4⟩ := id h2
  obtain ⟨⟨m1, m2, m3⟩, m4, m5, m6⟩ := id c2.1
  have hv : HV (M 4) C := by rw [d1]; exact d2
  obtain ⟨u, u1, u2, u3, u4⟩ := id h4
  obtain ⟨a, a1, a2⟩ := nI_of h8.2
  have s2 : M 0 10 = nI a := h8.1.trans a2
  have ha : a < 2147483648 := by omega
  have ei : i60 x = decide (¬ x < 1 ∧ ¬ 60 < x) := by
    unfold i60
    rw [decide_eq_decide, Int32.lt_iff_toInt_lt, Int32.lt_iff_toInt_lt, show (1 : Int32).toInt = 1 from rfl, show (60 : Int32).toInt = 60 from rfl]
    omega
  have out : i60 x = false → JQ 186 [.ref 58, .int x, mk, mk] (some (.int (-1000000002))) (shw A B) M := by
    intro e
    refine JQ.mk ?_
    rw [e_m_drift c1 u3 u1 a2 ha, e]
    exact ⟨rfl, rfl, hj⟩
  by_cases q1 : x < 1
  · simp only [w_c_drift_0, w_c_drift_1, w_c_drift_2, w_c_drift_5, w_c_drift_6, w_c_drift_8, w_c_drift_11, w_c_drift_13, w_c_drift_14, w_c_drift_15, w_c_drift_18, w_c_drift_21, w_c_drift_24, w_c_drift_26, w_c_drift_27, w_c_drift_28, w_c_drift_31, w_c_drift_32, w_c_drift_35, w_c_drift_38, w_c_drift_41, w_c_drift_42, w_c_drift_45, w_c_drift_48, w_c_drift_51, w_c_drift_52, w_c_drift_55, w_c_drift_58, w_c_drift_61, w_c_drift_62, w_c_drift_64, w_c_drift_65, w_c_drift_68, w_c_drift_69, w_c_drift_70, w_c_drift_73, w_c_drift_76, w_c_drift_79, w_c_drift_80, w_c_drift_81, w_c_drift_82, w_c_drift_85, w_c_drift_88, w_c_drift_91, w_c_drift_93, w_c_drift_94, w_c_drift_97, w_c_drift_98, w_c_drift_100, w_c_drift_103, w_c_drift_106, w_c_drift_109, w_c_drift_110, w_c_drift_113, w_c_drift_114, w_c_drift_117, w_c_drift_120, xc_8, xc_3, xc_1, cl_7, cl_0, eq_true q1, i10, Bool.false_eq_true, eq_self, true_or, or_true, if_true, if_false, gv_int, gv_ref, av_some, al_some, un_int, un_ref, un_mk, ok4_0, ok4_1, ok4_2, ok4_3, ok4_4, Kn_some, Kn_none, true_and, and_true]
    exact out (by rw [ei]; exact decide_eq_false (fun z => z.1 q1))
  by_cases q2 : 60 < x
  · simp only [w_c_drift_0, w_c_drift_1, w_c_drift_2, w_c_drift_5, w_c_drift_6, w_c_drift_8, w_c_drift_11, w_c_drift_13, w_c_drift_14, w_c_drift_15, w_c_drift_18, w_c_drift_21, w_c_drift_24, w_c_drift_26, w_c_drift_27, w_c_drift_28, w_c_drift_31, w_c_drift_32, w_c_drift_35, w_c_drift_38, w_c_drift_41, w_c_drift_42, w_c_drift_45, w_c_drift_48, w_c_drift_51, w_c_drift_52, w_c_drift_55, w_c_drift_58, w_c_drift_61, w_c_drift_62, w_c_drift_64, w_c_drift_65, w_c_drift_68, w_c_drift_69, w_c_drift_70, w_c_drift_73, w_c_drift_76, w_c_drift_79, w_c_drift_80, w_c_drift_81, w_c_drift_82, w_c_drift_85, w_c_drift_88, w_c_drift_91, w_c_drift_93, w_c_drift_94, w_c_drift_97, w_c_drift_98, w_c_drift_100, w_c_drift_103, w_c_drift_106, w_c_drift_109, w_c_drift_110, w_c_drift_113, w_c_drift_114, w_c_drift_117, w_c_drift_120, xc_8, xc_3, xc_1, cl_7, cl_0, eq_false q1, eq_true q2, i10, Bool.false_eq_true, eq_self, true_or, or_true, if_true, if_false, gv_int, gv_ref, av_some, al_some, un_int, un_ref, un_mk, ok4_0, ok4_1, ok4_2, ok4_3, ok4_4, Kn_some, Kn_none, true_and, and_true]
    exact out (by rw [ei]; exact decide_eq_false (fun z => z.2 q2))
  have ein : i60 x = true := by rw [ei]; exact decide_eq_true ⟨q1, q2⟩
  by_cases k0 : K = 0
  · simp only [w_c_drift_0, w_c_drift_1, w_c_drift_2, w_c_drift_5, w_c_drift_6, w_c_drift_8, w_c_drift_11, w_c_drift_13, w_c_drift_14, w_c_drift_15, w_c_drift_18, w_c_drift_21, w_c_drift_24, w_c_drift_26, w_c_drift_27, w_c_drift_28, w_c_drift_31, w_c_drift_32, w_c_drift_35, w_c_drift_38, w_c_drift_41, w_c_drift_42, w_c_drift_45, w_c_drift_48, w_c_drift_51, w_c_drift_52, w_c_drift_55, w_c_drift_58, w_c_drift_61, w_c_drift_62, w_c_drift_64, w_c_drift_65, w_c_drift_68, w_c_drift_69, w_c_drift_70, w_c_drift_73, w_c_drift_76, w_c_drift_79, w_c_drift_80, w_c_drift_81, w_c_drift_82, w_c_drift_85, w_c_drift_88, w_c_drift_91, w_c_drift_93, w_c_drift_94, w_c_drift_97, w_c_drift_98, w_c_drift_100, w_c_drift_103, w_c_drift_106, w_c_drift_109, w_c_drift_110, w_c_drift_113, w_c_drift_114, w_c_drift_117, w_c_drift_120, xc_8, xc_3, xc_1, cl_7, cl_0, eq_false q1, eq_false q2, xpp_0 hp, m1, k0, show (nI 0 = 0) = True by decide, i10, Bool.false_eq_true, eq_self, true_or, or_true, if_true, if_false, gv_int, gv_ref, av_some, al_some, un_int, un_ref, un_mk, ok4_0, ok4_1, ok4_2, ok4_3, ok4_4, Kn_some, Kn_none, true_and, and_true]
    refine JQ.mk ?_
    rw [e_m_drift c1 u3 u1 a2 ha, ein, if_pos rfl, if_pos k0]
    exact ⟨rfl, rfl, hj⟩
  have gk : (nI K = 0) = False := eq_false (nI_ne0 (by omega) (by omega))
  obtain ⟨m, n1, n2, rfl⟩ := i60_of ein
  have hA : 38 ≤ A ∧ A ≤ 48 := by have := h0; unfold AB at this; omega
  have fin : ∀ s : Nat × (Nat → Int32), s = drF N C m (a, M 65) → HV s.2 C → (∀ j, ¬ j < 7 → s.2 j = 0) → s.1 < 2147483648 → ∀ j2 j3 j4, WP 118 109 [.ref 0, .int (nI m), j2, j3, j4] [] (shw A B) (0, 0) (st (up (up (st M 8 (z8 (M 8) u (pkE (M 65) 7))) 7 4 (nI (rmU u))) 0 10 (nI s.1)) 4 s.2) (JQ 186 [.ref 58, .int (nI m), mk, mk]) := by
    intro s hs hsv hst hsl j2 j3 j4
    have hP : JP (st (up (up (st M 8 (z8 (M 8) u (pkE (M 65) 7))) 7 4 (nI (rmU u))) 0 10 (nI s.1)) 4 s.2) A K C N := by
      refine h1.fr h0 ?_ ⟨rfl, rfl, rfl⟩ ⟨rfl, rfl, rfl, rfl, rfl, rfl⟩
      intro c c1 c2
      simp only [up_c, st_at]
      repeat rw [if_neg (by omega)]
    simp only [w_c_drift_0, w_c_drift_1, w_c_drift_2, w_c_drift_5, w_c_drift_6, w_c_drift_8, w_c_drift_11, w_c_drift_13, w_c_drift_14, w_c_drift_15, w_c_drift_18, w_c_drift_21, w_c_drift_24, w_c_drift_26, w_c_drift_27, w_c_drift_28, w_c_drift_31, w_c_drift_32, w_c_drift_35, w_c_drift_38, w_c_drift_41, w_c_drift_42, w_c_drift_45, w_c_drift_48, w_c_drift_51, w_c_drift_52, w_c_drift_55, w_c_drift_58, w_c_drift_61, w_c_drift_62, w_c_drift_64, w_c_drift_65, w_c_drift_68, w_c_drift_69, w_c_drift_70, w_c_drift_73, w_c_drift_76, w_c_drift_79, w_c_drift_80, w_c_drift_81, w_c_drift_82, w_c_drift_85, w_c_drift_88, w_c_drift_91, w_c_drift_93, w_c_drift_94, w_c_drift_97, w_c_drift_98, w_c_drift_100, w_c_drift_103, w_c_drift_106, w_c_drift_109, w_c_drift_110, w_c_drift_113, w_c_drift_114, w_c_drift_117, w_c_drift_120, xc_8, xc_3, xc_1, cl_7, cl_0, cl_0, cl_1, cl_3, cl_5, cl_7, cl_12, cl_15, cl_21, cl_29, zpp hp, i10, Bool.false_eq_true, eq_self, true_or, or_true, if_true, if_false, gv_int, gv_ref, av_some, al_some, un_int, un_ref, un_mk, ok4_0, ok4_1, ok4_2, ok4_3, ok4_4, Kn_some, Kn_none, true_and, and_true]
    refine c_worthsNow hp hP.2.1 hsv (fun f hw => ?_)
    have hP2 : JP (st (st (up (up (st M 8 (z8 (M 8) u (pkE (M 65) 7))) 7 4 (nI (rmU u))) 0 10 (nI s.1)) 4 s.2) 6 f) A K C N := by
      refine hP.fr h0 ?_ ⟨rfl, rfl, rfl⟩ ⟨rfl, rfl, rfl, rfl, rfl, rfl⟩
      intro c c1 c2
      rw [st_at, if_neg (by omega)]
    simp only [w_c_drift_0, w_c_drift_1, w_c_drift_2, w_c_drift_5, w_c_drift_6, w_c_drift_8, w_c_drift_11, w_c_drift_13, w_c_drift_14, w_c_drift_15, w_c_drift_18, w_c_drift_21, w_c_drift_24, w_c_drift_26, w_c_drift_27, w_c_drift_28, w_c_drift_31, w_c_drift_32, w_c_drift_35, w_c_drift_38, w_c_drift_41, w_c_drift_42, w_c_drift_45, w_c_drift_48, w_c_drift_51, w_c_drift_52, w_c_drift_55, w_c_drift_58, w_c_drift_61, w_c_drift_62, w_c_drift_64, w_c_drift_65, w_c_drift_68, w_c_drift_69, w_c_drift_70, w_c_drift_73, w_c_drift_76, w_c_drift_79, w_c_drift_80, w_c_drift_81, w_c_drift_82, w_c_drift_85, w_c_drift_88, w_c_drift_91, w_c_drift_93, w_c_drift_94, w_c_drift_97, w_c_drift_98, w_c_drift_100, w_c_drift_103, w_c_drift_106, w_c_drift_109, w_c_drift_110, w_c_drift_113, w_c_drift_114, w_c_drift_117, w_c_drift_120, xc_8, xc_3, xc_1, cl_7, cl_0, e_v_allGrudges isVV_5 hp hP2.2.1 hw, cl_0, cl_1, cl_3, cl_5, cl_7, cl_12, cl_15, cl_21, cl_29, zpp hp, i10, Bool.false_eq_true, eq_self, true_or, or_true, if_true, if_false, gv_int, gv_ref, av_some, al_some, un_int, un_ref, un_mk, ok4_0, ok4_1, ok4_2, ok4_3, ok4_4, Kn_some, Kn_none, true_and, and_true]
    refine JQ.mk ?_
    refine Eq.mpr (e_m_drift (u := u) (a := a) c1 u3 u1 a2 ha) ?_
    rw [nI_clamp (show m < 2 ^ 31 by omega)]
    refine ite_t ein (ite_f k0 ?_)
    refine ⟨?_, rfl, K, C, N, h0, h1.fr h0 ?_ ⟨rfl, rfl, rfl⟩ ⟨rfl, rfl, rfl, rfl, rfl, rfl⟩, ?_, h3, JZ_rem u1 u4 d2, h5, h6, h7, ?_, h9, h10⟩
    · rw [hs]; rfl
    · intro c c1 c2
      simp only [RM, up_c, st_at]
      repeat rw [if_neg (by omega)]
    · show JH s.2 (M 17) (drF N C m (a, M 65)).2 C
      rw [← hs]
      exact JH_new h2 hsv hst
    · show JC (nI s.1) (nI (drF N C m (a, M 65)).1)
      rw [← hs]
      exact ⟨rfl, nI_pos (by omega)⟩
  have zst : st (up (up (st M 8 (z8 (M 8) u (pkE (M 65) 7))) 7 4 (nI (rmU u))) 0 10 (nI a)) 4 (M 65) = up (st M 8 (z8 (M 8) u (pkE (M 65) 7))) 7 4 (nI (rmU u)) := by
    rw [← d1]
    have e1 : up (up (st M 8 (z8 (M 8) u (pkE (M 4) 7))) 7 4 (nI (rmU u))) 0 10 (nI a) = up (st M 8 (z8 (M 8) u (pkE (M 4) 7))) 7 4 (nI (rmU u)) := by
      rw [← s2]
      exact up_same (up (st M 8 (z8 (M 8) u (pkE (M 4) 7))) 7 4 (nI (rmU u))) 0 10
    rw [e1]
    exact st_self (up (st M 8 (z8 (M 8) u (pkE (M 4) 7))) 7 4 (nI (rmU u))) 4
  have sp : up (st M 8 (z8 (M 8) u (pkE (M 65) 7))) 7 4 (nI (rmU u)) A = M A := by
    rw [up_c, if_neg (by omega), st_at, if_neg (by omega)]
  by_cases q3 : 0 < C ∧ 0 < N
  · have gC : (0 < nI C) = True := eq_true (nI_lt (a := 0) q3.1 (by omega))
    have gN : (0 < nI N) = True := eq_true (nI_lt (a := 0) q3.2 (by omega))
    have eF : drF N C m (a, M 65) = drE N C m (a, M 65) := by unfold drF; rw [if_pos q3]
    simp only [w_c_drift_0, w_c_drift_1, w_c_drift_2, w_c_drift_5, w_c_drift_6, w_c_drift_8, w_c_drift_11, w_c_drift_13, w_c_drift_14, w_c_drift_15, w_c_drift_18, w_c_drift_21, w_c_drift_24, w_c_drift_26, w_c_drift_27, w_c_drift_28, w_c_drift_31, w_c_drift_32, w_c_drift_35, w_c_drift_38, w_c_drift_41, w_c_drift_42, w_c_drift_45, w_c_drift_48, w_c_drift_51, w_c_drift_52, w_c_drift_55, w_c_drift_58, w_c_drift_61, w_c_drift_62, w_c_drift_64, w_c_drift_65, w_c_drift_68, w_c_drift_69, w_c_drift_70, w_c_drift_73, w_c_drift_76, w_c_drift_79, w_c_drift_80, w_c_drift_81, w_c_drift_82, w_c_drift_85, w_c_drift_88, w_c_drift_91, w_c_drift_93, w_c_drift_94, w_c_drift_97, w_c_drift_98, w_c_drift_100, w_c_drift_103, w_c_drift_106, w_c_drift_110, w_c_drift_113, w_c_drift_114, w_c_drift_117, w_c_drift_120, xc_8, xc_3, xc_1, cl_7, cl_0, eq_false q1, eq_false q2, xpp_0 hp, xpp_1 hp, xpp_2 hp, m1, gk, cl_0, cl_1, cl_3, cl_5, cl_7, cl_12, cl_15, cl_21, cl_29, zpp hp, e_h_packed isHH_3, show (3 + 1 : Nat) = 4 from rfl, d1, e_z_rem u2 u1, sp, m2, m3, gC, gN, i10, Bool.false_eq_true, eq_self, true_or, or_true, if_true, if_false, gv_int, gv_ref, av_some, al_some, un_int, un_ref, un_mk, ok4_0, ok4_1, ok4_2, ok4_3, ok4_4, Kn_some, Kn_none, true_and, and_true]
    have := for_up (n := m) (P := fun k => ∀ j3 j4, WP 118 63 [.ref 0, .int (nI m), .int (nI k), j3, j4] [] (shw A B) (0, 0) (st (up (up (st M 8 (z8 (M 8) u (pkE (M 65) 7))) 7 4 (nI (rmU u))) 0 10 (nI (drE N C k (a, M 65)).1)) 4 (drE N C k (a, M 65)).2) (JQ 186 [.ref 58, .int (nI m), mk, mk])) ?_ ?_ mk mk
    · rw [show (drE N C 0 (a, M 65)).1 = a from rfl, show (drE N C 0 (a, M 65)).2 = M 65 from rfl, zst] at this
      exact this
    · intro j3 j4
      rw [w_c_drift_63]
      simp only [w_c_drift_0, w_c_drift_1, w_c_drift_2, w_c_drift_5, w_c_drift_6, w_c_drift_8, w_c_drift_11, w_c_drift_13, w_c_drift_14, w_c_drift_15, w_c_drift_18, w_c_drift_21, w_c_drift_24, w_c_drift_26, w_c_drift_27, w_c_drift_28, w_c_drift_31, w_c_drift_32, w_c_drift_35, w_c_drift_38, w_c_drift_41, w_c_drift_42, w_c_drift_45, w_c_drift_48, w_c_drift_51, w_c_drift_52, w_c_drift_55, w_c_drift_58, w_c_drift_61, w_c_drift_62, w_c_drift_64, w_c_drift_65, w_c_drift_68, w_c_drift_69, w_c_drift_70, w_c_drift_73, w_c_drift_76, w_c_drift_79, w_c_drift_80, w_c_drift_81, w_c_drift_82, w_c_drift_85, w_c_drift_88, w_c_drift_91, w_c_drift_93, w_c_drift_94, w_c_drift_97, w_c_drift_98, w_c_drift_100, w_c_drift_103, w_c_drift_106, w_c_drift_110, w_c_drift_113, w_c_drift_114, w_c_drift_117, w_c_drift_120, xc_8, xc_3, xc_1, cl_7, cl_0, lt_irr, i10, Bool.false_eq_true, eq_self, true_or, or_true, if_true, if_false, gv_int, gv_ref, av_some, al_some, un_int, un_ref, un_mk, ok4_0, ok4_1, ok4_2, ok4_3, ok4_4, Kn_some, Kn_none, true_and, and_true]
      refine fin _ eF.symm (drE_HV q3.1 d2 m) (fun j hj => ?_) (drE_lt N C _ ha m) _ _ _
      exact (drE_far q3.2 j (by omega) m).trans (d4 j hj)
    · intro k hk ih j3 j4
      have g1 : nI k < nI m := nI_lt hk (by omega)
      have hl := drE_lt N C (a, M 65) ha k
      have hx := nx_lt (drE N C k (a, M 65)).1
      rw [drE_s] at ih
      unfold drS at ih
      rw [w_c_drift_63]
      generalize drE N C k (a, M 65) = s0 at ih hl hx ⊢
      have t7 : nx s0.1 / 65536 % N < 7 := Nat.lt_of_lt_of_le (Nat.mod_lt _ q3.2) m6
      have pA : ∀ X : Mm, X A = M A → ∀ y f, st (up X 0 10 y) 4 f A = M A := fun X hX y f => by rw [st_at, if_neg (by omega), up_c, if_neg (by omega)]; exact hX
      have pA2 : ∀ X : Mm, X A = M A → ∀ y z f, up (st (up X 0 10 y) 4 f) 0 10 z A = M A := fun X hX y z f => by rw [up_c, if_neg (by omega)]; exact pA X hX y f
      have em : up (up (up (st (up (up (st M 8 (z8 (M 8) u (pkE (M 65) 7))) 7 4 (nI (rmU u))) 0 10 (nI s0.1)) 4 s0.2) 0 10 (nI (nx s0.1))) 0 10 (nI (nx (nx s0.1)))) 4 (nx s0.1 / 65536 % N) (nI (nx (nx s0.1) / 65536 % C)) = st (up (up (st M 8 (z8 (M 8) u (pkE (M 65) 7))) 7 4 (nI (rmU u))) 0 10 (nI (nx (nx s0.1)))) 4 (upd s0.2 (nx s0.1 / 65536 % N) (nI (nx (nx s0.1) / 65536 % C))) := by
        rw [up_up, up_st_ne _ _ _ _ (by decide), up_up, up_st]
      simp only [w_c_drift_0, w_c_drift_1, w_c_drift_2, w_c_drift_5, w_c_drift_6, w_c_drift_8, w_c_drift_11, w_c_drift_13, w_c_drift_14, w_c_drift_15, w_c_drift_18, w_c_drift_21, w_c_drift_24, w_c_drift_26, w_c_drift_27, w_c_drift_28, w_c_drift_31, w_c_drift_32, w_c_drift_35, w_c_drift_38, w_c_drift_41, w_c_drift_42, w_c_drift_45, w_c_drift_48, w_c_drift_51, w_c_drift_52, w_c_drift_55, w_c_drift_58, w_c_drift_61, w_c_drift_62, w_c_drift_64, w_c_drift_65, w_c_drift_68, w_c_drift_69, w_c_drift_70, w_c_drift_73, w_c_drift_76, w_c_drift_79, w_c_drift_80, w_c_drift_81, w_c_drift_82, w_c_drift_85, w_c_drift_88, w_c_drift_91, w_c_drift_93, w_c_drift_94, w_c_drift_97, w_c_drift_98, w_c_drift_100, w_c_drift_103, w_c_drift_106, w_c_drift_110, w_c_drift_113, w_c_drift_114, w_c_drift_117, w_c_drift_120, xc_8, xc_3, xc_1, cl_7, cl_0, g1, xpp_1 hp, xpp_2 hp, pA _ sp, pA2 _ sp, m2, m3, cl_0, cl_1, cl_3, cl_5, cl_7, cl_12, cl_15, cl_21, cl_29, zpp hp, e_c_drawOf (M := st (up (up (st M 8 (z8 (M 8) u (pkE (M 65) 7))) 7 4 (nI (rmU u))) 0 10 (nI s0.1)) 4 s0.2) rfl hl q3.2 m6, e_c_drawOf (M := up (st (up (up (st M 8 (z8 (M 8) u (pkE (M 65) 7))) 7 4 (nI (rmU u))) 0 10 (nI s0.1)) 4 s0.2) 0 10 (nI (nx s0.1))) rfl hx q3.1 (show C ≤ 7 by omega), e_h_put isHH_3 t7, show (3 + 1 : Nat) = 4 from rfl, em, nI_1, i10, Bool.false_eq_true, eq_self, true_or, or_true, if_true, if_false, gv_int, gv_ref, av_some, al_some, un_int, un_ref, un_mk, ok4_0, ok4_1, ok4_2, ok4_3, ok4_4, Kn_some, Kn_none, true_and, and_true]
      exact ih _ _
  · have eF : drF N C m (a, M 65) = (a, M 65) := by unfold drF; rw [if_neg q3]
    have go := fin (a, M 65) eF.symm d2 d4 ha
    dsimp only at go
    rw [zst] at go
    by_cases q4 : 0 < C
    · have n0 : N = 0 := by omega
      have gC : (0 < nI C) = True := eq_true (nI_lt (a := 0) q4 (by omega))
      have gN : (0 < nI N) = False := by rw [n0]; decide
      simp only [w_c_drift_0, w_c_drift_1, w_c_drift_2, w_c_drift_5, w_c_drift_6, w_c_drift_8, w_c_drift_11, w_c_drift_13, w_c_drift_14, w_c_drift_15, w_c_drift_18, w_c_drift_21, w_c_drift_24, w_c_drift_26, w_c_drift_27, w_c_drift_28, w_c_drift_31, w_c_drift_32, w_c_drift_35, w_c_drift_38, w_c_drift_41, w_c_drift_42, w_c_drift_45, w_c_drift_48, w_c_drift_51, w_c_drift_52, w_c_drift_55, w_c_drift_58, w_c_drift_61, w_c_drift_62, w_c_drift_64, w_c_drift_65, w_c_drift_68, w_c_drift_69, w_c_drift_70, w_c_drift_73, w_c_drift_76, w_c_drift_79, w_c_drift_80, w_c_drift_81, w_c_drift_82, w_c_drift_85, w_c_drift_88, w_c_drift_91, w_c_drift_93, w_c_drift_94, w_c_drift_97, w_c_drift_98, w_c_drift_100, w_c_drift_103, w_c_drift_106, w_c_drift_110, w_c_drift_113, w_c_drift_114, w_c_drift_117, w_c_drift_120, xc_8, xc_3, xc_1, cl_7, cl_0, eq_false q1, eq_false q2, xpp_0 hp, xpp_1 hp, xpp_2 hp, m1, gk, cl_0, cl_1, cl_3, cl_5, cl_7, cl_12, cl_15, cl_21, cl_29, zpp hp, e_h_packed isHH_3, show (3 + 1 : Nat) = 4 from rfl, d1, e_z_rem u2 u1, sp, m2, m3, gC, gN, i10, Bool.false_eq_true, eq_self, true_or, or_true, if_true, if_false, gv_int, gv_ref, av_some, al_some, un_int, un_ref, un_mk, ok4_0, ok4_1, ok4_2, ok4_3, ok4_4, Kn_some, Kn_none, true_and, and_true]
      exact go _ _ _
    · have n0 : C = 0 := by omega
      have gC : (0 < nI C) = False := by rw [n0]; decide
      simp only [w_c_drift_0, w_c_drift_1, w_c_drift_2, w_c_drift_5, w_c_drift_6, w_c_drift_8, w_c_drift_11, w_c_drift_13, w_c_drift_14, w_c_drift_15, w_c_drift_18, w_c_drift_21, w_c_drift_24, w_c_drift_26, w_c_drift_27, w_c_drift_28, w_c_drift_31, w_c_drift_32, w_c_drift_35, w_c_drift_38, w_c_drift_41, w_c_drift_42, w_c_drift_45, w_c_drift_48, w_c_drift_51, w_c_drift_52, w_c_drift_55, w_c_drift_58, w_c_drift_61, w_c_drift_62, w_c_drift_64, w_c_drift_65, w_c_drift_68, w_c_drift_69, w_c_drift_70, w_c_drift_73, w_c_drift_76, w_c_drift_79, w_c_drift_80, w_c_drift_81, w_c_drift_82, w_c_drift_85, w_c_drift_88, w_c_drift_91, w_c_drift_93, w_c_drift_94, w_c_drift_97, w_c_drift_98, w_c_drift_100, w_c_drift_103, w_c_drift_106, w_c_drift_110, w_c_drift_113, w_c_drift_114, w_c_drift_117, w_c_drift_120, xc_8, xc_3, xc_1, cl_7, cl_0, eq_false q1, eq_false q2, xpp_0 hp, xpp_1 hp, xpp_2 hp, m1, gk, cl_0, cl_1, cl_3, cl_5, cl_7, cl_12, cl_15, cl_21, cl_29, zpp hp, e_h_packed isHH_3, show (3 + 1 : Nat) = 4 from rfl, d1, e_z_rem u2 u1, sp, m2, gC, i10, Bool.false_eq_true, eq_self, true_or, or_true, if_true, if_false, gv_int, gv_ref, av_some, al_some, un_int, un_ref, un_mk, ok4_0, ok4_1, ok4_2, ok4_3, ok4_4, Kn_some, Kn_none, true_and, and_true]
      exact go _ _ _
theorem kpF_in {f h : Nat → Int32} {s : Int32} {i t : Nat} (ht : t < 7) : kpF f h s i (8 * i + t) = h t := by
  unfold kpF
  rw [if_pos (by omega), show 8 * i + t - 8 * i = t by omega]
theorem j_keep {A B : Nat} {M : Mm} {x : Int32} (hj : JJ M A B) : WP 137 0 [.ref 0, .int x] [] (shw A B) (0, 0) M (JQ 218 [.ref 58, .int x, mk]) := by
  obtain ⟨K, C, N, h⟩ := id hj
  obtain ⟨h0, h1, h2, h3, h4, h5, h6, h7, h8, h9, h10⟩ := id h
  have hp := h0.pp
  obtain ⟨c1, c2, c3, c4, c5, c6, c7, c8⟩ := id h1
  obtain ⟨d1, d2, d3, d4⟩ := id h2
  obtain ⟨⟨m1, m2, m3⟩, m4, m5, m6⟩ := id c2.1
  have hv : HV (M 4) C := by rw [d1]; exact d2
  have ei : inb x 2 = decide (¬ x < 0 ∧ x < 2) := inb_i (c := 2) (by decide)
  have out : inb x 2 = false → JQ 218 [.ref 58, .int x, mk] (some (.int (-1000000001))) (shw A B) M := by
    intro e
    refine JQ.mk ?_
    rw [e_m_keep, e]
    exact ⟨rfl, rfl, hj⟩
  by_cases q1 : x < 0
  · simp only [w_c_keep_0, w_c_keep_1, w_c_keep_4, w_c_keep_5, w_c_keep_6, w_c_keep_9, w_c_keep_11, w_c_keep_12, w_c_keep_13, w_c_keep_16, w_c_keep_17, w_c_keep_18, w_c_keep_21, w_c_keep_24, w_c_keep_25, w_c_keep_28, w_c_keep_31, w_c_keep_32, xc_3, xc_1, xc_10, cl_7, eq_true q1, i10, Bool.false_eq_true, eq_self, true_or, or_true, if_true, if_false, gv_int, gv_ref, av_some, al_some, un_int, un_ref, un_mk, ok4_0, ok4_1, ok4_2, ok4_3, ok4_4, Kn_some, Kn_none, true_and, and_true]
    exact out (by rw [ei]; exact decide_eq_false (fun z => z.1 q1))
  by_cases q2 : ¬ x < 2
  · simp only [w_c_keep_0, w_c_keep_1, w_c_keep_4, w_c_keep_5, w_c_keep_6, w_c_keep_9, w_c_keep_11, w_c_keep_12, w_c_keep_13, w_c_keep_16, w_c_keep_17, w_c_keep_18, w_c_keep_21, w_c_keep_24, w_c_keep_25, w_c_keep_28, w_c_keep_31, w_c_keep_32, xc_3, xc_1, xc_10, cl_7, eq_false q1, eq_false q2, i10, Bool.false_eq_true, eq_self, true_or, or_true, if_true, if_false, gv_int, gv_ref, av_some, al_some, un_int, un_ref, un_mk, ok4_0, ok4_1, ok4_2, ok4_3, ok4_4, Kn_some, Kn_none, true_and, and_true]
    exact out (by rw [ei]; exact decide_eq_false (fun z => q2 z.2))
  have q2 := Decidable.not_not.mp q2
  have ein : inb x 2 = true := by rw [ei]; exact decide_eq_true ⟨q1, q2⟩
  obtain ⟨i, i1, rfl⟩ := inb_of ein (by decide)
  simp only [w_c_keep_0, w_c_keep_1, w_c_keep_4, w_c_keep_5, w_c_keep_6, w_c_keep_9, w_c_keep_11, w_c_keep_12, w_c_keep_13, w_c_keep_16, w_c_keep_17, w_c_keep_18, w_c_keep_21, w_c_keep_24, w_c_keep_25, w_c_keep_28, w_c_keep_31, w_c_keep_32, xc_3, xc_1, xc_10, cl_7, eq_false q1, eq_true q2, e_h_packed isHH_3, show (3 + 1 : Nat) = 4 from rfl, e_z_keepImage i1, cl_0, cl_1, cl_3, cl_5, cl_7, cl_12, cl_15, cl_21, cl_29, zpp hp, i10, Bool.false_eq_true, eq_self, true_or, or_true, if_true, if_false, gv_int, gv_ref, av_some, al_some, un_int, un_ref, un_mk, ok4_0, ok4_1, ok4_2, ok4_3, ok4_4, Kn_some, Kn_none, true_and, and_true]
  refine JQ.mk ?_
  refine Eq.mpr e_m_keep ?_
  rw [nI_clamp (show i < 2 ^ 31 by omega)]
  refine ite_t ein ?_
  refine ⟨rfl, rfl, K, C, N, h0, h1.fr h0 ?_ ⟨rfl, rfl, rfl⟩ ⟨rfl, rfl, rfl, rfl, rfl, rfl⟩, h2, h3, ⟨0, by omega, rfl, rfl, fun j hj => absurd hj (Nat.not_lt_zero _)⟩, ?_, h6, h7, h8, h9, h10⟩
  · intro c c1 c2
    simp only [up_c, st_at]
    repeat rw [if_neg (by omega)]
  · show JI (upd (M 9) i (pkE (M 4) 7)) (upd (M 10) i (M 0 10)) (upd (M 11) i 1) (kpF (M 83) (M 65) (M 58 10) i) (upd (M 84) i 1) C
    intro j hj
    have hh := h5 j hj
    simp only [upd_at]
    by_cases r : j = i
    · subst r
      simp only [if_true]
      refine ⟨trivial, Or.inr ⟨trivial, ?_, HV_congr (fun t ht => kpF_in ht) d2, ?_, ?_⟩⟩
      · rw [d1]; exact (pkE_congr 7 (fun t ht => kpF_in ht)).symm
      · unfold kpF; rw [if_neg (by omega), if_pos rfl]; exact h8.1
      · rw [h8.1]; exact h8.2
    · simp only [r, if_false]
      refine ⟨hh.1, ?_⟩
      have ef : ∀ t, t < 8 → kpF (M 83) (M 65) (M 58 10) i (8 * j + t) = M 83 (8 * j + t) := by
        intro t ht
        unfold kpF
        rw [if_neg (by omega), if_neg (by omega)]
      rcases hh.2 with e | ⟨e1, e2, e3, e4, e5⟩
      · exact Or.inl e
      · exact Or.inr ⟨e1, e2.trans (pkE_congr 7 (fun t ht => ef t (by omega))).symm, HV_congr (fun t ht => ef t (by omega)) e3, e4.trans (ef 7 (by omega)).symm, e5⟩
theorem j_goBack {A B : Nat} {M : Mm} {x : Int32} (hj : JJ M A B) : WP 138 0 [.ref 0, .int x] [] (shw A B) (0, 0) M (JQ 219 [.ref 58, .int x, mk]) := by
  obtain ⟨K, C, N, h⟩ := id hj
  obtain ⟨h0, h1, h2, h3, h4, h5, h6, h7, h8, h9, h10⟩ := id h
  have hp := h0.pp
  obtain ⟨c1, c2, c3, c4, c5, c6, c7, c8⟩ := id h1
  obtain ⟨d1, d2, d3, d4⟩ := id h2
  obtain ⟨⟨m1, m2, m3⟩, m4, m5, m6⟩ := id c2.1
  have hv : HV (M 4) C := by rw [d1]; exact d2
  have ei : inb x 2 = decide (¬ x < 0 ∧ x < 2) := inb_i (c := 2) (by decide)
  have out : inb x 2 = false → JQ 219 [.ref 58, .int x, mk] (some (.int (-1000000001))) (shw A B) M := by
    intro e
    refine JQ.mk ?_
    rw [e_m_goBack, e]
    exact ⟨rfl, rfl, hj⟩
  by_cases q1 : x < 0
  · simp only [w_c_goBack_0, w_c_goBack_1, w_c_goBack_4, w_c_goBack_5, w_c_goBack_6, w_c_goBack_9, w_c_goBack_11, w_c_goBack_12, w_c_goBack_13, w_c_goBack_16, w_c_goBack_17, w_c_goBack_20, w_c_goBack_23, w_c_goBack_25, w_c_goBack_26, w_c_goBack_27, w_c_goBack_30, w_c_goBack_31, w_c_goBack_34, w_c_goBack_35, w_c_goBack_38, w_c_goBack_41, w_c_goBack_42, w_c_goBack_43, w_c_goBack_46, w_c_goBack_47, w_c_goBack_50, w_c_goBack_53, w_c_goBack_54, w_c_goBack_57, w_c_goBack_60, w_c_goBack_61, xc_3, cl_7, xc_1, xc_10, eq_true q1, i10, Bool.false_eq_true, eq_self, true_or, or_true, if_true, if_false, gv_int, gv_ref, av_some, al_some, un_int, un_ref, un_mk, ok4_0, ok4_1, ok4_2, ok4_3, ok4_4, Kn_some, Kn_none, true_and, and_true]
    exact out (by rw [ei]; exact decide_eq_false (fun z => z.1 q1))
  by_cases q2 : ¬ x < 2
  · simp only [w_c_goBack_0, w_c_goBack_1, w_c_goBack_4, w_c_goBack_5, w_c_goBack_6, w_c_goBack_9, w_c_goBack_11, w_c_goBack_12, w_c_goBack_13, w_c_goBack_16, w_c_goBack_17, w_c_goBack_20, w_c_goBack_23, w_c_goBack_25, w_c_goBack_26, w_c_goBack_27, w_c_goBack_30, w_c_goBack_31, w_c_goBack_34, w_c_goBack_35, w_c_goBack_38, w_c_goBack_41, w_c_goBack_42, w_c_goBack_43, w_c_goBack_46, w_c_goBack_47, w_c_goBack_50, w_c_goBack_53, w_c_goBack_54, w_c_goBack_57, w_c_goBack_60, w_c_goBack_61, xc_3, cl_7, xc_1, xc_10, eq_false q1, eq_false q2, i10, Bool.false_eq_true, eq_self, true_or, or_true, if_true, if_false, gv_int, gv_ref, av_some, al_some, un_int, un_ref, un_mk, ok4_0, ok4_1, ok4_2, ok4_3, ok4_4, Kn_some, Kn_none, true_and, and_true]
    exact out (by rw [ei]; exact decide_eq_false (fun z => q2 z.2))
  have q2 := Decidable.not_not.mp q2
  have ein : inb x 2 = true := by rw [ei]; exact decide_eq_true ⟨q1, q2⟩
  obtain ⟨i, i1, rfl⟩ := inb_of ein (by decide)
  have hh := h5 i i1
  rcases id hh.2 with e | ⟨e1, e2, e3, e4, e5⟩
  · simp only [w_c_goBack_0, w_c_goBack_1, w_c_goBack_4, w_c_goBack_5, w_c_goBack_6, w_c_goBack_9, w_c_goBack_11, w_c_goBack_12, w_c_goBack_13, w_c_goBack_16, w_c_goBack_17, w_c_goBack_20, w_c_goBack_23, w_c_goBack_25, w_c_goBack_26, w_c_goBack_27, w_c_goBack_30, w_c_goBack_31, w_c_goBack_34, w_c_goBack_35, w_c_goBack_38, w_c_goBack_41, w_c_goBack_42, w_c_goBack_43, w_c_goBack_46, w_c_goBack_47, w_c_goBack_50, w_c_goBack_53, w_c_goBack_54, w_c_goBack_57, w_c_goBack_60, w_c_goBack_61, xc_3, cl_7, xc_1, xc_10, eq_false q1, eq_true q2, e_z_hasImage i1 (Or.inl e), e, cl_0, cl_1, cl_3, cl_5, cl_7, cl_12, cl_15, cl_21, cl_29, zpp hp, i10, Bool.false_eq_true, eq_self, true_or, or_true, if_true, if_false, gv_int, gv_ref, av_some, al_some, un_int, un_ref, un_mk, ok4_0, ok4_1, ok4_2, ok4_3, ok4_4, Kn_some, Kn_none, true_and, and_true]
    refine JQ.mk ?_
    refine Eq.mpr e_m_goBack ?_
    rw [nI_clamp (show i < 2 ^ 31 by omega)]
    refine ite_t ein (ite_t (hh.1.symm.trans e) ?_)
    exact ⟨rfl, rfl, hj⟩
  · simp only [w_c_goBack_0, w_c_goBack_1, w_c_goBack_4, w_c_goBack_5, w_c_goBack_6, w_c_goBack_9, w_c_goBack_11, w_c_goBack_12, w_c_goBack_13, w_c_goBack_16, w_c_goBack_17, w_c_goBack_20, w_c_goBack_23, w_c_goBack_25, w_c_goBack_26, w_c_goBack_27, w_c_goBack_30, w_c_goBack_31, w_c_goBack_34, w_c_goBack_35, w_c_goBack_38, w_c_goBack_41, w_c_goBack_42, w_c_goBack_43, w_c_goBack_46, w_c_goBack_47, w_c_goBack_50, w_c_goBack_53, w_c_goBack_54, w_c_goBack_57, w_c_goBack_60, w_c_goBack_61, xc_3, cl_7, xc_1, xc_10, eq_false q1, eq_true q2, e_z_hasImage i1 (Or.inr e1), e1, e_z_imageHands i1, e2, e_h_unpack isHH_3, show (3 + 1 : Nat) = 4 from rfl, upF_pk e3 m5, e_z_imageChance i1, show ∀ f, st M 4 f 10 = M 10 from fun _ => rfl, e4, e_z_forgetActs, cl_0, cl_1, cl_3, cl_5, cl_7, cl_12, cl_15, cl_21, cl_29, zpp hp, i10, Bool.false_eq_true, eq_self, true_or, or_true, if_true, if_false, gv_int, gv_ref, av_some, al_some, un_int, un_ref, un_mk, ok4_0, ok4_1, ok4_2, ok4_3, ok4_4, Kn_some, Kn_none, true_and, and_true]
    refine JQ.mk ?_
    refine Eq.mpr e_m_goBack ?_
    rw [nI_clamp (show i < 2 ^ 31 by omega)]
    refine ite_t ein (ite_f (fun z => by have z := hh.1.trans z; rw [e1] at z; exact absurd z (by decide)) ?_)
    refine ⟨rfl, rfl, K, C, N, h0, h1.fr h0 ?_ ⟨rfl, rfl, rfl⟩ ⟨rfl, rfl, rfl, rfl, rfl, rfl⟩, ?_, h3, ⟨0, by omega, rfl, rfl, fun j hj => absurd hj (Nat.not_lt_zero _)⟩, h5, h6, h7, ⟨rfl, show ¬ M 83 (8 * i + 7) < 0 by rw [← e4]; exact e5⟩, h9, h10⟩
    · intro c c1 c2
      simp only [up_c, st_at]
      repeat rw [if_neg (by omega)]
    · show JH (fun j => if j < 7 then M 83 (8 * i + j) else M 4 j) (M 17) (fun j => if j < 7 then M 83 (8 * i + j) else M 65 j) C
      rw [d1]
      exact JH_new h2 (HV_congr (fun t ht => if_pos ht) e3) (fun j hj => (if_neg hj).trans (d4 j hj))
