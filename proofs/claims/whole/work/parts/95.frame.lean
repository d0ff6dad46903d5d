/-! what lies far out stays as it is: the script -/
def FQ (M : Mm) (Q : Po) : Po := fun v s m => Q v s m ∧ s.length ≤ 500 ∧ ∀ c, 500 ≤ c → m c = M c
theorem FQ_of {M M' : Mm} {Q : Po} (h : ∀ c, 500 ≤ c → M' c = M c) : ∀ v s m, FQ M' Q v s m → FQ M Q v s m := fun _ _ _ k => ⟨k.1, k.2.1, fun c hc => (k.2.2 c hc).trans (h c hc)⟩
theorem sh_lt {sh : List Sh} {o : Nat} {x : Sh} (h : sh[o]? = some x) : o < sh.length := by
  obtain ⟨hl, -⟩ := List.getElem?_eq_some_iff.mp h
  exact hl
theorem gf_lt {sh : List Sh} {o c k : Nat} {v : Value} (h : gf sh o c k = some v) : o < sh.length := by
  obtain ⟨fs, h1, -⟩ := gf_inv h
  exact sh_lt h1
theorem aln_lt {sh : List Sh} {a : Nat} {q : Nat × Nat} (h : aln sh a = some q) : a < sh.length := sh_lt (aln_inv h)
theorem stf_ln (sh : List Sh) (o k : Nat) (v : Value) : (stf sh o k v).length = sh.length := by
  unfold stf
  split
  · rw [List.length_set]
  · rfl
theorem up_fr {M : Mm} {o k : Nat} {x : Int32} (h : o < 500) : ∀ c, 500 ≤ c → up M o k x c = M c := fun c hc => if_neg (by omega)
theorem zr_fr {M : Mm} {o : Nat} (h : o < 500) : ∀ c, 500 ≤ c → zr M o c = M c := fun c hc => if_neg (by omega)
theorem cpm_fr {M : Mm} {a b s d n : Nat} (h : b < 500) : ∀ c, 500 ≤ c → cpm M a b s d n c = M c := fun c hc => if_neg (by omega)
theorem ex1_fr {Z : XP} (h : ∀ y pc L st sh n M (R : Po), Z y pc L st sh n M R → sh.length ≤ 500 → WP y pc L st sh n M (FQ M R)) {Q : Po} {op : Ap} {y : Nat} {L st : List Value} {sh : List Sh} {n : Nat × Nat} {M : Mm} (hs : sh.length ≤ 500) : ex1 Z op y L st sh n M Q → ex1 WP op y L st sh n M (FQ M Q) := by
  obtain ⟨i, nx, a, b, d⟩ := op
  have hX : ∀ {y pc : Nat} {L st : List Value} {n : Nat × Nat}, Z y pc L st sh n M Q → WP y pc L st sh n M (FQ M Q) := fun k => h _ _ _ _ _ _ _ _ k hs
  have hM : ∀ {y pc : Nat} {L st : List Value} {sh' : List Sh} {n : Nat × Nat} {M' : Mm}, Z y pc L st sh' n M' Q → sh'.length ≤ 500 → (∀ c, 500 ≤ c → M' c = M c) → WP y pc L st sh' n M' (FQ M Q) := fun k hl hf => (h _ _ _ _ _ _ _ _ k hl).mono (FQ_of hf)
  have hc : ∀ {z y nx : Nat} {L : List Value} {n : Nat × Nat} {as rest : List Value}, kc Z z y nx L sh n M Q as rest → kc WP z y nx L sh n M (FQ M Q) as rest := by
    intro z y nx L n as rest k
    refine ⟨k.1, k.2.1, k.2.2.1, k.2.2.2.1, (h _ _ _ _ _ _ _ _ k.2.2.2.2 hs).mono ?_⟩
    intro v s m k2
    exact hM k2.1 k2.2.1 k2.2.2
  cases i <;> try exact fun k => False.elim k
  case iconst => exact kd_m (fun _ => hX)
  case bipush => exact kd_m (fun _ => hX)
  case sipush => exact kd_m (fun _ => hX)
  case ldc => exact kd_m (fun _ => hX)
  case ldc_w => exact kd_m (fun _ => hX)
  case lconst => exact hX
  case ldc2_w => exact hX
  case iload => exact lI_m (fun _ => hX)
  case iload_n => exact lI_m (fun _ => hX)
  case lload => exact lJ_m (fun _ => hX)
  case lload_n => exact lJ_m (fun _ => hX)
  case aload => exact lR_m (fun _ => hX)
  case aload_n => exact lR_m (fun _ => hX)
  case istore => exact kI_m (fun _ _ => hX)
  case istore_n => exact kI_m (fun _ _ => hX)
  case astore => exact kR_m (fun _ _ => hX)
  case astore_n => exact kR_m (fun _ _ => hX)
  case lstore_n => exact kJ_m (fun _ _ => hX)
  case iinc => exact lI_m (fun _ => kd_m (fun _ => hX))
  case iadd => exact kI_m (fun _ _ => kI_m (fun _ _ => hX))
  case isub => exact kI_m (fun _ _ => kI_m (fun _ _ => hX))
  case imul => exact kI_m (fun _ _ => kI_m (fun _ _ => hX))
  case iand => exact kI_m (fun _ _ => kI_m (fun _ _ => hX))
  case ior => exact kI_m (fun _ _ => kI_m (fun _ _ => hX))
  case idiv => exact kI_m (fun _ _ => kI_m (fun _ _ => And.imp_right hX))
  case irem => exact kI_m (fun _ _ => kI_m (fun _ _ => And.imp_right hX))
  case ishl => exact kI_m (fun _ _ => kI_m (fun _ _ => hX))
  case ishr => exact kI_m (fun _ _ => kI_m (fun _ _ => hX))
  case iushr => exact kI_m (fun _ _ => kI_m (fun _ _ => hX))
  case ladd => exact kJ_m (fun _ _ => kJ_m (fun _ _ => hX))
  case lmul => exact kJ_m (fun _ _ => kJ_m (fun _ _ => hX))
  case land => exact kJ_m (fun _ _ => kJ_m (fun _ _ => hX))
  case ldiv => exact kJ_m (fun _ _ => kJ_m (fun _ _ => And.imp_right hX))
  case lrem => exact kJ_m (fun _ _ => kJ_m (fun _ _ => And.imp_right hX))
  case lcmp => exact kJ_m (fun _ _ => kJ_m (fun _ _ => hX))
  case i2l => exact kI_m (fun _ _ => hX)
  case l2i => exact kJ_m (fun _ _ => hX)
  case dup => exact fun k => k.elim (fun k => Or.inl (kI_m (fun _ _ => hX) k)) (fun k => Or.inr (kR_m (fun _ _ => hX) k))
  case dup2 => exact kI_m (fun _ _ => kR_m (fun _ _ => hX))
  case ifCond c o => cases c <;> exact kI_m (fun _ _ => if_m hX hX)
  case if_icmp c o => cases c <;> exact kI_m (fun _ _ => kI_m (fun _ _ => if_m hX hX))
  case goto => exact hX
  case tableswitch => exact kI_m (fun _ _ => sw_m (fun _ => hX))
  case lookupswitch => exact kI_m (fun _ _ => sw_m (fun _ => hX))
  case getfield => exact kR_m (fun _ _ => gv_m (fun _ => hX))
  case putfield =>
    intro k
    simp only [ex1] at k ⊢
    split at k
    · exact kI_m (fun _ _ => kR_m (fun _ _ k => ⟨k.1, hM k.2 hs (up_fr (Nat.lt_of_lt_of_le (gf_lt k.1) hs))⟩)) k
    · exact kI_m (fun _ _ => kR_m (fun _ _ k => ⟨k.1, k.2.1, hM k.2.2 hs (up_fr (Nat.lt_of_lt_of_le (gf_lt k.1) hs))⟩)) k
    · exact kR_m (fun _ _ => kR_m (fun _ _ k => ⟨k.1, hM k.2 (by rw [stf_ln]; exact hs) (fun _ _ => rfl)⟩)) k
    · exact k.elim
  case iaload => exact kI_m (fun _ _ => kR_m (fun _ _ => if_m (And.imp_right (And.imp_right hX)) (av_m hX)))
  case baload => exact kI_m (fun _ _ => kR_m (fun _ _ => av_m hX))
  case iastore =>
    refine kI_m (fun _ _ => kI_m (fun _ _ => kR_m (fun o _ k => ?_)))
    obtain ⟨m, e, -, -⟩ := av_inv k
    exact av_m (fun k => hM k hs (up_fr (Nat.lt_of_lt_of_le (aln_lt e) hs))) k
  case bastore =>
    refine kI_m (fun _ _ => kI_m (fun _ _ => kR_m (fun o _ k => ?_)))
    obtain ⟨m, e, -, -⟩ := av_inv k
    exact av_m (fun k => ⟨k.1, hM k.2 hs (up_fr (Nat.lt_of_lt_of_le (aln_lt e) hs))⟩) k
  case arraylength => exact kR_m (fun _ _ => if_m (And.imp_right hX) (al_m (fun _ => hX)))
  case new => exact fun k => ⟨k.1, k.2.1, k.2.2.1, hM k.2.2.2 (by rw [List.length_append]; exact k.2.2.1) (zr_fr (by have := k.2.2.1; omega))⟩
  case newarray => exact kI_m (fun _ _ k => ⟨k.1, k.2.1, k.2.2.1, k.2.2.2.1, k.2.2.2.2.1, hM k.2.2.2.2.2 (by rw [List.length_append]; exact k.2.2.2.2.1) (zr_fr (by have := k.2.2.2.2.1; omega))⟩)
  case invokevirtual => exact pop_m (fun _ _ => kR_m (fun _ _ => And.imp_right hc))
  case invokestatic =>
    refine if_m (kI_m (fun _ _ => kI_m (fun _ _ => kR_m (fun _ _ => kI_m (fun _ _ => kR_m (fun _ _ k => ?_)))))) (if_m (kI_m (fun _ _ => kI_m (fun _ _ => And.imp_right hX))) (if_m (kI_m (fun _ _ => kI_m (fun _ _ => And.imp_right hX))) (pop_m (fun _ _ => hc))))
    obtain ⟨n0, n1, e0, e1, -⟩ := id k.2.2.2.2.1
    exact ⟨k.1, k.2.1, k.2.2.1, k.2.2.2.1, k.2.2.2.2.1, hM k.2.2.2.2.2 hs (cpm_fr (Nat.lt_of_lt_of_le (aln_lt e1) hs))⟩
  case invokespecial => exact if_m (kR_m (fun _ _ => And.imp_right hX)) (pop_m (fun _ _ => kR_m (fun _ _ => hc)))
  case ireturn => exact fun k => ⟨k.1, k.2.1, kI_m (fun _ _ => rz_m (fun q => ⟨q, hs, fun _ _ => rfl⟩)) k.2.2⟩
  case areturn => exact fun k => ⟨k.1, k.2.1, kR_m (fun _ _ q => ⟨q, hs, fun _ _ => rfl⟩) k.2.2⟩
  case return_ => exact fun k => ⟨k.1, k.2.1, k.2.2, hs, fun _ _ => rfl⟩
theorem WP.fr {y pc : Nat} {L st : List Value} {sh : List Sh} {n : Nat × Nat} {M : Mm} {Q : Po} (h : WP y pc L st sh n M Q) (hs : sh.length ≤ 500) : WP y pc L st sh n M (FQ M Q) := by
  refine h (fun y pc L st sh n M Q => sh.length ≤ 500 → WP y pc L st sh n M (FQ M Q)) ?_ hs
  intro Z hZ y pc L st sh n M Q op hop he hs
  exact WP.fold hop (ex1_fr (fun y pc L st sh n M R k hl => hZ y pc L st sh n M R k hl) hs he)
/-- what the law does with both answers -/
theorem j_both {A B z1 z2 : Nat} {L1 L2 : List Value} {M : Mm} {Q : Po} (h : WP z1 0 L1 [] (shw A B) (0, 0) M (JQ z2 L2)) (hq : ∀ r A' B' M1, (∀ c, 500 ≤ c → M1 c = M c) → WP z2 0 L2 [] (shw A' B') (0, 0) M1 (fun v s M2 => (v = some (.int r) ∧ s = shw A' B' ∧ JJ M2 A' B') ∧ ∀ c, 500 ≤ c → M2 c = M c) → Q (some (.int r)) (shw A' B') M1) : WP z1 0 L1 [] (shw A B) (0, 0) M Q := by
  refine (h.fr (show (shw A B).length ≤ 500 from Nat.le_of_ble_eq_true rfl)).mono ?_
  rintro v s M1 ⟨⟨r, A', B', rfl, rfl, hw⟩, -, hf⟩
  refine hq r A' B' M1 hf ?_
  refine (hw.fr (show (shw A' B').length ≤ 500 from Nat.le_of_ble_eq_true rfl)).mono ?_
  rintro v s M2 ⟨k, -, hf2⟩
  exact ⟨k, fun c hc => (hf2 c hc).trans (hf c hc)⟩
/-- the loops of constructors -/
theorem h_loop {sh : List Sh} {o a : Nat} {M : Mm} {Q : Po} (hg : gf sh o 1 0 = some (.ref a)) (ha : aln sh a = some (0, 7)) (hQ : Q none sh (st M a (flF (-1) 7 (M a)))) : WP 8 14 [.ref o, .int 0] [] sh (1, 7) M Q := by
  have := for_up (n := 7) (P := fun k => WP 8 14 [.ref o, .int (nI k)] [] sh (1, 7) (st M a (flF (-1) k (M a))) Q) ?_ ?_
  · rw [flF_0, st_self] at this
    exact this
  · rw [w_h_init_14]
    simp only [w_h_init_0, w_h_init_1, w_h_init_4, w_h_init_5, w_h_init_7, w_h_init_9, w_h_init_12, w_h_init_13, w_h_init_15, w_h_init_17, w_h_init_20, w_h_init_21, w_h_init_24, w_h_init_25, w_h_init_26, w_h_init_27, w_h_init_30, w_h_init_33, (show (nI 7 < 7) = False by decide), i10, Bool.false_eq_true, eq_self, true_or, or_true, if_true, if_false, gv_int, gv_ref, av_some, al_some, un_int, un_ref, un_mk, ok4_0, ok4_1, ok4_2, ok4_3, ok4_4, Kn_some, Kn_none, true_and, and_true]
    exact hQ
  · intro k hk ih
    have g1 : nI k < 7 := nI_lt (b := 7) hk (by decide)
    have g2 : vp_in (nI k) 7 := vp_in_nI hk (by decide)
    rw [w_h_init_14]
    simp only [w_h_init_0, w_h_init_1, w_h_init_4, w_h_init_5, w_h_init_7, w_h_init_9, w_h_init_12, w_h_init_13, w_h_init_15, w_h_init_17, w_h_init_20, w_h_init_21, w_h_init_24, w_h_init_25, w_h_init_26, w_h_init_27, w_h_init_30, w_h_init_33, g1, g2, hg, ha, nI_clamp (show k < 2 ^ 31 by omega), up_st, flF_s, nI_1, i10, Bool.false_eq_true, eq_self, true_or, or_true, if_true, if_false, gv_int, gv_ref, av_some, al_some, un_int, un_ref, un_mk, ok4_0, ok4_1, ok4_2, ok4_3, ok4_4, Kn_some, Kn_none, true_and, and_true]
    exact ih
theorem m_loop {sh : List Sh} {o a : Nat} {M : Mm} {Q : Po} (hg : gf sh o 11 9 = some (.ref a)) (ha : aln sh a = some (0, 7)) (hQ : Q none sh (st M a (flF (-1) 7 (M a)))) : WP 142 211 [.ref o, .int 0] [] sh (26, 577) M Q := by
  have := for_up (n := 7) (P := fun k => WP 142 211 [.ref o, .int (nI k)] [] sh (26, 577) (st M a (flF (-1) k (M a))) Q) ?_ ?_
  · rw [flF_0, st_self] at this
    exact this
  · rw [w_m_init_211]
    simp only [w_m_init_212, w_m_init_214, w_m_init_230, (show (nI 7 < 7) = False by decide), if_false]
    exact hQ
  · intro k hk ih
    have g1 : nI k < 7 := nI_lt (b := 7) hk (by decide)
    have g2 : vp_in (nI k) 7 := vp_in_nI hk (by decide)
    rw [w_m_init_211]
    simp only [w_m_init_212, w_m_init_214, w_m_init_217, w_m_init_218, w_m_init_221, w_m_init_222, w_m_init_223, w_m_init_224, w_m_init_227, g1, if_true, hg, gv_ref, ha, av_some, g2, true_and, nI_clamp (show k < 2 ^ 31 by omega), up_st, flF_s, nI_1, un_ref]
    exact ih
