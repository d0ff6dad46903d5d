/-! both answer alike: what is read -/
theorem illE_s (mu : Nat → Int32) (kd : Nat → Nat) (h : Nat → Int32) (n : Nat) : illE mu kd h (n + 1) = illE mu kd h n ||| (if h n < 0 then (0 : Int32) else if bt (mu (h n).toNatClampNeg) (nI (kd n)) then (1 : Int32) <<< (h n &&& 31) else 0) := rfl
theorem illE_0 (mu : Nat → Int32) (kd : Nat → Nat) (h : Nat → Int32) : illE mu kd h 0 = 0 := rfl
theorem illE_congr {mu mu' : Nat → Int32} {kd : Nat → Nat} {h : Nat → Int32} {C : Nat} (hv : HV h C) (hC : C ≤ 4) (hm : ∀ i, i < C → mu i = mu' i) (n : Nat) (hn : n ≤ 7) : illE mu kd h n = illE mu' kd h n := by
  induction n with
  | zero => rw [illE_0, illE_0]
  | succ n ih =>
    have ih := ih (by omega)
    rw [illE_s, illE_s, ih]
    rcases hv n (by omega) with e | ⟨j, j1, e⟩
    · have l : (-1 : Int32) < 0 := by decide
      rw [e, if_pos l, if_pos l]
    · rw [e, nI_clamp (show j < 2 ^ 31 by omega), hm j j1]
theorem costE_congr {pe pe' : Nat → Int32} {kd : Nat → Nat} : ∀ n, (∀ t, t < n → pe (kd t) = pe' (kd t)) → costE pe kd n = costE pe' kd n
  | 0, _ => rfl
  | n + 1, h => by
    have ih := costE_congr (kd := kd) n (fun t ht => h t (by omega))
    unfold costE at ih ⊢
    rw [lp_s, lp_s, ih, h n (by omega)]
theorem e_r_length {A B : Nat} {M : Mm} {Q : Po} : WP 55 0 [.ref 1] [] (shw A B) (0, 0) M Q = Q (some (.int (M 1 1))) (shw A B) M := by
  simp only [w_r_length_0, w_r_length_1, w_r_length_4, xr_1, i10, Bool.false_eq_true, eq_self, true_or, or_true, if_true, if_false, gv_int, gv_ref, av_some, al_some, un_int, un_ref, un_mk, ok4_0, ok4_1, ok4_2, ok4_3, ok4_4, Kn_some, Kn_none, true_and, and_true]
theorem e_r_faultPlace {A B : Nat} {M : Mm} {Q : Po} : WP 59 0 [.ref 1] [] (shw A B) (0, 0) M Q = Q (some (.int (M 1 5))) (shw A B) M := by
  simp only [w_r_faultPlace_0, w_r_faultPlace_1, w_r_faultPlace_4, xr_5, i10, Bool.false_eq_true, eq_self, true_or, or_true, if_true, if_false, gv_int, gv_ref, av_some, al_some, un_int, un_ref, un_mk, ok4_0, ok4_1, ok4_2, ok4_3, ok4_4, Kn_some, Kn_none, true_and, and_true]
theorem e_r_isFull {A B k : Nat} {M : Mm} {Q : Po} (hk : M 1 1 = nI k) (h : k ≤ 240) : WP 56 0 [.ref 1] [] (shw A B) (0, 0) M Q = if k = 240 then Q (some (.int 1)) (shw A B) M else Q (some (.int 0)) (shw A B) M := by
  by_cases q : k = 240
  · subst q
    simp only [w_r_isFull_0, w_r_isFull_1, w_r_isFull_4, w_r_isFull_7, w_r_isFull_10, w_r_isFull_11, w_r_isFull_14, w_r_isFull_15, xr_1, hk, show (nI 240 < 240) = False by decide, i10, Bool.false_eq_true, eq_self, true_or, or_true, if_true, if_false, gv_int, gv_ref, av_some, al_some, un_int, un_ref, un_mk, ok4_0, ok4_1, ok4_2, ok4_3, ok4_4, Kn_some, Kn_none, true_and, and_true]
  · have g : nI k < 240 := nI_lt (b := 240) (by omega) (by decide)
    simp only [w_r_isFull_0, w_r_isFull_1, w_r_isFull_4, w_r_isFull_7, w_r_isFull_10, w_r_isFull_11, w_r_isFull_14, w_r_isFull_15, xr_1, hk, g, eq_false q, i10, Bool.false_eq_true, eq_self, true_or, or_true, if_true, if_false, gv_int, gv_ref, av_some, al_some, un_int, un_ref, un_mk, ok4_0, ok4_1, ok4_2, ok4_3, ok4_4, Kn_some, Kn_none, true_and, and_true]
theorem e_r_append {A B k : Nat} {M : Mm} {Q : Po} {x : Int32} (hk : M 1 1 = nI k) (h : k < 240) : WP 57 0 [.ref 1, .int x] [] (shw A B) (0, 0) M Q = Q none (shw A B) (up (up M 2 k x) 1 1 (nI (k + 1))) := by
  have g : nI k < 240 := nI_lt (b := 240) (by omega) (by decide)
  have g2 : vp_in (nI k) 240 := vp_in_nI (by omega) (by decide)
  simp only [w_r_append_0, w_r_append_1, w_r_append_4, w_r_append_7, w_r_append_10, w_r_append_11, w_r_append_14, w_r_append_15, w_r_append_18, w_r_append_19, w_r_append_20, w_r_append_21, w_r_append_22, w_r_append_25, w_r_append_26, w_r_append_27, w_r_append_30, xr_1, xr_0, al_2, hk, g, g2, nI_clamp (show k < 2 ^ 31 by omega), show ∀ x, up M 2 k x 1 1 = nI k from fun _ => hk, nI_1, i10, Bool.false_eq_true, eq_self, true_or, or_true, if_true, if_false, gv_int, gv_ref, av_some, al_some, un_int, un_ref, un_mk, ok4_0, ok4_1, ok4_2, ok4_3, ok4_4, Kn_some, Kn_none, true_and, and_true]
theorem j_feed {A B : Nat} {M : Mm} {x : Int32} (hj : JJ M A B) : WP 105 0 [.ref 0, .int x] [] (shw A B) (0, 0) M (JQ 149 [.ref 58, .int x]) := by
  obtain ⟨K, C, N, h⟩ := hj
  obtain ⟨h0, h1, h2, ⟨k, k1, k2, k3, k4, k5, k6⟩, h4⟩ := id h
  have e0 : (x < 0) ↔ ¬ 0 ≤ x.toInt := by rw [Int32.lt_iff_toInt_lt, show (0 : Int32).toInt = 0 from rfl]; omega
  have e255 : (255 < x) ↔ ¬ x.toInt < 256 := by rw [Int32.lt_iff_toInt_lt, show (255 : Int32).toInt = 255 from rfl]; omega
  have ei : inb x 256 = decide (¬ x < 0 ∧ ¬ 255 < x) := by
    unfold inb
    rw [decide_eq_decide, e0, e255]
    omega
  have out : inb x 256 = false → JQ 149 [.ref 58, .int x] (some (.int (-1000000002))) (shw A B) M := by
    intro e
    refine JQ.mk ?_
    rw [e_m_feed k3 k1, e]
    exact ⟨rfl, rfl, K, C, N, h⟩
  by_cases q1 : x < 0
  · simp only [w_c_feed_0, w_c_feed_1, w_c_feed_4, w_c_feed_5, w_c_feed_8, w_c_feed_11, w_c_feed_13, w_c_feed_14, w_c_feed_15, w_c_feed_18, w_c_feed_21, w_c_feed_24, w_c_feed_26, w_c_feed_27, w_c_feed_28, w_c_feed_31, w_c_feed_32, w_c_feed_35, w_c_feed_36, w_c_feed_39, w_c_feed_42, xc_0, cl_1, eq_true q1, i10, Bool.false_eq_true, eq_self, true_or, or_true, if_true, if_false, gv_int, gv_ref, av_some, al_some, un_int, un_ref, un_mk, ok4_0, ok4_1, ok4_2, ok4_3, ok4_4, Kn_some, Kn_none, true_and, and_true]
    exact out (by rw [ei]; exact decide_eq_false (fun z => z.1 q1))
  · by_cases q2 : 255 < x
    · simp only [w_c_feed_0, w_c_feed_1, w_c_feed_4, w_c_feed_5, w_c_feed_8, w_c_feed_11, w_c_feed_13, w_c_feed_14, w_c_feed_15, w_c_feed_18, w_c_feed_21, w_c_feed_24, w_c_feed_26, w_c_feed_27, w_c_feed_28, w_c_feed_31, w_c_feed_32, w_c_feed_35, w_c_feed_36, w_c_feed_39, w_c_feed_42, xc_0, cl_1, eq_false q1, eq_true q2, i10, Bool.false_eq_true, eq_self, true_or, or_true, if_true, if_false, gv_int, gv_ref, av_some, al_some, un_int, un_ref, un_mk, ok4_0, ok4_1, ok4_2, ok4_3, ok4_4, Kn_some, Kn_none, true_and, and_true]
      exact out (by rw [ei]; exact decide_eq_false (fun z => z.2 q2))
    · have ein : inb x 256 = true := by rw [ei]; exact decide_eq_true ⟨q1, q2⟩
      by_cases q3 : k = 240
      · simp only [w_c_feed_0, w_c_feed_1, w_c_feed_4, w_c_feed_5, w_c_feed_8, w_c_feed_11, w_c_feed_13, w_c_feed_14, w_c_feed_15, w_c_feed_18, w_c_feed_21, w_c_feed_24, w_c_feed_26, w_c_feed_27, w_c_feed_28, w_c_feed_31, w_c_feed_32, w_c_feed_35, w_c_feed_36, w_c_feed_39, w_c_feed_42, xc_0, cl_1, eq_false q1, eq_false q2, e_r_isFull k2 k1, q3, cl_1, i10, Bool.false_eq_true, eq_self, true_or, or_true, if_true, if_false, gv_int, gv_ref, av_some, al_some, un_int, un_ref, un_mk, ok4_0, ok4_1, ok4_2, ok4_3, ok4_4, Kn_some, Kn_none, true_and, and_true]
        refine JQ.mk ?_
        rw [e_m_feed k3 k1, ein, if_pos rfl, if_pos q3]
        exact ⟨rfl, rfl, K, C, N, h⟩
      · simp only [w_c_feed_0, w_c_feed_1, w_c_feed_4, w_c_feed_5, w_c_feed_8, w_c_feed_11, w_c_feed_13, w_c_feed_14, w_c_feed_15, w_c_feed_18, w_c_feed_21, w_c_feed_24, w_c_feed_26, w_c_feed_27, w_c_feed_28, w_c_feed_31, w_c_feed_32, w_c_feed_35, w_c_feed_36, w_c_feed_39, w_c_feed_42, xc_0, cl_1, eq_false q1, eq_false q2, e_r_isFull k2 k1, eq_false q3, e_r_append k2 (show k < 240 by omega), e_r_length, cl_1, show ∀ X y, up X 1 1 y 1 1 = y from fun _ _ => rfl, i10, Bool.false_eq_true, eq_self, true_or, or_true, if_true, if_false, gv_int, gv_ref, av_some, al_some, un_int, un_ref, un_mk, ok4_0, ok4_1, ok4_2, ok4_3, ok4_4, Kn_some, Kn_none, true_and, and_true]
        refine JQ.mk ?_
        rw [e_m_feed (k := k) (M := up (up M 2 k x) 1 1 (nI (k + 1))) k3 k1, ein, if_pos rfl, if_neg q3]
        refine ⟨rfl, rfl, K, C, N, h0, h1.fr h0 (fun c c1 c2 => ?_) ⟨rfl, rfl, rfl⟩ ⟨rfl, rfl, rfl, rfl, rfl, rfl⟩, h2, ⟨k + 1, by omega, rfl, rfl, ?_, ?_, k6⟩, h4⟩
        · rw [up_c, if_neg (by omega), up_c, if_neg (by omega), up_c, if_neg (by omega), up_c, if_neg (by omega)]
        · show upd (M 2) k x = upd (M 66) k x
          rw [k4]
        · intro i hi
          show ¬ upd (M 66) k x i < 0
          rw [upd_at]
          by_cases z : i = k
          · rw [if_pos z]; exact q1
          · rw [if_neg z]; exact k5 i (by omega)
theorem j_fault {A B : Nat} {M : Mm} (hj : JJ M A B) : WP 107 0 [.ref 0] [] (shw A B) (0, 0) M (JQ 161 [.ref 58]) := by
  obtain ⟨K, C, N, h⟩ := id hj
  obtain ⟨h0, h1, h2, ⟨k, k1, k2, k3, k4, k5, k6⟩, h4⟩ := id h
  simp only [w_c_fault_0, w_c_fault_1, w_c_fault_4, w_c_fault_7, xc_0, cl_1, e_r_faultPlace, cl_1, k6, i10, Bool.false_eq_true, eq_self, true_or, or_true, if_true, if_false, gv_int, gv_ref, av_some, al_some, un_int, un_ref, un_mk, ok4_0, ok4_1, ok4_2, ok4_3, ok4_4, Kn_some, Kn_none, true_and, and_true]
  refine JQ.mk ?_
  rw [e_m_fault]
  exact ⟨rfl, rfl, hj⟩
theorem j_told {A B : Nat} {M : Mm} {x : Int32} (hj : JJ M A B) : WP 108 0 [.ref 0, .int x] [] (shw A B) (0, 0) M (JQ 170 [.ref 58, .int x]) := by
  obtain ⟨K, C, N, h⟩ := id hj
  obtain ⟨h0, h1, h2, ⟨k, k1, k2, k3, k4, k5, k6⟩, ⟨u, u1, u2, u3, u4⟩, h6, ⟨s, s1, s2, s3, s4⟩, ⟨b, b1, b2, b3, b4⟩, h9⟩ := id h
  have hp := h0.pp
  obtain ⟨c1, c2, c3, c4, c5, c6, c7, c8⟩ := id h1
  obtain ⟨d1, d2, d3, d4⟩ := id h2
  obtain ⟨⟨m1, m2, m3⟩, m4, m5, m6⟩ := id c2.1
  have hv : HV (M 4) C := by rw [d1]; exact d2
  have rd := fun (Q : Po) => e_m_told (A := A) (B := B) (M := M) (Q := Q) (what := x) c1 d2
  by_cases q0 : x = 0
  · subst q0
    simp only [w_c_told_0, w_c_told_1, w_c_told_64, w_c_told_65, w_c_told_68, w_c_told_71, w_c_told_72, w_c_told_73, w_c_told_76, w_c_told_79, w_c_told_80, w_c_told_81, w_c_told_84, w_c_told_87, w_c_told_88, w_c_told_89, w_c_told_92, w_c_told_95, w_c_told_96, w_c_told_97, w_c_told_100, w_c_told_101, w_c_told_102, w_c_told_105, w_c_told_108, w_c_told_111, w_c_told_112, w_c_told_113, w_c_told_116, w_c_told_117, w_c_told_120, w_c_told_123, w_c_told_124, w_c_told_125, w_c_told_128, w_c_told_129, w_c_told_132, w_c_told_135, w_c_told_136, w_c_told_137, w_c_told_140, w_c_told_141, w_c_told_144, w_c_told_147, w_c_told_148, w_c_told_149, w_c_told_152, w_c_told_155, w_c_told_156, w_c_told_157, w_c_told_160, w_c_told_163, w_c_told_164, w_c_told_165, w_c_told_168, w_c_told_171, w_c_told_172, w_c_told_173, w_c_told_176, w_c_told_179, w_c_told_180, w_c_told_182, xc_8, xc_0, cl_1, xc_1, cl_0, xc_4, cl_12, xc_3, cl_7, xpp_0 hp, m1, i10, Bool.false_eq_true, eq_self, true_or, or_true, if_true, if_false, gv_int, gv_ref, av_some, al_some, un_int, un_ref, un_mk, ok4_0, ok4_1, ok4_2, ok4_3, ok4_4, Kn_some, Kn_none, true_and, and_true]
    refine JQ.mk ?_
    rw [rd]
    exact ⟨rfl, rfl, hj⟩
  by_cases q1 : x = 1
  · subst q1
    simp only [w_c_told_0, w_c_told_1, w_c_told_64, w_c_told_65, w_c_told_68, w_c_told_71, w_c_told_72, w_c_told_73, w_c_told_76, w_c_told_79, w_c_told_80, w_c_told_81, w_c_told_84, w_c_told_87, w_c_told_88, w_c_told_89, w_c_told_92, w_c_told_95, w_c_told_96, w_c_told_97, w_c_told_100, w_c_told_101, w_c_told_102, w_c_told_105, w_c_told_108, w_c_told_111, w_c_told_112, w_c_told_113, w_c_told_116, w_c_told_117, w_c_told_120, w_c_told_123, w_c_told_124, w_c_told_125, w_c_told_128, w_c_told_129, w_c_told_132, w_c_told_135, w_c_told_136, w_c_told_137, w_c_told_140, w_c_told_141, w_c_told_144, w_c_told_147, w_c_told_148, w_c_told_149, w_c_told_152, w_c_told_155, w_c_told_156, w_c_told_157, w_c_told_160, w_c_told_163, w_c_told_164, w_c_told_165, w_c_told_168, w_c_told_171, w_c_told_172, w_c_told_173, w_c_told_176, w_c_told_179, w_c_told_180, w_c_told_182, xc_8, xc_0, cl_1, xc_1, cl_0, xc_4, cl_12, xc_3, cl_7, xpp_1 hp, m2, i10, Bool.false_eq_true, eq_self, true_or, or_true, if_true, if_false, gv_int, gv_ref, av_some, al_some, un_int, un_ref, un_mk, ok4_0, ok4_1, ok4_2, ok4_3, ok4_4, Kn_some, Kn_none, true_and, and_true]
    refine JQ.mk ?_
    rw [rd]
    exact ⟨rfl, rfl, hj⟩
  by_cases q2 : x = 2
  · subst q2
    simp only [w_c_told_0, w_c_told_1, w_c_told_64, w_c_told_65, w_c_told_68, w_c_told_71, w_c_told_72, w_c_told_73, w_c_told_76, w_c_told_79, w_c_told_80, w_c_told_81, w_c_told_84, w_c_told_87, w_c_told_88, w_c_told_89, w_c_told_92, w_c_told_95, w_c_told_96, w_c_told_97, w_c_told_100, w_c_told_101, w_c_told_102, w_c_told_105, w_c_told_108, w_c_told_111, w_c_told_112, w_c_told_113, w_c_told_116, w_c_told_117, w_c_told_120, w_c_told_123, w_c_told_124, w_c_told_125, w_c_told_128, w_c_told_129, w_c_told_132, w_c_told_135, w_c_told_136, w_c_told_137, w_c_told_140, w_c_told_141, w_c_told_144, w_c_told_147, w_c_told_148, w_c_told_149, w_c_told_152, w_c_told_155, w_c_told_156, w_c_told_157, w_c_told_160, w_c_told_163, w_c_told_164, w_c_told_165, w_c_told_168, w_c_told_171, w_c_told_172, w_c_told_173, w_c_told_176, w_c_told_179, w_c_told_180, w_c_told_182, xc_8, xc_0, cl_1, xc_1, cl_0, xc_4, cl_12, xc_3, cl_7, xpp_2 hp, m3, i10, Bool.false_eq_true, eq_self, true_or, or_true, if_true, if_false, gv_int, gv_ref, av_some, al_some, un_int, un_ref, un_mk, ok4_0, ok4_1, ok4_2, ok4_3, ok4_4, Kn_some, Kn_none, true_and, and_true]
    refine JQ.mk ?_
    rw [rd]
    exact ⟨rfl, rfl, hj⟩
  by_cases q3 : x = 3
  · subst q3
    simp only [w_c_told_0, w_c_told_1, w_c_told_64, w_c_told_65, w_c_told_68, w_c_told_71, w_c_told_72, w_c_told_73, w_c_told_76, w_c_told_79, w_c_told_80, w_c_told_81, w_c_told_84, w_c_told_87, w_c_told_88, w_c_told_89, w_c_told_92, w_c_told_95, w_c_told_96, w_c_told_97, w_c_told_100, w_c_told_101, w_c_told_102, w_c_told_105, w_c_told_108, w_c_told_111, w_c_told_112, w_c_told_113, w_c_told_116, w_c_told_117, w_c_told_120, w_c_told_123, w_c_told_124, w_c_told_125, w_c_told_128, w_c_told_129, w_c_told_132, w_c_told_135, w_c_told_136, w_c_told_137, w_c_told_140, w_c_told_141, w_c_told_144, w_c_told_147, w_c_told_148, w_c_told_149, w_c_told_152, w_c_told_155, w_c_told_156, w_c_told_157, w_c_told_160, w_c_told_163, w_c_told_164, w_c_told_165, w_c_told_168, w_c_told_171, w_c_told_172, w_c_told_173, w_c_told_176, w_c_told_179, w_c_told_180, w_c_told_182, xc_8, xc_0, cl_1, xc_1, cl_0, xc_4, cl_12, xc_3, cl_7, e_r_length, k2, cl_1, i10, Bool.false_eq_true, eq_self, true_or, or_true, if_true, if_false, gv_int, gv_ref, av_some, al_some, un_int, un_ref, un_mk, ok4_0, ok4_1, ok4_2, ok4_3, ok4_4, Kn_some, Kn_none, true_and, and_true]
    refine JQ.mk ?_
    rw [rd]
    exact ⟨by rw [k3], rfl, hj⟩
  by_cases q4 : x = 4
  · subst q4
    simp only [w_c_told_0, w_c_told_1, w_c_told_64, w_c_told_65, w_c_told_68, w_c_told_71, w_c_told_72, w_c_told_73, w_c_told_76, w_c_told_79, w_c_told_80, w_c_told_81, w_c_told_84, w_c_told_87, w_c_told_88, w_c_told_89, w_c_told_92, w_c_told_95, w_c_told_96, w_c_told_97, w_c_told_100, w_c_told_101, w_c_told_102, w_c_told_105, w_c_told_108, w_c_told_111, w_c_told_112, w_c_told_113, w_c_told_116, w_c_told_117, w_c_told_120, w_c_told_123, w_c_told_124, w_c_told_125, w_c_told_128, w_c_told_129, w_c_told_132, w_c_told_135, w_c_told_136, w_c_told_137, w_c_told_140, w_c_told_141, w_c_told_144, w_c_told_147, w_c_told_148, w_c_told_149, w_c_told_152, w_c_told_155, w_c_told_156, w_c_told_157, w_c_told_160, w_c_told_163, w_c_told_164, w_c_told_165, w_c_told_168, w_c_told_171, w_c_told_172, w_c_told_173, w_c_told_176, w_c_told_179, w_c_told_180, w_c_told_182, xc_8, xc_0, cl_1, xc_1, cl_0, xc_4, cl_12, xc_3, cl_7, xpp_2 hp, m3, e_h_bagOf isHH_3 m6, cl_3, show (3 + 1 : Nat) = 4 from rfl, d1, i10, Bool.false_eq_true, eq_self, true_or, or_true, if_true, if_false, gv_int, gv_ref, av_some, al_some, un_int, un_ref, un_mk, ok4_0, ok4_1, ok4_2, ok4_3, ok4_4, Kn_some, Kn_none, true_and, and_true]
    refine JQ.mk ?_
    rw [rd]
    exact ⟨rfl, rfl, hj⟩
  by_cases q5 : x = 5
  · subst q5
    simp only [w_c_told_0, w_c_told_1, w_c_told_64, w_c_told_65, w_c_told_68, w_c_told_71, w_c_told_72, w_c_told_73, w_c_told_76, w_c_told_79, w_c_told_80, w_c_told_81, w_c_told_84, w_c_told_87, w_c_told_88, w_c_told_89, w_c_told_92, w_c_told_95, w_c_told_96, w_c_told_97, w_c_told_100, w_c_told_101, w_c_told_102, w_c_told_105, w_c_told_108, w_c_told_111, w_c_told_112, w_c_told_113, w_c_told_116, w_c_told_117, w_c_told_120, w_c_told_123, w_c_told_124, w_c_told_125, w_c_told_128, w_c_told_129, w_c_told_132, w_c_told_135, w_c_told_136, w_c_told_137, w_c_told_140, w_c_told_141, w_c_told_144, w_c_told_147, w_c_told_148, w_c_told_149, w_c_told_152, w_c_told_155, w_c_told_156, w_c_told_157, w_c_told_160, w_c_told_163, w_c_told_164, w_c_told_165, w_c_told_168, w_c_told_171, w_c_told_172, w_c_told_173, w_c_told_176, w_c_told_179, w_c_told_180, w_c_told_182, xc_8, xc_0, cl_1, xc_1, cl_0, xc_4, cl_12, xc_3, cl_7, cl_0, i10, Bool.false_eq_true, eq_self, true_or, or_true, if_true, if_false, gv_int, gv_ref, av_some, al_some, un_int, un_ref, un_mk, ok4_0, ok4_1, ok4_2, ok4_3, ok4_4, Kn_some, Kn_none, true_and, and_true]
    refine c_worthsNow hp c2 hv (fun f hw => ?_)
    simp only [w_c_told_0, w_c_told_1, w_c_told_64, w_c_told_65, w_c_told_68, w_c_told_71, w_c_told_72, w_c_told_73, w_c_told_76, w_c_told_79, w_c_told_80, w_c_told_81, w_c_told_84, w_c_told_87, w_c_told_88, w_c_told_89, w_c_told_92, w_c_told_95, w_c_told_96, w_c_told_97, w_c_told_100, w_c_told_101, w_c_told_102, w_c_told_105, w_c_told_108, w_c_told_111, w_c_told_112, w_c_told_113, w_c_told_116, w_c_told_117, w_c_told_120, w_c_told_123, w_c_told_124, w_c_told_125, w_c_told_128, w_c_told_129, w_c_told_132, w_c_told_135, w_c_told_136, w_c_told_137, w_c_told_140, w_c_told_141, w_c_told_144, w_c_told_147, w_c_told_148, w_c_told_149, w_c_told_152, w_c_told_155, w_c_told_156, w_c_told_157, w_c_told_160, w_c_told_163, w_c_told_164, w_c_told_165, w_c_told_168, w_c_told_171, w_c_told_172, w_c_told_173, w_c_told_176, w_c_told_179, w_c_told_180, w_c_told_182, xc_8, xc_0, cl_1, xc_1, cl_0, xc_4, cl_12, xc_3, cl_7, e_v_allGrudges isVV_5 hp (h.s6 f).2.1.2.1 hw, cl_5, i10, Bool.false_eq_true, eq_self, true_or, or_true, if_true, if_false, gv_int, gv_ref, av_some, al_some, un_int, un_ref, un_mk, ok4_0, ok4_1, ok4_2, ok4_3, ok4_4, Kn_some, Kn_none, true_and, and_true]
    refine JQ.mk ?_
    rw [e_m_told (h.s6 f).2.1.1 (h.s6 f).2.2.1.2.1]
    exact ⟨by rw [d1]; rfl, rfl, K, C, N, h.s6 f⟩
  by_cases q6 : x = 6
  · subst q6
    simp only [w_c_told_0, w_c_told_1, w_c_told_64, w_c_told_65, w_c_told_68, w_c_told_71, w_c_told_72, w_c_told_73, w_c_told_76, w_c_told_79, w_c_told_80, w_c_told_81, w_c_told_84, w_c_told_87, w_c_told_88, w_c_told_89, w_c_told_92, w_c_told_95, w_c_told_96, w_c_told_97, w_c_told_100, w_c_told_101, w_c_told_102, w_c_told_105, w_c_told_108, w_c_told_111, w_c_told_112, w_c_told_113, w_c_told_116, w_c_told_117, w_c_told_120, w_c_told_123, w_c_told_124, w_c_told_125, w_c_told_128, w_c_told_129, w_c_told_132, w_c_told_135, w_c_told_136, w_c_told_137, w_c_told_140, w_c_told_141, w_c_told_144, w_c_told_147, w_c_told_148, w_c_told_149, w_c_told_152, w_c_told_155, w_c_told_156, w_c_told_157, w_c_told_160, w_c_told_163, w_c_told_164, w_c_told_165, w_c_told_168, w_c_told_171, w_c_told_172, w_c_told_173, w_c_told_176, w_c_told_179, w_c_told_180, w_c_told_182, xc_8, xc_0, cl_1, xc_1, cl_0, xc_4, cl_12, xc_3, cl_7, cl_0, i10, Bool.false_eq_true, eq_self, true_or, or_true, if_true, if_false, gv_int, gv_ref, av_some, al_some, un_int, un_ref, un_mk, ok4_0, ok4_1, ok4_2, ok4_3, ok4_4, Kn_some, Kn_none, true_and, and_true]
    refine c_worthsNow hp c2 hv (fun f hw => ?_)
    simp only [w_c_told_0, w_c_told_1, w_c_told_64, w_c_told_65, w_c_told_68, w_c_told_71, w_c_told_72, w_c_told_73, w_c_told_76, w_c_told_79, w_c_told_80, w_c_told_81, w_c_told_84, w_c_told_87, w_c_told_88, w_c_told_89, w_c_told_92, w_c_told_95, w_c_told_96, w_c_told_97, w_c_told_100, w_c_told_101, w_c_told_102, w_c_told_105, w_c_told_108, w_c_told_111, w_c_told_112, w_c_told_113, w_c_told_116, w_c_told_117, w_c_told_120, w_c_told_123, w_c_told_124, w_c_told_125, w_c_told_128, w_c_told_129, w_c_told_132, w_c_told_135, w_c_told_136, w_c_told_137, w_c_told_140, w_c_told_141, w_c_told_144, w_c_told_147, w_c_told_148, w_c_told_149, w_c_told_152, w_c_told_155, w_c_told_156, w_c_told_157, w_c_told_160, w_c_told_163, w_c_told_164, w_c_told_165, w_c_told_168, w_c_told_171, w_c_told_172, w_c_told_173, w_c_told_176, w_c_told_179, w_c_told_180, w_c_told_182, xc_8, xc_0, cl_1, xc_1, cl_0, xc_4, cl_12, xc_3, cl_7, e_v_tears isVV_5 hp (h.s6 f).2.1.2.1 hw, cl_5, i10, Bool.false_eq_true, eq_self, true_or, or_true, if_true, if_false, gv_int, gv_ref, av_some, al_some, un_int, un_ref, un_mk, ok4_0, ok4_1, ok4_2, ok4_3, ok4_4, Kn_some, Kn_none, true_and, and_true]
    refine JQ.mk ?_
    rw [e_m_told (h.s6 f).2.1.1 (h.s6 f).2.2.1.2.1]
    exact ⟨by rw [d1]; rfl, rfl, K, C, N, h.s6 f⟩
  by_cases q7 : x = 7
  · subst q7
    simp only [w_c_told_0, w_c_told_1, w_c_told_64, w_c_told_65, w_c_told_68, w_c_told_71, w_c_told_72, w_c_told_73, w_c_told_76, w_c_told_79, w_c_told_80, w_c_told_81, w_c_told_84, w_c_told_87, w_c_told_88, w_c_told_89, w_c_told_92, w_c_told_95, w_c_told_96, w_c_told_97, w_c_told_100, w_c_told_101, w_c_told_102, w_c_told_105, w_c_told_108, w_c_told_111, w_c_told_112, w_c_told_113, w_c_told_116, w_c_told_117, w_c_told_120, w_c_told_123, w_c_told_124, w_c_told_125, w_c_told_128, w_c_told_129, w_c_told_132, w_c_told_135, w_c_told_136, w_c_told_137, w_c_told_140, w_c_told_141, w_c_told_144, w_c_told_147, w_c_told_148, w_c_told_149, w_c_told_152, w_c_told_155, w_c_told_156, w_c_told_157, w_c_told_160, w_c_told_163, w_c_told_164, w_c_told_165, w_c_told_168, w_c_told_171, w_c_told_172, w_c_told_173, w_c_told_176, w_c_told_179, w_c_told_180, w_c_told_182, xc_8, xc_0, cl_1, xc_1, cl_0, xc_4, cl_12, xc_3, cl_7, e_h_illOf isHH_3 hp c2.1 c2.2.1 hv, cl_3, show (3 + 1 : Nat) = 4 from rfl, d1, illE_congr d2 m5 c4 N m6, i10, Bool.false_eq_true, eq_self, true_or, or_true, if_true, if_false, gv_int, gv_ref, av_some, al_some, un_int, un_ref, un_mk, ok4_0, ok4_1, ok4_2, ok4_3, ok4_4, Kn_some, Kn_none, true_and, and_true]
    refine JQ.mk ?_
    rw [rd]
    exact ⟨rfl, rfl, hj⟩
  by_cases q8 : x = 8
  · subst q8
    have ec := costE_congr (kd := kN M) N (fun t ht => (c3 (kN M t) (c8 t ht)).1)
    simp only [w_c_told_0, w_c_told_1, w_c_told_64, w_c_told_65, w_c_told_68, w_c_told_71, w_c_told_72, w_c_told_73, w_c_told_76, w_c_told_79, w_c_told_80, w_c_told_81, w_c_told_84, w_c_told_87, w_c_told_88, w_c_told_89, w_c_told_92, w_c_told_95, w_c_told_96, w_c_told_97, w_c_told_100, w_c_told_101, w_c_told_102, w_c_told_105, w_c_told_108, w_c_told_111, w_c_told_112, w_c_told_113, w_c_told_116, w_c_told_117, w_c_told_120, w_c_told_123, w_c_told_124, w_c_told_125, w_c_told_128, w_c_told_129, w_c_told_132, w_c_told_135, w_c_told_136, w_c_told_137, w_c_told_140, w_c_told_141, w_c_told_144, w_c_told_147, w_c_told_148, w_c_told_149, w_c_told_152, w_c_told_155, w_c_told_156, w_c_told_157, w_c_told_160, w_c_told_163, w_c_told_164, w_c_told_165, w_c_told_168, w_c_told_171, w_c_told_172, w_c_told_173, w_c_told_176, w_c_told_179, w_c_told_180, w_c_told_182, xc_8, xc_0, cl_1, xc_1, cl_0, xc_4, cl_12, xc_3, cl_7, e_p_pence hp c2.1 c2.2.1, zpp hp, ec, i10, Bool.false_eq_true, eq_self, true_or, or_true, if_true, if_false, gv_int, gv_ref, av_some, al_some, un_int, un_ref, un_mk, ok4_0, ok4_1, ok4_2, ok4_3, ok4_4, Kn_some, Kn_none, true_and, and_true]
    refine JQ.mk ?_
    rw [rd]
    exact ⟨rfl, rfl, hj⟩
  by_cases q9 : x = 9
  · subst q9
    simp only [w_c_told_0, w_c_told_1, w_c_told_64, w_c_told_65, w_c_told_68, w_c_told_71, w_c_told_72, w_c_told_73, w_c_told_76, w_c_told_79, w_c_told_80, w_c_told_81, w_c_told_84, w_c_told_87, w_c_told_88, w_c_told_89, w_c_told_92, w_c_told_95, w_c_told_96, w_c_told_97, w_c_told_100, w_c_told_101, w_c_told_102, w_c_told_105, w_c_told_108, w_c_told_111, w_c_told_112, w_c_told_113, w_c_told_116, w_c_told_117, w_c_told_120, w_c_told_123, w_c_told_124, w_c_told_125, w_c_told_128, w_c_told_129, w_c_told_132, w_c_told_135, w_c_told_136, w_c_told_137, w_c_told_140, w_c_told_141, w_c_told_144, w_c_told_147, w_c_told_148, w_c_told_149, w_c_told_152, w_c_told_155, w_c_told_156, w_c_told_157, w_c_told_160, w_c_told_163, w_c_told_164, w_c_told_165, w_c_told_168, w_c_told_171, w_c_told_172, w_c_told_173, w_c_told_176, w_c_told_179, w_c_told_180, w_c_told_182, xc_8, xc_0, cl_1, xc_1, cl_0, xc_4, cl_12, xc_3, cl_7, e_n_sights, cl_12, s2, i10, Bool.false_eq_true, eq_self, true_or, or_true, if_true, if_false, gv_int, gv_ref, av_some, al_some, un_int, un_ref, un_mk, ok4_0, ok4_1, ok4_2, ok4_3, ok4_4, Kn_some, Kn_none, true_and, and_true]
    refine JQ.mk ?_
    rw [rd]
    exact ⟨by rw [s3], rfl, hj⟩
  by_cases q10 : x = 10
  · subst q10
    simp only [w_c_told_0, w_c_told_1, w_c_told_64, w_c_told_65, w_c_told_68, w_c_told_71, w_c_told_72, w_c_told_73, w_c_told_76, w_c_told_79, w_c_told_80, w_c_told_81, w_c_told_84, w_c_told_87, w_c_told_88, w_c_told_89, w_c_told_92, w_c_told_95, w_c_told_96, w_c_told_97, w_c_told_100, w_c_told_101, w_c_told_102, w_c_told_105, w_c_told_108, w_c_told_111, w_c_told_112, w_c_told_113, w_c_told_116, w_c_told_117, w_c_told_120, w_c_told_123, w_c_told_124, w_c_told_125, w_c_told_128, w_c_told_129, w_c_told_132, w_c_told_135, w_c_told_136, w_c_told_137, w_c_told_140, w_c_told_141, w_c_told_144, w_c_told_147, w_c_told_148, w_c_told_149, w_c_told_152, w_c_told_155, w_c_told_156, w_c_told_157, w_c_told_160, w_c_told_163, w_c_told_164, w_c_told_165, w_c_told_168, w_c_told_171, w_c_told_172, w_c_told_173, w_c_told_176, w_c_told_179, w_c_told_180, w_c_told_182, xc_8, xc_0, cl_1, xc_1, cl_0, xc_4, cl_12, xc_3, cl_7, e_n_entries, cl_12, b2, i10, Bool.false_eq_true, eq_self, true_or, or_true, if_true, if_false, gv_int, gv_ref, av_some, al_some, un_int, un_ref, un_mk, ok4_0, ok4_1, ok4_2, ok4_3, ok4_4, Kn_some, Kn_none, true_and, and_true]
    refine JQ.mk ?_
    rw [rd]
    exact ⟨by rw [b3], rfl, hj⟩
  by_cases q11 : x = 11
  · subst q11
    simp only [w_c_told_0, w_c_told_1, w_c_told_64, w_c_told_65, w_c_told_68, w_c_told_71, w_c_told_72, w_c_told_73, w_c_told_76, w_c_told_79, w_c_told_80, w_c_told_81, w_c_told_84, w_c_told_87, w_c_told_88, w_c_told_89, w_c_told_92, w_c_told_95, w_c_told_96, w_c_told_97, w_c_told_100, w_c_told_101, w_c_told_102, w_c_told_105, w_c_told_108, w_c_told_111, w_c_told_112, w_c_told_113, w_c_told_116, w_c_told_117, w_c_told_120, w_c_told_123, w_c_told_124, w_c_told_125, w_c_told_128, w_c_told_129, w_c_told_132, w_c_told_135, w_c_told_136, w_c_told_137, w_c_told_140, w_c_told_141, w_c_told_144, w_c_told_147, w_c_told_148, w_c_told_149, w_c_told_152, w_c_told_155, w_c_told_156, w_c_told_157, w_c_told_160, w_c_told_163, w_c_told_164, w_c_told_165, w_c_told_168, w_c_told_171, w_c_told_172, w_c_told_173, w_c_told_176, w_c_told_179, w_c_told_180, w_c_told_182, xc_8, xc_0, cl_1, xc_1, cl_0, xc_4, cl_12, xc_3, cl_7, e_z_size, cl_7, u2, i10, Bool.false_eq_true, eq_self, true_or, or_true, if_true, if_false, gv_int, gv_ref, av_some, al_some, un_int, un_ref, un_mk, ok4_0, ok4_1, ok4_2, ok4_3, ok4_4, Kn_some, Kn_none, true_and, and_true]
    refine JQ.mk ?_
    rw [rd]
    exact ⟨by rw [u3], rfl, hj⟩
  simp only [w_c_told_0, w_c_told_1, w_c_told_64, w_c_told_65, w_c_told_68, w_c_told_71, w_c_told_72, w_c_told_73, w_c_told_76, w_c_told_79, w_c_told_80, w_c_told_81, w_c_told_84, w_c_told_87, w_c_told_88, w_c_told_89, w_c_told_92, w_c_told_95, w_c_told_96, w_c_told_97, w_c_told_100, w_c_told_101, w_c_told_102, w_c_told_105, w_c_told_108, w_c_told_111, w_c_told_112, w_c_told_113, w_c_told_116, w_c_told_117, w_c_told_120, w_c_told_123, w_c_told_124, w_c_told_125, w_c_told_128, w_c_told_129, w_c_told_132, w_c_told_135, w_c_told_136, w_c_told_137, w_c_told_140, w_c_told_141, w_c_told_144, w_c_told_147, w_c_told_148, w_c_told_149, w_c_told_152, w_c_told_155, w_c_told_156, w_c_told_157, w_c_told_160, w_c_told_163, w_c_told_164, w_c_told_165, w_c_told_168, w_c_told_171, w_c_told_172, w_c_told_173, w_c_told_176, w_c_told_179, w_c_told_180, w_c_told_182, xc_8, xc_0, cl_1, xc_1, cl_0, xc_4, cl_12, xc_3, cl_7, eq_false q0, eq_false q1, eq_false q2, eq_false q3, eq_false q4, eq_false q5, eq_false q6, eq_false q7, eq_false q8, eq_false q9, eq_false q10, eq_false q11, i10, Bool.false_eq_true, eq_self, true_or, or_true, if_true, if_false, gv_int, gv_ref, av_some, al_some, un_int, un_ref, un_mk, ok4_0, ok4_1, ok4_2, ok4_3, ok4_4, Kn_some, Kn_none, true_and, and_true]
  refine JQ.mk ?_
  rw [rd]
  simp only [q0, q1, q2, q3, q4, q5, q6, q7, q8, q9, q10, q11, if_false]
  exact ⟨rfl, rfl, hj⟩
