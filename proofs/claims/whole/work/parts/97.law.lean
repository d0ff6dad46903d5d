/-! both begin alike -/
set_option maxRecDepth 100000 in
theorem j_start (M : Mm) : JJ (mm_law M) 38 48 := by
  have e4 : mm_law M 4 = flF (-1) 7 (fun _ => 0) := rfl
  have e65 : mm_law M 65 = flF (-1) 7 (fun _ => 0) := rfl
  have e17 : mm_law M 17 = flF (-1) 7 (fun _ => 0) := rfl
  have e64 : mm_law M 64 = fun _ => 0 := rfl
  have no : ∀ {p : Prop} (i : Nat), i < 0 → p := fun i hi => absurd hi (Nat.not_lt_zero _)
  have hz : ∀ j, ¬ j < 7 → flF (-1) 7 (fun _ => 0) j = 0 := fun j hj => if_neg hj
  refine ⟨0, 0, 0, Or.inl ⟨rfl, rfl⟩, ⟨⟨rfl, rfl, rfl, by omega, by omega, by omega, fun t ht => ⟨0, by omega, by rw [e64]; rfl⟩⟩, ⟨⟨⟨rfl, rfl, rfl⟩, by omega, by omega, by omega⟩, fun t ht => no t ht, fun i t hi => no i hi, fun i hi => no i hi, 0, fun _ => 0, fun _ => 0, rfl, by omega, fun q hq => no q hq, PL_0 _ _ _⟩, fun k hk => no k hk, fun i hi => no i hi, fun i k hi => no i hi, fun i j hi => no i hi, fun i k hi => no i hi, fun t ht => no t ht⟩, ?_, ?_, ?_, ?_, ?_, ?_, ?_, Or.inl rfl, Or.inl rfl⟩
  · rw [e4, e65, e17]
    exact ⟨rfl, fun t ht => Or.inl (if_pos ht), fun j hj => rfl, hz⟩
  · exact ⟨0, by omega, rfl, rfl, rfl, fun i hi => no i hi, rfl⟩
  · exact ⟨0, by omega, rfl, rfl, fun j hj => no j hj⟩
  · intro i hi
    have a : mm_law M 11 = fun _ => 0 := rfl
    have b : mm_law M 84 = fun _ => 0 := rfl
    rw [a, b]
    exact ⟨rfl, Or.inl rfl⟩
  · refine ⟨0, by omega, rfl, rfl, fun q hq => no q hq, ?_, ?_⟩
    · show (0 : Int32) = bS (fun _ => false) 16
      decide
    · show (0 : Int32) = bS (fun _ => false) 16
      decide
  · exact ⟨0, by omega, rfl, rfl, fun k hk => no k hk⟩
  · exact ⟨rfl, by show ¬ (0 : Int32) < 0; decide⟩
theorem start_far (M : Mm) {c : Nat} (hc : c = 1000 ∨ c = 1001) : mm_law M c = M c := by
  rcases hc with rfl | rfl <;> rfl
/-- the law's walk -/
theorem law_loop {L : Nat} (hL : L ≤ 256) : ∀ f i, L < i + 4 * f → i ≤ 300 → ∀ (M : Mm) A B, JJ M A B → M 1001 0 = nI L → WP 0 18 [.ref 1000, .ref 0, .ref 58, .int (nI i)] [] (shw A B) (85, 1300) M (fun v _ _ => v = some (.int 1)) := by
  intro f
  induction f with
  | zero =>
    intro i hi h3 M A B hj hl
    have g : nI L - 4 < nI i := by
      rw [Int32.lt_iff_toInt_lt, show (4 : Int32) = nI 4 from rfl, pk_sub_toInt (by omega) (by decide), nI_toInt (by omega)]
      omega
    rw [w_l_law_18]
    simp only [w_l_law_19, w_l_law_20, w_l_law_21, w_l_law_22, w_l_law_23, w_l_law_1038, w_l_law_1039, hl, eq_true g, if_true, eq_self, true_and, or_true]
  | succ f ih =>
    intro i hi h3 M A B hj hl
    by_cases hx : L < i + 4
    · have g : nI L - 4 < nI i := by
        rw [Int32.lt_iff_toInt_lt, show (4 : Int32) = nI 4 from rfl, pk_sub_toInt (by omega) (by decide), nI_toInt (by omega)]
        omega
      rw [w_l_law_18]
      simp only [w_l_law_19, w_l_law_20, w_l_law_21, w_l_law_22, w_l_law_23, w_l_law_1038, w_l_law_1039, hl, eq_true g, if_true, eq_self, true_and, or_true]
    have g : ¬ nI L - 4 < nI i := by
      rw [Int32.lt_iff_toInt_lt, show (4 : Int32) = nI 4 from rfl, pk_sub_toInt (by omega) (by decide), nI_toInt (by omega)]
      omega
    have c0 : (nI L).toNatClampNeg = L := nI_clamp (by omega)
    have a1 : nI i + 1 = nI (i + 1) := nI_1 i
    have a2 : nI i + 2 = nI (i + 2) := nI_add i 2
    have a3 : nI i + 3 = nI (i + 3) := nI_add i 3
    have a4 : nI i + 4 = nI (i + 4) := nI_add i 4
    have v0 : vp_in (nI i) L := vp_in_nI (by omega) (by omega)
    have v1 : vp_in (nI (i + 1)) L := vp_in_nI (by omega) (by omega)
    have v2 : vp_in (nI (i + 2)) L := vp_in_nI (by omega) (by omega)
    have v3 : vp_in (nI (i + 3)) L := vp_in_nI (by omega) (by omega)
    have k0 : (nI i).toNatClampNeg = i := nI_clamp (by omega)
    have k1 : (nI (i + 1)).toNatClampNeg = i + 1 := nI_clamp (by omega)
    have k2 : (nI (i + 2)).toNatClampNeg = i + 2 := nI_clamp (by omega)
    have k3 : (nI (i + 3)).toNatClampNeg = i + 3 := nI_clamp (by omega)
    have go : ∀ (M2 : Mm) A B, JJ M2 A B → (∀ c, 500 ≤ c → M2 c = M c) → WP 0 1032 [.ref 1000, .ref 0, .ref 58, .int (nI i)] [] (shw A B) (85, 1300) M2 (fun v _ _ => v = some (.int 1)) := by
      intro M2 A B hj2 hf2
      simp only [w_l_law_1032, w_l_law_1035, un_ref, a4]
      exact ih (i + 4) (by omega) (by omega) M2 A B hj2 (by rw [hf2 1001 (by decide)]; exact hl)
    rw [w_l_law_18]
    simp only [w_l_law_19, w_l_law_20, w_l_law_21, w_l_law_22, w_l_law_23, w_l_law_26, w_l_law_27, w_l_law_28, w_l_law_29, w_l_law_31, hl, eq_false g, if_false, eq_self, true_and, c0, v0, k0]
    generalize M 1000 i &&& 63 = x
    rw [w_l_law_32]
    by_cases q0 : x = 0
    · rw [if_pos q0]
      simp only [w_l_law_184, w_l_law_185, w_l_law_186, w_l_law_187, w_l_law_188, w_l_law_189, w_l_law_190, hl, eq_self, true_and, and_true, a1, a2, a3, c0, v1, v2, v3, k1, k2, k3, cl_0, cl_58, ok4_0, ok4_1, ok4_2, ok4_3, ok4_4, Kn_some]
      refine j_both (j_feed hj) ?_
      intro r A' B' M1 hf hw
      simp only [w_l_law_193, w_l_law_194, w_l_law_195, w_l_law_196, w_l_law_197, w_l_law_198, w_l_law_199, hf 1000 (by decide), hf 1001 (by decide), hl, eq_self, true_and, and_true, a1, a2, a3, c0, v1, v2, v3, k1, k2, k3, cl_0, cl_58, ok4_0, ok4_1, ok4_2, ok4_3, ok4_4, Kn_some]
      refine hw.mono ?_
      rintro v s M2 ⟨⟨rfl, rfl, hj2⟩, hf2⟩
      simp only [Kn_some, w_l_law_202, if_true]
      exact go M2 _ _ hj2 hf2
    rw [if_neg q0]
    by_cases q1 : x = 1
    · rw [if_pos q1]
      simp only [w_l_law_207, w_l_law_208, hl, eq_self, true_and, and_true, a1, a2, a3, c0, v1, v2, v3, k1, k2, k3, cl_0, cl_58, ok4_0, ok4_1, ok4_2, ok4_3, ok4_4, Kn_some]
      refine j_both (j_party hj) ?_
      intro r A' B' M1 hf hw
      simp only [w_l_law_211, w_l_law_212, hf 1000 (by decide), hf 1001 (by decide), hl, eq_self, true_and, and_true, a1, a2, a3, c0, v1, v2, v3, k1, k2, k3, cl_0, cl_58, ok4_0, ok4_1, ok4_2, ok4_3, ok4_4, Kn_some]
      refine hw.mono ?_
      rintro v s M2 ⟨⟨rfl, rfl, hj2⟩, hf2⟩
      simp only [Kn_some, w_l_law_215, if_true]
      exact go M2 _ _ hj2 hf2
    rw [if_neg q1]
    by_cases q2 : x = 2
    · rw [if_pos q2]
      simp only [w_l_law_220, w_l_law_221, hl, eq_self, true_and, and_true, a1, a2, a3, c0, v1, v2, v3, k1, k2, k3, cl_0, cl_58, ok4_0, ok4_1, ok4_2, ok4_3, ok4_4, Kn_some]
      refine j_both (j_fault hj) ?_
      intro r A' B' M1 hf hw
      simp only [w_l_law_224, w_l_law_225, hf 1000 (by decide), hf 1001 (by decide), hl, eq_self, true_and, and_true, a1, a2, a3, c0, v1, v2, v3, k1, k2, k3, cl_0, cl_58, ok4_0, ok4_1, ok4_2, ok4_3, ok4_4, Kn_some]
      refine hw.mono ?_
      rintro v s M2 ⟨⟨rfl, rfl, hj2⟩, hf2⟩
      simp only [Kn_some, w_l_law_228, if_true]
      exact go M2 _ _ hj2 hf2
    rw [if_neg q2]
    by_cases q3 : x = 3
    · rw [if_pos q3]
      simp only [w_l_law_233, w_l_law_234, w_l_law_235, w_l_law_236, w_l_law_237, w_l_law_238, w_l_law_239, hl, eq_self, true_and, and_true, a1, a2, a3, c0, v1, v2, v3, k1, k2, k3, cl_0, cl_58, ok4_0, ok4_1, ok4_2, ok4_3, ok4_4, Kn_some]
      refine j_both (j_told hj) ?_
      intro r A' B' M1 hf hw
      simp only [w_l_law_242, w_l_law_243, w_l_law_244, w_l_law_245, w_l_law_246, w_l_law_247, w_l_law_248, hf 1000 (by decide), hf 1001 (by decide), hl, eq_self, true_and, and_true, a1, a2, a3, c0, v1, v2, v3, k1, k2, k3, cl_0, cl_58, ok4_0, ok4_1, ok4_2, ok4_3, ok4_4, Kn_some]
      refine hw.mono ?_
      rintro v s M2 ⟨⟨rfl, rfl, hj2⟩, hf2⟩
      simp only [Kn_some, w_l_law_251, if_true]
      exact go M2 _ _ hj2 hf2
    rw [if_neg q3]
    by_cases q4 : x = 4
    · rw [if_pos q4]
      simp only [w_l_law_256, w_l_law_257, w_l_law_258, w_l_law_259, w_l_law_260, w_l_law_261, w_l_law_262, w_l_law_263, w_l_law_264, w_l_law_265, w_l_law_266, w_l_law_267, hl, eq_self, true_and, and_true, a1, a2, a3, c0, v1, v2, v3, k1, k2, k3, cl_0, cl_58, ok4_0, ok4_1, ok4_2, ok4_3, ok4_4, Kn_some]
      refine j_both (j_kind hj) ?_
      intro r A' B' M1 hf hw
      simp only [w_l_law_270, w_l_law_271, w_l_law_272, w_l_law_273, w_l_law_274, w_l_law_275, w_l_law_276, w_l_law_277, w_l_law_278, w_l_law_279, w_l_law_280, w_l_law_281, hf 1000 (by decide), hf 1001 (by decide), hl, eq_self, true_and, and_true, a1, a2, a3, c0, v1, v2, v3, k1, k2, k3, cl_0, cl_58, ok4_0, ok4_1, ok4_2, ok4_3, ok4_4, Kn_some]
      refine hw.mono ?_
      rintro v s M2 ⟨⟨rfl, rfl, hj2⟩, hf2⟩
      simp only [Kn_some, w_l_law_284, if_true]
      exact go M2 _ _ hj2 hf2
    rw [if_neg q4]
    by_cases q5 : x = 5
    · rw [if_pos q5]
      simp only [w_l_law_289, w_l_law_290, w_l_law_291, w_l_law_292, w_l_law_293, w_l_law_294, w_l_law_295, w_l_law_296, w_l_law_297, w_l_law_298, w_l_law_299, w_l_law_300, hl, eq_self, true_and, and_true, a1, a2, a3, c0, v1, v2, v3, k1, k2, k3, cl_0, cl_58, ok4_0, ok4_1, ok4_2, ok4_3, ok4_4, Kn_some]
      refine j_both (j_child hj) ?_
      intro r A' B' M1 hf hw
      simp only [w_l_law_303, w_l_law_304, w_l_law_305, w_l_law_306, w_l_law_307, w_l_law_308, w_l_law_309, w_l_law_310, w_l_law_311, w_l_law_312, w_l_law_313, w_l_law_314, hf 1000 (by decide), hf 1001 (by decide), hl, eq_self, true_and, and_true, a1, a2, a3, c0, v1, v2, v3, k1, k2, k3, cl_0, cl_58, ok4_0, ok4_1, ok4_2, ok4_3, ok4_4, Kn_some]
      refine hw.mono ?_
      rintro v s M2 ⟨⟨rfl, rfl, hj2⟩, hf2⟩
      simp only [Kn_some, w_l_law_317, if_true]
      exact go M2 _ _ hj2 hf2
    rw [if_neg q5]
    by_cases q6 : x = 6
    · rw [if_pos q6]
      simp only [w_l_law_322, w_l_law_323, w_l_law_324, w_l_law_325, w_l_law_326, w_l_law_327, w_l_law_328, w_l_law_329, w_l_law_330, w_l_law_331, w_l_law_332, w_l_law_333, hl, eq_self, true_and, and_true, a1, a2, a3, c0, v1, v2, v3, k1, k2, k3, cl_0, cl_58, ok4_0, ok4_1, ok4_2, ok4_3, ok4_4, Kn_some]
      refine j_both (j_gives hj) ?_
      intro r A' B' M1 hf hw
      simp only [w_l_law_336, w_l_law_337, w_l_law_338, w_l_law_339, w_l_law_340, w_l_law_341, w_l_law_342, w_l_law_343, w_l_law_344, w_l_law_345, w_l_law_346, w_l_law_347, hf 1000 (by decide), hf 1001 (by decide), hl, eq_self, true_and, and_true, a1, a2, a3, c0, v1, v2, v3, k1, k2, k3, cl_0, cl_58, ok4_0, ok4_1, ok4_2, ok4_3, ok4_4, Kn_some]
      refine hw.mono ?_
      rintro v s M2 ⟨⟨rfl, rfl, hj2⟩, hf2⟩
      simp only [Kn_some, w_l_law_350, if_true]
      exact go M2 _ _ hj2 hf2
    rw [if_neg q6]
    by_cases q7 : x = 7
    · rw [if_pos q7]
      simp only [w_l_law_355, w_l_law_356, w_l_law_357, w_l_law_358, w_l_law_359, w_l_law_360, w_l_law_361, w_l_law_362, w_l_law_363, w_l_law_364, w_l_law_365, w_l_law_366, hl, eq_self, true_and, and_true, a1, a2, a3, c0, v1, v2, v3, k1, k2, k3, cl_0, cl_58, ok4_0, ok4_1, ok4_2, ok4_3, ok4_4, Kn_some]
      refine j_both (j_thing hj) ?_
      intro r A' B' M1 hf hw
      simp only [w_l_law_369, w_l_law_370, w_l_law_371, w_l_law_372, w_l_law_373, w_l_law_374, w_l_law_375, w_l_law_376, w_l_law_377, w_l_law_378, w_l_law_379, w_l_law_380, hf 1000 (by decide), hf 1001 (by decide), hl, eq_self, true_and, and_true, a1, a2, a3, c0, v1, v2, v3, k1, k2, k3, cl_0, cl_58, ok4_0, ok4_1, ok4_2, ok4_3, ok4_4, Kn_some]
      refine hw.mono ?_
      rintro v s M2 ⟨⟨rfl, rfl, hj2⟩, hf2⟩
      simp only [Kn_some, w_l_law_383, if_true]
      exact go M2 _ _ hj2 hf2
    rw [if_neg q7]
    by_cases q8 : x = 8
    · rw [if_pos q8]
      simp only [w_l_law_388, w_l_law_389, w_l_law_390, w_l_law_391, w_l_law_392, w_l_law_393, w_l_law_394, w_l_law_395, w_l_law_396, w_l_law_397, w_l_law_398, w_l_law_399, hl, eq_self, true_and, and_true, a1, a2, a3, c0, v1, v2, v3, k1, k2, k3, cl_0, cl_58, ok4_0, ok4_1, ok4_2, ok4_3, ok4_4, Kn_some]
      refine j_both (j_envy hj) ?_
      intro r A' B' M1 hf hw
      simp only [w_l_law_402, w_l_law_403, w_l_law_404, w_l_law_405, w_l_law_406, w_l_law_407, w_l_law_408, w_l_law_409, w_l_law_410, w_l_law_411, w_l_law_412, w_l_law_413, hf 1000 (by decide), hf 1001 (by decide), hl, eq_self, true_and, and_true, a1, a2, a3, c0, v1, v2, v3, k1, k2, k3, cl_0, cl_58, ok4_0, ok4_1, ok4_2, ok4_3, ok4_4, Kn_some]
      refine hw.mono ?_
      rintro v s M2 ⟨⟨rfl, rfl, hj2⟩, hf2⟩
      simp only [Kn_some, w_l_law_416, if_true]
      exact go M2 _ _ hj2 hf2
    rw [if_neg q8]
    by_cases q9 : x = 9
    · rw [if_pos q9]
      simp only [w_l_law_421, w_l_law_422, w_l_law_423, w_l_law_424, w_l_law_425, w_l_law_426, w_l_law_427, w_l_law_428, w_l_law_429, w_l_law_430, w_l_law_431, w_l_law_432, hl, eq_self, true_and, and_true, a1, a2, a3, c0, v1, v2, v3, k1, k2, k3, cl_0, cl_58, ok4_0, ok4_1, ok4_2, ok4_3, ok4_4, Kn_some]
      refine j_both (j_give hj) ?_
      intro r A' B' M1 hf hw
      simp only [w_l_law_435, w_l_law_436, w_l_law_437, w_l_law_438, w_l_law_439, w_l_law_440, w_l_law_441, w_l_law_442, w_l_law_443, w_l_law_444, w_l_law_445, w_l_law_446, hf 1000 (by decide), hf 1001 (by decide), hl, eq_self, true_and, and_true, a1, a2, a3, c0, v1, v2, v3, k1, k2, k3, cl_0, cl_58, ok4_0, ok4_1, ok4_2, ok4_3, ok4_4, Kn_some]
      refine hw.mono ?_
      rintro v s M2 ⟨⟨rfl, rfl, hj2⟩, hf2⟩
      simp only [Kn_some, w_l_law_449, if_true]
      exact go M2 _ _ hj2 hf2
    rw [if_neg q9]
    by_cases q10 : x = 10
    · rw [if_pos q10]
      simp only [w_l_law_454, w_l_law_455, w_l_law_456, w_l_law_457, w_l_law_458, w_l_law_459, w_l_law_460, hl, eq_self, true_and, and_true, a1, a2, a3, c0, v1, v2, v3, k1, k2, k3, cl_0, cl_58, ok4_0, ok4_1, ok4_2, ok4_3, ok4_4, Kn_some]
      refine j_both (j_take hj) ?_
      intro r A' B' M1 hf hw
      simp only [w_l_law_463, w_l_law_464, w_l_law_465, w_l_law_466, w_l_law_467, w_l_law_468, w_l_law_469, hf 1000 (by decide), hf 1001 (by decide), hl, eq_self, true_and, and_true, a1, a2, a3, c0, v1, v2, v3, k1, k2, k3, cl_0, cl_58, ok4_0, ok4_1, ok4_2, ok4_3, ok4_4, Kn_some]
      refine hw.mono ?_
      rintro v s M2 ⟨⟨rfl, rfl, hj2⟩, hf2⟩
      simp only [Kn_some, w_l_law_472, if_true]
      exact go M2 _ _ hj2 hf2
    rw [if_neg q10]
    by_cases q11 : x = 11
    · rw [if_pos q11]
      simp only [w_l_law_477, w_l_law_478, w_l_law_479, w_l_law_480, w_l_law_481, w_l_law_482, w_l_law_483, w_l_law_484, w_l_law_485, w_l_law_486, w_l_law_487, w_l_law_488, hl, eq_self, true_and, and_true, a1, a2, a3, c0, v1, v2, v3, k1, k2, k3, cl_0, cl_58, ok4_0, ok4_1, ok4_2, ok4_3, ok4_4, Kn_some]
      refine j_both (j_swap hj) ?_
      intro r A' B' M1 hf hw
      simp only [w_l_law_491, w_l_law_492, w_l_law_493, w_l_law_494, w_l_law_495, w_l_law_496, w_l_law_497, w_l_law_498, w_l_law_499, w_l_law_500, w_l_law_501, w_l_law_502, hf 1000 (by decide), hf 1001 (by decide), hl, eq_self, true_and, and_true, a1, a2, a3, c0, v1, v2, v3, k1, k2, k3, cl_0, cl_58, ok4_0, ok4_1, ok4_2, ok4_3, ok4_4, Kn_some]
      refine hw.mono ?_
      rintro v s M2 ⟨⟨rfl, rfl, hj2⟩, hf2⟩
      simp only [Kn_some, w_l_law_505, if_true]
      exact go M2 _ _ hj2 hf2
    rw [if_neg q11]
    by_cases q12 : x = 12
    · rw [if_pos q12]
      simp only [w_l_law_510, w_l_law_511, w_l_law_512, w_l_law_513, w_l_law_514, w_l_law_515, w_l_law_516, hl, eq_self, true_and, and_true, a1, a2, a3, c0, v1, v2, v3, k1, k2, k3, cl_0, cl_58, ok4_0, ok4_1, ok4_2, ok4_3, ok4_4, Kn_some]
      refine j_both (j_draw hj) ?_
      intro r A' B' M1 hf hw
      simp only [w_l_law_519, w_l_law_520, w_l_law_521, w_l_law_522, w_l_law_523, w_l_law_524, w_l_law_525, hf 1000 (by decide), hf 1001 (by decide), hl, eq_self, true_and, and_true, a1, a2, a3, c0, v1, v2, v3, k1, k2, k3, cl_0, cl_58, ok4_0, ok4_1, ok4_2, ok4_3, ok4_4, Kn_some]
      refine hw.mono ?_
      rintro v s M2 ⟨⟨rfl, rfl, hj2⟩, hf2⟩
      simp only [Kn_some, w_l_law_528, if_true]
      exact go M2 _ _ hj2 hf2
    rw [if_neg q12]
    by_cases q13 : x = 13
    · rw [if_pos q13]
      simp only [w_l_law_533, w_l_law_534, w_l_law_535, w_l_law_536, w_l_law_537, w_l_law_538, w_l_law_539, hl, eq_self, true_and, and_true, a1, a2, a3, c0, v1, v2, v3, k1, k2, k3, cl_0, cl_58, ok4_0, ok4_1, ok4_2, ok4_3, ok4_4, Kn_some]
      refine j_both (j_drift hj) ?_
      intro r A' B' M1 hf hw
      simp only [w_l_law_542, w_l_law_543, w_l_law_544, w_l_law_545, w_l_law_546, w_l_law_547, w_l_law_548, hf 1000 (by decide), hf 1001 (by decide), hl, eq_self, true_and, and_true, a1, a2, a3, c0, v1, v2, v3, k1, k2, k3, cl_0, cl_58, ok4_0, ok4_1, ok4_2, ok4_3, ok4_4, Kn_some]
      refine hw.mono ?_
      rintro v s M2 ⟨⟨rfl, rfl, hj2⟩, hf2⟩
      simp only [Kn_some, w_l_law_551, if_true]
      exact go M2 _ _ hj2 hf2
    rw [if_neg q13]
    by_cases q14 : x = 14
    · rw [if_pos q14]
      simp only [w_l_law_556, w_l_law_557, hl, eq_self, true_and, and_true, a1, a2, a3, c0, v1, v2, v3, k1, k2, k3, cl_0, cl_58, ok4_0, ok4_1, ok4_2, ok4_3, ok4_4, Kn_some]
      refine j_both (j_undo hj) ?_
      intro r A' B' M1 hf hw
      simp only [w_l_law_560, w_l_law_561, hf 1000 (by decide), hf 1001 (by decide), hl, eq_self, true_and, and_true, a1, a2, a3, c0, v1, v2, v3, k1, k2, k3, cl_0, cl_58, ok4_0, ok4_1, ok4_2, ok4_3, ok4_4, Kn_some]
      refine hw.mono ?_
      rintro v s M2 ⟨⟨rfl, rfl, hj2⟩, hf2⟩
      simp only [Kn_some, w_l_law_564, if_true]
      exact go M2 _ _ hj2 hf2
    rw [if_neg q14]
    by_cases q15 : x = 15
    · rw [if_pos q15]
      simp only [w_l_law_569, w_l_law_570, w_l_law_571, w_l_law_572, w_l_law_573, w_l_law_574, w_l_law_575, hl, eq_self, true_and, and_true, a1, a2, a3, c0, v1, v2, v3, k1, k2, k3, cl_0, cl_58, ok4_0, ok4_1, ok4_2, ok4_3, ok4_4, Kn_some]
      refine j_both (j_swaps hj) ?_
      intro r A' B' M1 hf hw
      simp only [w_l_law_578, w_l_law_579, w_l_law_580, w_l_law_581, w_l_law_582, w_l_law_583, w_l_law_584, hf 1000 (by decide), hf 1001 (by decide), hl, eq_self, true_and, and_true, a1, a2, a3, c0, v1, v2, v3, k1, k2, k3, cl_0, cl_58, ok4_0, ok4_1, ok4_2, ok4_3, ok4_4, Kn_some]
      refine hw.mono ?_
      rintro v s M2 ⟨⟨rfl, rfl, hj2⟩, hf2⟩
      simp only [Kn_some, w_l_law_587, if_true]
      exact go M2 _ _ hj2 hf2
    rw [if_neg q15]
    by_cases q16 : x = 16
    · rw [if_pos q16]
      simp only [w_l_law_592, w_l_law_593, w_l_law_594, w_l_law_595, w_l_law_596, w_l_law_597, w_l_law_598, hl, eq_self, true_and, and_true, a1, a2, a3, c0, v1, v2, v3, k1, k2, k3, cl_0, cl_58, ok4_0, ok4_1, ok4_2, ok4_3, ok4_4, Kn_some]
      refine j_both (j_settled hj) ?_
      intro r A' B' M1 hf hw
      simp only [w_l_law_601, w_l_law_602, w_l_law_603, w_l_law_604, w_l_law_605, w_l_law_606, w_l_law_607, hf 1000 (by decide), hf 1001 (by decide), hl, eq_self, true_and, and_true, a1, a2, a3, c0, v1, v2, v3, k1, k2, k3, cl_0, cl_58, ok4_0, ok4_1, ok4_2, ok4_3, ok4_4, Kn_some]
      refine hw.mono ?_
      rintro v s M2 ⟨⟨rfl, rfl, hj2⟩, hf2⟩
      simp only [Kn_some, w_l_law_610, if_true]
      exact go M2 _ _ hj2 hf2
    rw [if_neg q16]
    by_cases q17 : x = 17
    · rw [if_pos q17]
      simp only [w_l_law_615, w_l_law_616, w_l_law_617, w_l_law_618, w_l_law_619, w_l_law_620, w_l_law_621, hl, eq_self, true_and, and_true, a1, a2, a3, c0, v1, v2, v3, k1, k2, k3, cl_0, cl_58, ok4_0, ok4_1, ok4_2, ok4_3, ok4_4, Kn_some]
      refine j_both (j_share hj) ?_
      intro r A' B' M1 hf hw
      simp only [w_l_law_624, w_l_law_625, w_l_law_626, w_l_law_627, w_l_law_628, w_l_law_629, w_l_law_630, hf 1000 (by decide), hf 1001 (by decide), hl, eq_self, true_and, and_true, a1, a2, a3, c0, v1, v2, v3, k1, k2, k3, cl_0, cl_58, ok4_0, ok4_1, ok4_2, ok4_3, ok4_4, Kn_some]
      refine hw.mono ?_
      rintro v s M2 ⟨⟨rfl, rfl, hj2⟩, hf2⟩
      simp only [Kn_some, w_l_law_633, if_true]
      exact go M2 _ _ hj2 hf2
    rw [if_neg q17]
    by_cases q18 : x = 18
    · rw [if_pos q18]
      simp only [w_l_law_638, w_l_law_639, w_l_law_640, w_l_law_641, w_l_law_642, w_l_law_643, w_l_law_644, w_l_law_645, w_l_law_646, w_l_law_647, w_l_law_648, w_l_law_649, hl, eq_self, true_and, and_true, a1, a2, a3, c0, v1, v2, v3, k1, k2, k3, cl_0, cl_58, ok4_0, ok4_1, ok4_2, ok4_3, ok4_4, Kn_some]
      refine j_both (j_choice hj) ?_
      intro r A' B' M1 hf hw
      simp only [w_l_law_652, w_l_law_653, w_l_law_654, w_l_law_655, w_l_law_656, w_l_law_657, w_l_law_658, w_l_law_659, w_l_law_660, w_l_law_661, w_l_law_662, w_l_law_663, hf 1000 (by decide), hf 1001 (by decide), hl, eq_self, true_and, and_true, a1, a2, a3, c0, v1, v2, v3, k1, k2, k3, cl_0, cl_58, ok4_0, ok4_1, ok4_2, ok4_3, ok4_4, Kn_some]
      refine hw.mono ?_
      rintro v s M2 ⟨⟨rfl, rfl, hj2⟩, hf2⟩
      simp only [Kn_some, w_l_law_666, if_true]
      exact go M2 _ _ hj2 hf2
    rw [if_neg q18]
    by_cases q19 : x = 19
    · rw [if_pos q19]
      simp only [w_l_law_671, w_l_law_672, w_l_law_673, w_l_law_674, w_l_law_675, w_l_law_676, w_l_law_677, hl, eq_self, true_and, and_true, a1, a2, a3, c0, v1, v2, v3, k1, k2, k3, cl_0, cl_58, ok4_0, ok4_1, ok4_2, ok4_3, ok4_4, Kn_some]
      refine j_both (j_bestOrder hj) ?_
      intro r A' B' M1 hf hw
      simp only [w_l_law_680, w_l_law_681, w_l_law_682, w_l_law_683, w_l_law_684, w_l_law_685, w_l_law_686, hf 1000 (by decide), hf 1001 (by decide), hl, eq_self, true_and, and_true, a1, a2, a3, c0, v1, v2, v3, k1, k2, k3, cl_0, cl_58, ok4_0, ok4_1, ok4_2, ok4_3, ok4_4, Kn_some]
      refine hw.mono ?_
      rintro v s M2 ⟨⟨rfl, rfl, hj2⟩, hf2⟩
      simp only [Kn_some, w_l_law_689, if_true]
      exact go M2 _ _ hj2 hf2
    rw [if_neg q19]
    by_cases q20 : x = 20
    · rw [if_pos q20]
      simp only [w_l_law_694, w_l_law_695, w_l_law_696, w_l_law_697, w_l_law_698, w_l_law_699, w_l_law_700, w_l_law_701, w_l_law_702, w_l_law_703, w_l_law_704, w_l_law_705, hl, eq_self, true_and, and_true, a1, a2, a3, c0, v1, v2, v3, k1, k2, k3, cl_0, cl_58, ok4_0, ok4_1, ok4_2, ok4_3, ok4_4, Kn_some]
      refine j_both (j_sweets hj) ?_
      intro r A' B' M1 hf hw
      simp only [w_l_law_708, w_l_law_709, w_l_law_710, w_l_law_711, w_l_law_712, w_l_law_713, w_l_law_714, w_l_law_715, w_l_law_716, w_l_law_717, w_l_law_718, w_l_law_719, hf 1000 (by decide), hf 1001 (by decide), hl, eq_self, true_and, and_true, a1, a2, a3, c0, v1, v2, v3, k1, k2, k3, cl_0, cl_58, ok4_0, ok4_1, ok4_2, ok4_3, ok4_4, Kn_some]
      refine hw.mono ?_
      rintro v s M2 ⟨⟨rfl, rfl, hj2⟩, hf2⟩
      simp only [Kn_some, w_l_law_722, if_true]
      exact go M2 _ _ hj2 hf2
    rw [if_neg q20]
    by_cases q21 : x = 21
    · rw [if_pos q21]
      simp only [w_l_law_727, w_l_law_728, w_l_law_729, w_l_law_730, w_l_law_731, w_l_law_732, w_l_law_733, hl, eq_self, true_and, and_true, a1, a2, a3, c0, v1, v2, v3, k1, k2, k3, cl_0, cl_58, ok4_0, ok4_1, ok4_2, ok4_3, ok4_4, Kn_some]
      refine j_both (j_lasts hj) ?_
      intro r A' B' M1 hf hw
      simp only [w_l_law_736, w_l_law_737, w_l_law_738, w_l_law_739, w_l_law_740, w_l_law_741, w_l_law_742, hf 1000 (by decide), hf 1001 (by decide), hl, eq_self, true_and, and_true, a1, a2, a3, c0, v1, v2, v3, k1, k2, k3, cl_0, cl_58, ok4_0, ok4_1, ok4_2, ok4_3, ok4_4, Kn_some]
      refine hw.mono ?_
      rintro v s M2 ⟨⟨rfl, rfl, hj2⟩, hf2⟩
      simp only [Kn_some, w_l_law_745, if_true]
      exact go M2 _ _ hj2 hf2
    rw [if_neg q21]
    by_cases q22 : x = 22
    · rw [if_pos q22]
      simp only [w_l_law_750, w_l_law_751, w_l_law_752, w_l_law_753, w_l_law_754, w_l_law_755, w_l_law_756, hl, eq_self, true_and, and_true, a1, a2, a3, c0, v1, v2, v3, k1, k2, k3, cl_0, cl_58, ok4_0, ok4_1, ok4_2, ok4_3, ok4_4, Kn_some]
      refine j_both (j_rises hj) ?_
      intro r A' B' M1 hf hw
      simp only [w_l_law_759, w_l_law_760, w_l_law_761, w_l_law_762, w_l_law_763, w_l_law_764, w_l_law_765, hf 1000 (by decide), hf 1001 (by decide), hl, eq_self, true_and, and_true, a1, a2, a3, c0, v1, v2, v3, k1, k2, k3, cl_0, cl_58, ok4_0, ok4_1, ok4_2, ok4_3, ok4_4, Kn_some]
      refine hw.mono ?_
      rintro v s M2 ⟨⟨rfl, rfl, hj2⟩, hf2⟩
      simp only [Kn_some, w_l_law_768, if_true]
      exact go M2 _ _ hj2 hf2
    rw [if_neg q22]
    by_cases q23 : x = 23
    · rw [if_pos q23]
      simp only [w_l_law_773, w_l_law_774, w_l_law_775, w_l_law_776, w_l_law_777, w_l_law_778, w_l_law_779, hl, eq_self, true_and, and_true, a1, a2, a3, c0, v1, v2, v3, k1, k2, k3, cl_0, cl_58, ok4_0, ok4_1, ok4_2, ok4_3, ok4_4, Kn_some]
      refine j_both (j_spare hj) ?_
      intro r A' B' M1 hf hw
      simp only [w_l_law_782, w_l_law_783, w_l_law_784, w_l_law_785, w_l_law_786, w_l_law_787, w_l_law_788, hf 1000 (by decide), hf 1001 (by decide), hl, eq_self, true_and, and_true, a1, a2, a3, c0, v1, v2, v3, k1, k2, k3, cl_0, cl_58, ok4_0, ok4_1, ok4_2, ok4_3, ok4_4, Kn_some]
      refine hw.mono ?_
      rintro v s M2 ⟨⟨rfl, rfl, hj2⟩, hf2⟩
      simp only [Kn_some, w_l_law_791, if_true]
      exact go M2 _ _ hj2 hf2
    rw [if_neg q23]
    by_cases q24 : x = 24
    · rw [if_pos q24]
      simp only [w_l_law_796, w_l_law_797, hl, eq_self, true_and, and_true, a1, a2, a3, c0, v1, v2, v3, k1, k2, k3, cl_0, cl_58, ok4_0, ok4_1, ok4_2, ok4_3, ok4_4, Kn_some]
      refine j_both (j_dry hj) ?_
      intro r A' B' M1 hf hw
      simp only [w_l_law_800, w_l_law_801, hf 1000 (by decide), hf 1001 (by decide), hl, eq_self, true_and, and_true, a1, a2, a3, c0, v1, v2, v3, k1, k2, k3, cl_0, cl_58, ok4_0, ok4_1, ok4_2, ok4_3, ok4_4, Kn_some]
      refine hw.mono ?_
      rintro v s M2 ⟨⟨rfl, rfl, hj2⟩, hf2⟩
      simp only [Kn_some, w_l_law_804, if_true]
      exact go M2 _ _ hj2 hf2
    rw [if_neg q24]
    by_cases q25 : x = 25
    · rw [if_pos q25]
      by_cases qe : M 1000 (i + 3) = 0
      · simp only [w_l_law_809, w_l_law_810, w_l_law_811, w_l_law_812, w_l_law_813, w_l_law_814, w_l_law_815, w_l_law_816, w_l_law_817, w_l_law_818, w_l_law_819, w_l_law_820, w_l_law_821, w_l_law_822, w_l_law_823, w_l_law_824, w_l_law_825, w_l_law_828, w_l_law_829, w_l_law_832, w_l_law_833, hl, eq_self, true_and, and_true, a1, a2, a3, c0, v1, v2, v3, k1, k2, k3, cl_0, cl_58, ok4_0, ok4_1, ok4_2, ok4_3, ok4_4, Kn_some, eq_true qe, if_true]
        refine j_both (j_see hj (Or.inl rfl)) ?_
        intro r A' B' M1 hf hw
        simp only [w_l_law_836, w_l_law_837, w_l_law_838, w_l_law_839, w_l_law_840, w_l_law_841, w_l_law_842, w_l_law_843, w_l_law_844, w_l_law_845, w_l_law_846, w_l_law_847, w_l_law_848, w_l_law_849, w_l_law_850, w_l_law_851, w_l_law_852, w_l_law_855, w_l_law_856, w_l_law_859, w_l_law_860, hf 1000 (by decide), hf 1001 (by decide), hl, eq_self, true_and, and_true, a1, a2, a3, c0, v1, v2, v3, k1, k2, k3, cl_0, cl_58, ok4_0, ok4_1, ok4_2, ok4_3, ok4_4, Kn_some, eq_true qe, if_true]
        refine hw.mono ?_
        rintro v s M2 ⟨⟨rfl, rfl, hj2⟩, hf2⟩
        simp only [Kn_some, w_l_law_863, if_true]
        exact go M2 _ _ hj2 hf2
      · simp only [w_l_law_809, w_l_law_810, w_l_law_811, w_l_law_812, w_l_law_813, w_l_law_814, w_l_law_815, w_l_law_816, w_l_law_817, w_l_law_818, w_l_law_819, w_l_law_820, w_l_law_821, w_l_law_822, w_l_law_823, w_l_law_824, w_l_law_825, w_l_law_828, w_l_law_829, w_l_law_832, w_l_law_833, hl, eq_self, true_and, and_true, a1, a2, a3, c0, v1, v2, v3, k1, k2, k3, cl_0, cl_58, ok4_0, ok4_1, ok4_2, ok4_3, ok4_4, Kn_some, eq_false qe, if_false]
        refine j_both (j_see hj (Or.inr rfl)) ?_
        intro r A' B' M1 hf hw
        simp only [w_l_law_836, w_l_law_837, w_l_law_838, w_l_law_839, w_l_law_840, w_l_law_841, w_l_law_842, w_l_law_843, w_l_law_844, w_l_law_845, w_l_law_846, w_l_law_847, w_l_law_848, w_l_law_849, w_l_law_850, w_l_law_851, w_l_law_852, w_l_law_855, w_l_law_856, w_l_law_859, w_l_law_860, hf 1000 (by decide), hf 1001 (by decide), hl, eq_self, true_and, and_true, a1, a2, a3, c0, v1, v2, v3, k1, k2, k3, cl_0, cl_58, ok4_0, ok4_1, ok4_2, ok4_3, ok4_4, Kn_some, eq_false qe, if_false]
        refine hw.mono ?_
        rintro v s M2 ⟨⟨rfl, rfl, hj2⟩, hf2⟩
        simp only [Kn_some, w_l_law_863, if_true]
        exact go M2 _ _ hj2 hf2
    rw [if_neg q25]
    by_cases q26 : x = 26
    · rw [if_pos q26]
      simp only [w_l_law_868, w_l_law_869, w_l_law_870, w_l_law_871, w_l_law_872, w_l_law_873, w_l_law_874, hl, eq_self, true_and, and_true, a1, a2, a3, c0, v1, v2, v3, k1, k2, k3, cl_0, cl_58, ok4_0, ok4_1, ok4_2, ok4_3, ok4_4, Kn_some]
      refine j_both (j_had hj) ?_
      intro r A' B' M1 hf hw
      simp only [w_l_law_877, w_l_law_878, w_l_law_879, w_l_law_880, w_l_law_881, w_l_law_882, w_l_law_883, hf 1000 (by decide), hf 1001 (by decide), hl, eq_self, true_and, and_true, a1, a2, a3, c0, v1, v2, v3, k1, k2, k3, cl_0, cl_58, ok4_0, ok4_1, ok4_2, ok4_3, ok4_4, Kn_some]
      refine hw.mono ?_
      rintro v s M2 ⟨⟨rfl, rfl, hj2⟩, hf2⟩
      simp only [Kn_some, w_l_law_886, if_true]
      exact go M2 _ _ hj2 hf2
    rw [if_neg q26]
    by_cases q27 : x = 27
    · rw [if_pos q27]
      simp only [w_l_law_891, w_l_law_892, hl, eq_self, true_and, and_true, a1, a2, a3, c0, v1, v2, v3, k1, k2, k3, cl_0, cl_58, ok4_0, ok4_1, ok4_2, ok4_3, ok4_4, Kn_some]
      refine j_both (j_watch hj) ?_
      intro r A' B' M1 hf hw
      simp only [w_l_law_895, w_l_law_896, hf 1000 (by decide), hf 1001 (by decide), hl, eq_self, true_and, and_true, a1, a2, a3, c0, v1, v2, v3, k1, k2, k3, cl_0, cl_58, ok4_0, ok4_1, ok4_2, ok4_3, ok4_4, Kn_some]
      refine hw.mono ?_
      rintro v s M2 ⟨⟨rfl, rfl, hj2⟩, hf2⟩
      simp only [Kn_some, w_l_law_899, if_true]
      exact go M2 _ _ hj2 hf2
    rw [if_neg q27]
    by_cases q28 : x = 28
    · rw [if_pos q28]
      simp only [w_l_law_904, w_l_law_905, w_l_law_906, w_l_law_907, w_l_law_908, w_l_law_909, w_l_law_910, w_l_law_911, w_l_law_912, w_l_law_913, w_l_law_914, w_l_law_915, hl, eq_self, true_and, and_true, a1, a2, a3, c0, v1, v2, v3, k1, k2, k3, cl_0, cl_58, ok4_0, ok4_1, ok4_2, ok4_3, ok4_4, Kn_some]
      refine j_both (j_write hj) ?_
      intro r A' B' M1 hf hw
      simp only [w_l_law_918, w_l_law_919, w_l_law_920, w_l_law_921, w_l_law_922, w_l_law_923, w_l_law_924, w_l_law_925, w_l_law_926, w_l_law_927, w_l_law_928, w_l_law_929, hf 1000 (by decide), hf 1001 (by decide), hl, eq_self, true_and, and_true, a1, a2, a3, c0, v1, v2, v3, k1, k2, k3, cl_0, cl_58, ok4_0, ok4_1, ok4_2, ok4_3, ok4_4, Kn_some]
      refine hw.mono ?_
      rintro v s M2 ⟨⟨rfl, rfl, hj2⟩, hf2⟩
      simp only [Kn_some, w_l_law_932, if_true]
      exact go M2 _ _ hj2 hf2
    rw [if_neg q28]
    by_cases q29 : x = 29
    · rw [if_pos q29]
      simp only [w_l_law_937, w_l_law_938, hl, eq_self, true_and, and_true, a1, a2, a3, c0, v1, v2, v3, k1, k2, k3, cl_0, cl_58, ok4_0, ok4_1, ok4_2, ok4_3, ok4_4, Kn_some]
      refine j_both (j_tear hj) ?_
      intro r A' B' M1 hf hw
      simp only [w_l_law_941, w_l_law_942, hf 1000 (by decide), hf 1001 (by decide), hl, eq_self, true_and, and_true, a1, a2, a3, c0, v1, v2, v3, k1, k2, k3, cl_0, cl_58, ok4_0, ok4_1, ok4_2, ok4_3, ok4_4, Kn_some]
      refine hw.mono ?_
      rintro v s M2 ⟨⟨rfl, rfl, hj2⟩, hf2⟩
      simp only [Kn_some, w_l_law_945, if_true]
      exact go M2 _ _ hj2 hf2
    rw [if_neg q29]
    by_cases q30 : x = 30
    · rw [if_pos q30]
      simp only [w_l_law_950, w_l_law_951, hl, eq_self, true_and, and_true, a1, a2, a3, c0, v1, v2, v3, k1, k2, k3, cl_0, cl_58, ok4_0, ok4_1, ok4_2, ok4_3, ok4_4, Kn_some]
      refine j_both (j_judge hj) ?_
      intro r A' B' M1 hf hw
      simp only [w_l_law_954, w_l_law_955, hf 1000 (by decide), hf 1001 (by decide), hl, eq_self, true_and, and_true, a1, a2, a3, c0, v1, v2, v3, k1, k2, k3, cl_0, cl_58, ok4_0, ok4_1, ok4_2, ok4_3, ok4_4, Kn_some]
      refine hw.mono ?_
      rintro v s M2 ⟨⟨rfl, rfl, hj2⟩, hf2⟩
      simp only [Kn_some, w_l_law_958, if_true]
      exact go M2 _ _ hj2 hf2
    rw [if_neg q30]
    by_cases q31 : x = 31
    · rw [if_pos q31]
      simp only [w_l_law_963, w_l_law_964, w_l_law_965, w_l_law_966, w_l_law_967, w_l_law_968, w_l_law_969, hl, eq_self, true_and, and_true, a1, a2, a3, c0, v1, v2, v3, k1, k2, k3, cl_0, cl_58, ok4_0, ok4_1, ok4_2, ok4_3, ok4_4, Kn_some]
      refine j_both (j_seed hj) ?_
      intro r A' B' M1 hf hw
      simp only [w_l_law_972, w_l_law_973, w_l_law_974, w_l_law_975, w_l_law_976, w_l_law_977, w_l_law_978, hf 1000 (by decide), hf 1001 (by decide), hl, eq_self, true_and, and_true, a1, a2, a3, c0, v1, v2, v3, k1, k2, k3, cl_0, cl_58, ok4_0, ok4_1, ok4_2, ok4_3, ok4_4, Kn_some]
      refine hw.mono ?_
      rintro v s M2 ⟨⟨rfl, rfl, hj2⟩, hf2⟩
      simp only [Kn_some, w_l_law_981, if_true]
      exact go M2 _ _ hj2 hf2
    rw [if_neg q31]
    by_cases q32 : x = 32
    · rw [if_pos q32]
      simp only [w_l_law_986, w_l_law_987, w_l_law_988, w_l_law_989, w_l_law_990, w_l_law_991, w_l_law_992, hl, eq_self, true_and, and_true, a1, a2, a3, c0, v1, v2, v3, k1, k2, k3, cl_0, cl_58, ok4_0, ok4_1, ok4_2, ok4_3, ok4_4, Kn_some]
      refine j_both (j_keep hj) ?_
      intro r A' B' M1 hf hw
      simp only [w_l_law_995, w_l_law_996, w_l_law_997, w_l_law_998, w_l_law_999, w_l_law_1000, w_l_law_1001, hf 1000 (by decide), hf 1001 (by decide), hl, eq_self, true_and, and_true, a1, a2, a3, c0, v1, v2, v3, k1, k2, k3, cl_0, cl_58, ok4_0, ok4_1, ok4_2, ok4_3, ok4_4, Kn_some]
      refine hw.mono ?_
      rintro v s M2 ⟨⟨rfl, rfl, hj2⟩, hf2⟩
      simp only [Kn_some, w_l_law_1004, if_true]
      exact go M2 _ _ hj2 hf2
    rw [if_neg q32]
    by_cases q33 : x = 33
    · rw [if_pos q33]
      simp only [w_l_law_1009, w_l_law_1010, w_l_law_1011, w_l_law_1012, w_l_law_1013, w_l_law_1014, w_l_law_1015, hl, eq_self, true_and, and_true, a1, a2, a3, c0, v1, v2, v3, k1, k2, k3, cl_0, cl_58, ok4_0, ok4_1, ok4_2, ok4_3, ok4_4, Kn_some]
      refine j_both (j_goBack hj) ?_
      intro r A' B' M1 hf hw
      simp only [w_l_law_1018, w_l_law_1019, w_l_law_1020, w_l_law_1021, w_l_law_1022, w_l_law_1023, w_l_law_1024, hf 1000 (by decide), hf 1001 (by decide), hl, eq_self, true_and, and_true, a1, a2, a3, c0, v1, v2, v3, k1, k2, k3, cl_0, cl_58, ok4_0, ok4_1, ok4_2, ok4_3, ok4_4, Kn_some]
      refine hw.mono ?_
      rintro v s M2 ⟨⟨rfl, rfl, hj2⟩, hf2⟩
      simp only [Kn_some, w_l_law_1027, if_true]
      exact go M2 _ _ hj2 hf2
    rw [if_neg q33]
    exact go M A B hj (fun _ _ => rfl)
theorem law_wp (L : Nat) (M : Mm) (hL : L ≤ 256) (hM : M 1001 0 = nI L) : WP 0 0 [.ref 1000, mk, mk, mk] [] [] (0, 0) M (fun v _ _ => v = some (.int 1)) := by
  refine k_law ?_
  exact law_loop hL 65 0 (by omega) (by omega) (mm_law M) 38 48 (j_start M) (by rw [start_far M (Or.inr rfl)]; exact hM)
