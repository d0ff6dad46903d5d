/-! the shapes of all cells, party A, draft B: printed by program -/
def shw (A B : Nat) : List Sh := [.inr (10, [.ref 1, .ref 3, .ref 5, .ref 7, .ref 12, .ref 15, .ref 21, .ref 29, .ref A, .ref B, .int 0]),
  .inr (5, [.ref 2, .int 0, .int 0, .int 0, .int 0, .int 0]),
  .inl (0, 240),
  .inr (1, [.ref 4]),
  .inl (0, 7),
  .inr (9, [.ref 6]),
  .inl (0, 16),
  .inr (4, [.ref 8, .ref 9, .ref 10, .ref 11, .int 0]),
  .inl (0, 20),
  .inl (0, 2),
  .inl (0, 2),
  .inl (1, 2),
  .inr (2, [.int 0, .int 0, .int 0, .ref 13, .ref 14, .int 0]),
  .inl (0, 15),
  .inl (0, 15),
  .inr (7, [.ref 16, .ref 18, .ref 20, .int 0]),
  .inr (1, [.ref 17]),
  .inl (0, 7),
  .inr (9, [.ref 19]),
  .inl (0, 16),
  .inl (0, 4),
  .inr (6, [.ref 22, .ref 27, .int 0, .int 0]),
  .inr (8, [.ref 23, .ref 25]),
  .inr (1, [.ref 24]),
  .inl (0, 7),
  .inr (9, [.ref 26]),
  .inl (0, 16),
  .inr (1, [.ref 28]),
  .inl (0, 7),
  .inr (0, [.ref 30, .ref 35, .ref 37, .int 0, .int 0]),
  .inr (8, [.ref 31, .ref 33]),
  .inr (1, [.ref 32]),
  .inl (0, 7),
  .inr (9, [.ref 34]),
  .inl (0, 16),
  .inr (1, [.ref 36]),
  .inl (0, 7),
  .inl (0, 16),
  .inr (3, [.int 0, .int 0, .int 0, .int 0, .ref 39, .ref 40, .ref 41, .ref 42, .ref 43, .ref 44, .ref 45, .ref 46, .ref 47]),
  .inl (0, 5),
  .inl (0, 5),
  .inl (0, 4),
  .inl (0, 4),
  .inl (0, 20),
  .inl (0, 20),
  .inl (0, 12),
  .inl (0, 12),
  .inl (0, 7),
  .inr (3, [.int 0, .int 0, .int 0, .int 0, .ref 49, .ref 50, .ref 51, .ref 52, .ref 53, .ref 54, .ref 55, .ref 56, .ref 57]),
  .inl (0, 5),
  .inl (0, 5),
  .inl (0, 4),
  .inl (0, 4),
  .inl (0, 20),
  .inl (0, 20),
  .inl (0, 12),
  .inl (0, 12),
  .inl (0, 7),
  .inr (11, [.int 0, .ref 59, .ref 60, .int 0, .ref 61, .ref 62, .ref 63, .int 0, .ref 64, .ref 65, .int 0, .ref 66, .int 0, .int 0, .int 0, .int 0, .int 0, .int 0, .ref 67, .ref 68, .int 0, .ref 69, .ref 70, .ref 71, .int 0, .ref 72, .int 0, .ref 73, .ref 74, .ref 75, .int 0, .ref 76, .ref 77, .ref 78, .int 0, .ref 79, .ref 80, .int 0, .ref 81, .ref 82, .ref 83, .ref 84]),
  .inl (0, 5),
  .inl (0, 5),
  .inl (0, 4),
  .inl (0, 20),
  .inl (0, 4),
  .inl (0, 7),
  .inl (0, 7),
  .inl (0, 240),
  .inl (0, 5),
  .inl (0, 5),
  .inl (0, 4),
  .inl (0, 20),
  .inl (0, 4),
  .inl (0, 7),
  .inl (0, 140),
  .inl (0, 7),
  .inl (0, 4),
  .inl (0, 6),
  .inl (0, 6),
  .inl (1, 6),
  .inl (0, 7),
  .inl (0, 16),
  .inl (0, 15),
  .inl (0, 15),
  .inl (0, 16),
  .inl (1, 2)]
theorem shw_swap (A B q : Nat) : stf (shw A B) 0 8 (.ref q) = shw q B := rfl
theorem shw_swap2 (A B q : Nat) : stf (shw A B) 0 9 (.ref q) = shw A q := rfl
theorem xc_0 {A B : Nat} : gf (shw A B) 0 10 0 = some (.ref 1) := rfl
theorem xc_1 {A B : Nat} : gf (shw A B) 0 10 1 = some (.ref 3) := rfl
theorem xc_2 {A B : Nat} : gf (shw A B) 0 10 2 = some (.ref 5) := rfl
theorem xc_3 {A B : Nat} : gf (shw A B) 0 10 3 = some (.ref 7) := rfl
theorem xc_4 {A B : Nat} : gf (shw A B) 0 10 4 = some (.ref 12) := rfl
theorem xc_5 {A B : Nat} : gf (shw A B) 0 10 5 = some (.ref 15) := rfl
theorem xc_6 {A B : Nat} : gf (shw A B) 0 10 6 = some (.ref 21) := rfl
theorem xc_7 {A B : Nat} : gf (shw A B) 0 10 7 = some (.ref 29) := rfl
theorem xc_8 {A B : Nat} : gf (shw A B) 0 10 8 = some (.ref A) := rfl
theorem xc_9 {A B : Nat} : gf (shw A B) 0 10 9 = some (.ref B) := rfl
theorem xc_10 {A B : Nat} : gf (shw A B) 0 10 10 = some (.int 0) := rfl
theorem cl_0 {A B : Nat} : isC (shw A B) 0 10 := rfl
theorem xr_0 {A B : Nat} : gf (shw A B) 1 5 0 = some (.ref 2) := rfl
theorem xr_1 {A B : Nat} : gf (shw A B) 1 5 1 = some (.int 0) := rfl
theorem xr_2 {A B : Nat} : gf (shw A B) 1 5 2 = some (.int 0) := rfl
theorem xr_3 {A B : Nat} : gf (shw A B) 1 5 3 = some (.int 0) := rfl
theorem xr_4 {A B : Nat} : gf (shw A B) 1 5 4 = some (.int 0) := rfl
theorem xr_5 {A B : Nat} : gf (shw A B) 1 5 5 = some (.int 0) := rfl
theorem cl_1 {A B : Nat} : isC (shw A B) 1 5 := rfl
theorem al_2 {A B : Nat} : aln (shw A B) 2 = some (0, 240) := rfl
theorem cl_3 {A B : Nat} : isC (shw A B) 3 1 := rfl
theorem al_4 {A B : Nat} : aln (shw A B) 4 = some (0, 7) := rfl
theorem cl_5 {A B : Nat} : isC (shw A B) 5 9 := rfl
theorem al_6 {A B : Nat} : aln (shw A B) 6 = some (0, 16) := rfl
theorem xz_0 {A B : Nat} : gf (shw A B) 7 4 0 = some (.ref 8) := rfl
theorem xz_1 {A B : Nat} : gf (shw A B) 7 4 1 = some (.ref 9) := rfl
theorem xz_2 {A B : Nat} : gf (shw A B) 7 4 2 = some (.ref 10) := rfl
theorem xz_3 {A B : Nat} : gf (shw A B) 7 4 3 = some (.ref 11) := rfl
theorem xz_4 {A B : Nat} : gf (shw A B) 7 4 4 = some (.int 0) := rfl
theorem cl_7 {A B : Nat} : isC (shw A B) 7 4 := rfl
theorem al_8 {A B : Nat} : aln (shw A B) 8 = some (0, 20) := rfl
theorem al_9 {A B : Nat} : aln (shw A B) 9 = some (0, 2) := rfl
theorem al_10 {A B : Nat} : aln (shw A B) 10 = some (0, 2) := rfl
theorem al_11 {A B : Nat} : aln (shw A B) 11 = some (1, 2) := rfl
theorem xn_0 {A B : Nat} : gf (shw A B) 12 2 0 = some (.int 0) := rfl
theorem xn_1 {A B : Nat} : gf (shw A B) 12 2 1 = some (.int 0) := rfl
theorem xn_2 {A B : Nat} : gf (shw A B) 12 2 2 = some (.int 0) := rfl
theorem xn_3 {A B : Nat} : gf (shw A B) 12 2 3 = some (.ref 13) := rfl
theorem xn_4 {A B : Nat} : gf (shw A B) 12 2 4 = some (.ref 14) := rfl
theorem xn_5 {A B : Nat} : gf (shw A B) 12 2 5 = some (.int 0) := rfl
theorem cl_12 {A B : Nat} : isC (shw A B) 12 2 := rfl
theorem al_13 {A B : Nat} : aln (shw A B) 13 = some (0, 15) := rfl
theorem al_14 {A B : Nat} : aln (shw A B) 14 = some (0, 15) := rfl
theorem xt_0 {A B : Nat} : gf (shw A B) 15 7 0 = some (.ref 16) := rfl
theorem xt_1 {A B : Nat} : gf (shw A B) 15 7 1 = some (.ref 18) := rfl
theorem xt_2 {A B : Nat} : gf (shw A B) 15 7 2 = some (.ref 20) := rfl
theorem xt_3 {A B : Nat} : gf (shw A B) 15 7 3 = some (.int 0) := rfl
theorem cl_15 {A B : Nat} : isC (shw A B) 15 7 := rfl
theorem cl_16 {A B : Nat} : isC (shw A B) 16 1 := rfl
theorem al_17 {A B : Nat} : aln (shw A B) 17 = some (0, 7) := rfl
theorem cl_18 {A B : Nat} : isC (shw A B) 18 9 := rfl
theorem al_19 {A B : Nat} : aln (shw A B) 19 = some (0, 16) := rfl
theorem al_20 {A B : Nat} : aln (shw A B) 20 = some (0, 4) := rfl
theorem xs_0 {A B : Nat} : gf (shw A B) 21 6 0 = some (.ref 22) := rfl
theorem xs_1 {A B : Nat} : gf (shw A B) 21 6 1 = some (.ref 27) := rfl
theorem xs_2 {A B : Nat} : gf (shw A B) 21 6 2 = some (.int 0) := rfl
theorem xs_3 {A B : Nat} : gf (shw A B) 21 6 3 = some (.int 0) := rfl
theorem cl_21 {A B : Nat} : isC (shw A B) 21 6 := rfl
theorem cl_22 {A B : Nat} : isC (shw A B) 22 8 := rfl
theorem cl_23 {A B : Nat} : isC (shw A B) 23 1 := rfl
theorem al_24 {A B : Nat} : aln (shw A B) 24 = some (0, 7) := rfl
theorem cl_25 {A B : Nat} : isC (shw A B) 25 9 := rfl
theorem al_26 {A B : Nat} : aln (shw A B) 26 = some (0, 16) := rfl
theorem cl_27 {A B : Nat} : isC (shw A B) 27 1 := rfl
theorem al_28 {A B : Nat} : aln (shw A B) 28 = some (0, 7) := rfl
theorem xg_0 {A B : Nat} : gf (shw A B) 29 0 0 = some (.ref 30) := rfl
theorem xg_1 {A B : Nat} : gf (shw A B) 29 0 1 = some (.ref 35) := rfl
theorem xg_2 {A B : Nat} : gf (shw A B) 29 0 2 = some (.ref 37) := rfl
theorem xg_3 {A B : Nat} : gf (shw A B) 29 0 3 = some (.int 0) := rfl
theorem xg_4 {A B : Nat} : gf (shw A B) 29 0 4 = some (.int 0) := rfl
theorem cl_29 {A B : Nat} : isC (shw A B) 29 0 := rfl
theorem cl_30 {A B : Nat} : isC (shw A B) 30 8 := rfl
theorem cl_31 {A B : Nat} : isC (shw A B) 31 1 := rfl
theorem al_32 {A B : Nat} : aln (shw A B) 32 = some (0, 7) := rfl
theorem cl_33 {A B : Nat} : isC (shw A B) 33 9 := rfl
theorem al_34 {A B : Nat} : aln (shw A B) 34 = some (0, 16) := rfl
theorem cl_35 {A B : Nat} : isC (shw A B) 35 1 := rfl
theorem al_36 {A B : Nat} : aln (shw A B) 36 = some (0, 7) := rfl
theorem al_37 {A B : Nat} : aln (shw A B) 37 = some (0, 16) := rfl
theorem cl_38 {A B : Nat} : isC (shw A B) 38 3 := rfl
theorem al_39 {A B : Nat} : aln (shw A B) 39 = some (0, 5) := rfl
theorem al_40 {A B : Nat} : aln (shw A B) 40 = some (0, 5) := rfl
theorem al_41 {A B : Nat} : aln (shw A B) 41 = some (0, 4) := rfl
theorem al_42 {A B : Nat} : aln (shw A B) 42 = some (0, 4) := rfl
theorem al_43 {A B : Nat} : aln (shw A B) 43 = some (0, 20) := rfl
theorem al_44 {A B : Nat} : aln (shw A B) 44 = some (0, 20) := rfl
theorem al_45 {A B : Nat} : aln (shw A B) 45 = some (0, 12) := rfl
theorem al_46 {A B : Nat} : aln (shw A B) 46 = some (0, 12) := rfl
theorem al_47 {A B : Nat} : aln (shw A B) 47 = some (0, 7) := rfl
theorem cl_48 {A B : Nat} : isC (shw A B) 48 3 := rfl
theorem al_49 {A B : Nat} : aln (shw A B) 49 = some (0, 5) := rfl
theorem al_50 {A B : Nat} : aln (shw A B) 50 = some (0, 5) := rfl
theorem al_51 {A B : Nat} : aln (shw A B) 51 = some (0, 4) := rfl
theorem al_52 {A B : Nat} : aln (shw A B) 52 = some (0, 4) := rfl
theorem al_53 {A B : Nat} : aln (shw A B) 53 = some (0, 20) := rfl
theorem al_54 {A B : Nat} : aln (shw A B) 54 = some (0, 20) := rfl
theorem al_55 {A B : Nat} : aln (shw A B) 55 = some (0, 12) := rfl
theorem al_56 {A B : Nat} : aln (shw A B) 56 = some (0, 12) := rfl
theorem al_57 {A B : Nat} : aln (shw A B) 57 = some (0, 7) := rfl
theorem xm_0 {A B : Nat} : gf (shw A B) 58 11 0 = some (.int 0) := rfl
theorem xm_1 {A B : Nat} : gf (shw A B) 58 11 1 = some (.ref 59) := rfl
theorem xm_2 {A B : Nat} : gf (shw A B) 58 11 2 = some (.ref 60) := rfl
theorem xm_3 {A B : Nat} : gf (shw A B) 58 11 3 = some (.int 0) := rfl
theorem xm_4 {A B : Nat} : gf (shw A B) 58 11 4 = some (.ref 61) := rfl
theorem xm_5 {A B : Nat} : gf (shw A B) 58 11 5 = some (.ref 62) := rfl
theorem xm_6 {A B : Nat} : gf (shw A B) 58 11 6 = some (.ref 63) := rfl
theorem xm_7 {A B : Nat} : gf (shw A B) 58 11 7 = some (.int 0) := rfl
theorem xm_8 {A B : Nat} : gf (shw A B) 58 11 8 = some (.ref 64) := rfl
theorem xm_9 {A B : Nat} : gf (shw A B) 58 11 9 = some (.ref 65) := rfl
theorem xm_10 {A B : Nat} : gf (shw A B) 58 11 10 = some (.int 0) := rfl
theorem xm_11 {A B : Nat} : gf (shw A B) 58 11 11 = some (.ref 66) := rfl
theorem xm_12 {A B : Nat} : gf (shw A B) 58 11 12 = some (.int 0) := rfl
theorem xm_13 {A B : Nat} : gf (shw A B) 58 11 13 = some (.int 0) := rfl
theorem xm_14 {A B : Nat} : gf (shw A B) 58 11 14 = some (.int 0) := rfl
theorem xm_15 {A B : Nat} : gf (shw A B) 58 11 15 = some (.int 0) := rfl
theorem xm_16 {A B : Nat} : gf (shw A B) 58 11 16 = some (.int 0) := rfl
theorem xm_17 {A B : Nat} : gf (shw A B) 58 11 17 = some (.int 0) := rfl
theorem xm_18 {A B : Nat} : gf (shw A B) 58 11 18 = some (.ref 67) := rfl
theorem xm_19 {A B : Nat} : gf (shw A B) 58 11 19 = some (.ref 68) := rfl
theorem xm_20 {A B : Nat} : gf (shw A B) 58 11 20 = some (.int 0) := rfl
theorem xm_21 {A B : Nat} : gf (shw A B) 58 11 21 = some (.ref 69) := rfl
theorem xm_22 {A B : Nat} : gf (shw A B) 58 11 22 = some (.ref 70) := rfl
theorem xm_23 {A B : Nat} : gf (shw A B) 58 11 23 = some (.ref 71) := rfl
theorem xm_24 {A B : Nat} : gf (shw A B) 58 11 24 = some (.int 0) := rfl
theorem xm_25 {A B : Nat} : gf (shw A B) 58 11 25 = some (.ref 72) := rfl
theorem xm_26 {A B : Nat} : gf (shw A B) 58 11 26 = some (.int 0) := rfl
theorem xm_27 {A B : Nat} : gf (shw A B) 58 11 27 = some (.ref 73) := rfl
theorem xm_28 {A B : Nat} : gf (shw A B) 58 11 28 = some (.ref 74) := rfl
theorem xm_29 {A B : Nat} : gf (shw A B) 58 11 29 = some (.ref 75) := rfl
theorem xm_30 {A B : Nat} : gf (shw A B) 58 11 30 = some (.int 0) := rfl
theorem xm_31 {A B : Nat} : gf (shw A B) 58 11 31 = some (.ref 76) := rfl
theorem xm_32 {A B : Nat} : gf (shw A B) 58 11 32 = some (.ref 77) := rfl
theorem xm_33 {A B : Nat} : gf (shw A B) 58 11 33 = some (.ref 78) := rfl
theorem xm_34 {A B : Nat} : gf (shw A B) 58 11 34 = some (.int 0) := rfl
theorem xm_35 {A B : Nat} : gf (shw A B) 58 11 35 = some (.ref 79) := rfl
theorem xm_36 {A B : Nat} : gf (shw A B) 58 11 36 = some (.ref 80) := rfl
theorem xm_37 {A B : Nat} : gf (shw A B) 58 11 37 = some (.int 0) := rfl
theorem xm_38 {A B : Nat} : gf (shw A B) 58 11 38 = some (.ref 81) := rfl
theorem xm_39 {A B : Nat} : gf (shw A B) 58 11 39 = some (.ref 82) := rfl
theorem xm_40 {A B : Nat} : gf (shw A B) 58 11 40 = some (.ref 83) := rfl
theorem xm_41 {A B : Nat} : gf (shw A B) 58 11 41 = some (.ref 84) := rfl
theorem cl_58 {A B : Nat} : isC (shw A B) 58 11 := rfl
theorem al_59 {A B : Nat} : aln (shw A B) 59 = some (0, 5) := rfl
theorem al_60 {A B : Nat} : aln (shw A B) 60 = some (0, 5) := rfl
theorem al_61 {A B : Nat} : aln (shw A B) 61 = some (0, 4) := rfl
theorem al_62 {A B : Nat} : aln (shw A B) 62 = some (0, 20) := rfl
theorem al_63 {A B : Nat} : aln (shw A B) 63 = some (0, 4) := rfl
theorem al_64 {A B : Nat} : aln (shw A B) 64 = some (0, 7) := rfl
theorem al_65 {A B : Nat} : aln (shw A B) 65 = some (0, 7) := rfl
theorem al_66 {A B : Nat} : aln (shw A B) 66 = some (0, 240) := rfl
theorem al_67 {A B : Nat} : aln (shw A B) 67 = some (0, 5) := rfl
theorem al_68 {A B : Nat} : aln (shw A B) 68 = some (0, 5) := rfl
theorem al_69 {A B : Nat} : aln (shw A B) 69 = some (0, 4) := rfl
theorem al_70 {A B : Nat} : aln (shw A B) 70 = some (0, 20) := rfl
theorem al_71 {A B : Nat} : aln (shw A B) 71 = some (0, 4) := rfl
theorem al_72 {A B : Nat} : aln (shw A B) 72 = some (0, 7) := rfl
theorem al_73 {A B : Nat} : aln (shw A B) 73 = some (0, 140) := rfl
theorem al_74 {A B : Nat} : aln (shw A B) 74 = some (0, 7) := rfl
theorem al_75 {A B : Nat} : aln (shw A B) 75 = some (0, 4) := rfl
theorem al_76 {A B : Nat} : aln (shw A B) 76 = some (0, 6) := rfl
theorem al_77 {A B : Nat} : aln (shw A B) 77 = some (0, 6) := rfl
theorem al_78 {A B : Nat} : aln (shw A B) 78 = some (1, 6) := rfl
theorem al_79 {A B : Nat} : aln (shw A B) 79 = some (0, 7) := rfl
theorem al_80 {A B : Nat} : aln (shw A B) 80 = some (0, 16) := rfl
theorem al_81 {A B : Nat} : aln (shw A B) 81 = some (0, 15) := rfl
theorem al_82 {A B : Nat} : aln (shw A B) 82 = some (0, 15) := rfl
theorem al_83 {A B : Nat} : aln (shw A B) 83 = some (0, 16) := rfl
theorem al_84 {A B : Nat} : aln (shw A B) 84 = some (1, 2) := rfl
def isHH (o : Nat) : Prop := o = 3 ∨ o = 16 ∨ o = 23 ∨ o = 27 ∨ o = 31 ∨ o = 35
theorem xhh_0 {A B o : Nat} (h : isHH o) : gf (shw A B) o 1 0 = some (.ref (o + 1)) := by rcases h with rfl | rfl | rfl | rfl | rfl | rfl <;> rfl
theorem yhh_1 {A B o : Nat} (h : isHH o) : aln (shw A B) (o + 1) = some (0, 7) := by rcases h with rfl | rfl | rfl | rfl | rfl | rfl <;> rfl
theorem zhh {A B o : Nat} (h : isHH o) : isC (shw A B) o 1 := by rcases h with rfl | rfl | rfl | rfl | rfl | rfl <;> rfl
theorem isHH_3 : isHH 3 := by simp [isHH]
theorem isHH_16 : isHH 16 := by simp [isHH]
theorem isHH_23 : isHH 23 := by simp [isHH]
theorem isHH_27 : isHH 27 := by simp [isHH]
theorem isHH_31 : isHH 31 := by simp [isHH]
theorem isHH_35 : isHH 35 := by simp [isHH]
def isVV (o : Nat) : Prop := o = 5 ∨ o = 18 ∨ o = 25 ∨ o = 33
theorem xvv_0 {A B o : Nat} (h : isVV o) : gf (shw A B) o 9 0 = some (.ref (o + 1)) := by rcases h with rfl | rfl | rfl | rfl <;> rfl
theorem yvv_1 {A B o : Nat} (h : isVV o) : aln (shw A B) (o + 1) = some (0, 16) := by rcases h with rfl | rfl | rfl | rfl <;> rfl
theorem zvv {A B o : Nat} (h : isVV o) : isC (shw A B) o 9 := by rcases h with rfl | rfl | rfl | rfl <;> rfl
theorem isVV_5 : isVV 5 := by simp [isVV]
theorem isVV_18 : isVV 18 := by simp [isVV]
theorem isVV_25 : isVV 25 := by simp [isVV]
theorem isVV_33 : isVV 33 := by simp [isVV]
def isWW (o : Nat) : Prop := o = 22 ∨ o = 30
theorem xww_0 {A B o : Nat} (h : isWW o) : gf (shw A B) o 8 0 = some (.ref (o + 1)) := by rcases h with rfl | rfl <;> rfl
theorem xww_1 {A B o : Nat} (h : isWW o) : gf (shw A B) o 8 1 = some (.ref (o + 3)) := by rcases h with rfl | rfl <;> rfl
theorem zww {A B o : Nat} (h : isWW o) : isC (shw A B) o 8 := by rcases h with rfl | rfl <;> rfl
theorem sww_1 {o : Nat} (h : isWW o) : isHH (o + 1) := by rcases h with rfl | rfl <;> simp [isHH]
theorem sww_3 {o : Nat} (h : isWW o) : isVV (o + 3) := by rcases h with rfl | rfl <;> simp [isVV]
theorem isWW_22 : isWW 22 := by simp [isWW]
theorem isWW_30 : isWW 30 := by simp [isWW]
def isPP (o : Nat) : Prop := o = 38 ∨ o = 48
theorem xpp_0 {A B o : Nat} (h : isPP o) : gf (shw A B) o 3 0 = some (.int 0) := by rcases h with rfl | rfl <;> rfl
theorem xpp_1 {A B o : Nat} (h : isPP o) : gf (shw A B) o 3 1 = some (.int 0) := by rcases h with rfl | rfl <;> rfl
theorem xpp_2 {A B o : Nat} (h : isPP o) : gf (shw A B) o 3 2 = some (.int 0) := by rcases h with rfl | rfl <;> rfl
theorem xpp_3 {A B o : Nat} (h : isPP o) : gf (shw A B) o 3 3 = some (.int 0) := by rcases h with rfl | rfl <;> rfl
theorem xpp_4 {A B o : Nat} (h : isPP o) : gf (shw A B) o 3 4 = some (.ref (o + 1)) := by rcases h with rfl | rfl <;> rfl
theorem xpp_5 {A B o : Nat} (h : isPP o) : gf (shw A B) o 3 5 = some (.ref (o + 2)) := by rcases h with rfl | rfl <;> rfl
theorem xpp_6 {A B o : Nat} (h : isPP o) : gf (shw A B) o 3 6 = some (.ref (o + 3)) := by rcases h with rfl | rfl <;> rfl
theorem xpp_7 {A B o : Nat} (h : isPP o) : gf (shw A B) o 3 7 = some (.ref (o + 4)) := by rcases h with rfl | rfl <;> rfl
theorem xpp_8 {A B o : Nat} (h : isPP o) : gf (shw A B) o 3 8 = some (.ref (o + 5)) := by rcases h with rfl | rfl <;> rfl
theorem xpp_9 {A B o : Nat} (h : isPP o) : gf (shw A B) o 3 9 = some (.ref (o + 6)) := by rcases h with rfl | rfl <;> rfl
theorem xpp_10 {A B o : Nat} (h : isPP o) : gf (shw A B) o 3 10 = some (.ref (o + 7)) := by rcases h with rfl | rfl <;> rfl
theorem xpp_11 {A B o : Nat} (h : isPP o) : gf (shw A B) o 3 11 = some (.ref (o + 8)) := by rcases h with rfl | rfl <;> rfl
theorem xpp_12 {A B o : Nat} (h : isPP o) : gf (shw A B) o 3 12 = some (.ref (o + 9)) := by rcases h with rfl | rfl <;> rfl
theorem ypp_1 {A B o : Nat} (h : isPP o) : aln (shw A B) (o + 1) = some (0, 5) := by rcases h with rfl | rfl <;> rfl
theorem ypp_2 {A B o : Nat} (h : isPP o) : aln (shw A B) (o + 2) = some (0, 5) := by rcases h with rfl | rfl <;> rfl
theorem ypp_3 {A B o : Nat} (h : isPP o) : aln (shw A B) (o + 3) = some (0, 4) := by rcases h with rfl | rfl <;> rfl
theorem ypp_4 {A B o : Nat} (h : isPP o) : aln (shw A B) (o + 4) = some (0, 4) := by rcases h with rfl | rfl <;> rfl
theorem ypp_5 {A B o : Nat} (h : isPP o) : aln (shw A B) (o + 5) = some (0, 20) := by rcases h with rfl | rfl <;> rfl
theorem ypp_6 {A B o : Nat} (h : isPP o) : aln (shw A B) (o + 6) = some (0, 20) := by rcases h with rfl | rfl <;> rfl
theorem ypp_7 {A B o : Nat} (h : isPP o) : aln (shw A B) (o + 7) = some (0, 12) := by rcases h with rfl | rfl <;> rfl
theorem ypp_8 {A B o : Nat} (h : isPP o) : aln (shw A B) (o + 8) = some (0, 12) := by rcases h with rfl | rfl <;> rfl
theorem ypp_9 {A B o : Nat} (h : isPP o) : aln (shw A B) (o + 9) = some (0, 7) := by rcases h with rfl | rfl <;> rfl
theorem zpp {A B o : Nat} (h : isPP o) : isC (shw A B) o 3 := by rcases h with rfl | rfl <;> rfl
theorem isPP_38 : isPP 38 := by simp [isPP]
theorem isPP_48 : isPP 48 := by simp [isPP]
