/-! ===== the class and the model, made ===== -/
def rs7_0 : List (Nat × Nat × Nat) := []
def rs7_1 : List (Nat × Nat × Nat) := (0, 0, 1) :: (1, 17, 12) :: (1, 16, 11) :: (1, 14, 10) :: (1, 12, 9) :: (1, 10, 8) :: (1, 9, 7) :: (1, 8, 6) :: (1, 5, 5) :: (1, 4, 4) :: (1, 3, 3) :: (1, 2, 2) :: rs7_0
theorem l_x7_0 {d : Nat} {g h : qH} (f0 : FR g 1 rs7_0 [] h) : ∃ h', (∀ Q, WP (d + 1) mX7_init (0, 0) 4 [some (.ref (0 : Nat))] [] h Q = WP (d + 1) mX7_init (12, 83) 15 [some (.ref (0 : Nat))] [] h' Q) ∧ FR g 13 rs7_1 [] h' := by
  have e := f0.1
  have f1 := FR_N f0
  obtain ⟨h1, e1, f2⟩ := i_X4_1 (d := d) f1
  have f3 := FR_R (i := 0) (v := 1) f2 (a := 0) (by decide)
  refine ⟨_, fun Q => ?_, f3⟩
  simp (implicitDefEqProofs := false) only [rX7_init_4, rX7_init_4b, rX7_init_5, rX7_init_8, rX7_init_8b, rX7_init_9, rX7_init_12, e, kA_0, kB_0, kA_1, kB_1, show nFT 4 = 18 from rfl, e1, pCX7_init, pSX7_init, pOX7_init, pLX7_init, pCX4_init, pSX4_init, pOX4_init, pLX4_init, kl_I, kl_J, kl_R, kl_T, kl_N, Nat.le_refl, Nat.zero_le, List.map_nil, List.map_cons, List.sum_nil, List.sum_cons, c_I, c_J, c_R, c_T, va_rf, hI_wI, hJ_wJ, hR_wR, hI_J, hI_R, hJ_I, hJ_R, hR_I, hR_J, hN_I, hN_J, hN_R, wI_I, wJ_J, upd_at, updL_at, kR_s, Option.toList, List.append_nil, List.nil_append, List.cons_append, if_true, if_false, reduceIte, Bool.false_eq_true, not_true_eq_false, not_false_eq_true, true_and, and_true, false_and, and_false, true_or, or_true,  Nat.reduceEqDiff, Nat.reduceAdd, Nat.reduceLeDiff]
def rs7_2 : List (Nat × Nat × Nat) := (0, 1, 13) :: (13, 17, 24) :: (13, 16, 23) :: (13, 14, 22) :: (13, 12, 21) :: (13, 10, 20) :: (13, 9, 19) :: (13, 8, 18) :: (13, 5, 17) :: (13, 4, 16) :: (13, 3, 15) :: (13, 2, 14) :: rs7_1
theorem l_x7_1 {d : Nat} {g h : qH} (f0 : FR g 13 rs7_1 [] h) : ∃ h', (∀ Q, WP (d + 1) mX7_init (12, 83) 15 [some (.ref (0 : Nat))] [] h Q = WP (d + 1) mX7_init (24, 166) 26 [some (.ref (0 : Nat))] [] h' Q) ∧ FR g 25 rs7_2 [] h' := by
  have e := f0.1
  have f1 := FR_N f0
  obtain ⟨h1, e1, f2⟩ := i_X4_13 (d := d) f1
  have f3 := FR_R (i := 1) (v := 13) f2 (a := 0) (by decide)
  refine ⟨_, fun Q => ?_, f3⟩
  simp (implicitDefEqProofs := false) only [rX7_init_15, rX7_init_15b, rX7_init_16, rX7_init_19, rX7_init_19b, rX7_init_20, rX7_init_23, e, kA_0, kB_0, kA_13, kB_13, show nFT 4 = 18 from rfl, e1, pCX7_init, pSX7_init, pOX7_init, pLX7_init, pCX4_init, pSX4_init, pOX4_init, pLX4_init, kl_I, kl_J, kl_R, kl_T, kl_N, Nat.le_refl, Nat.zero_le, List.map_nil, List.map_cons, List.sum_nil, List.sum_cons, c_I, c_J, c_R, c_T, va_rf, hI_wI, hJ_wJ, hR_wR, hI_J, hI_R, hJ_I, hJ_R, hR_I, hR_J, hN_I, hN_J, hN_R, wI_I, wJ_J, upd_at, updL_at, kR_s, Option.toList, List.append_nil, List.nil_append, List.cons_append, if_true, if_false, reduceIte, Bool.false_eq_true, not_true_eq_false, not_false_eq_true, true_and, and_true, false_and, and_false, true_or, or_true,  Nat.reduceEqDiff, Nat.reduceAdd, Nat.reduceLeDiff]
def rs7_3 : List (Nat × Nat × Nat) := (0, 2, 25) :: (25, 0, 26) :: rs7_2
theorem l_x7_2 {d : Nat} {g h : qH} (f0 : FR g 25 rs7_2 [] h) : ∃ h', (∀ Q, WP (d + 1) mX7_init (24, 166) 26 [some (.ref (0 : Nat))] [] h Q = WP (d + 1) mX7_init (26, 1068) 37 [some (.ref (0 : Nat))] [] h' Q) ∧ FR g 27 rs7_3 [] h' := by
  have e := f0.1
  have f1 := FR_N f0
  obtain ⟨h1, e1, f2⟩ := i_X5_25 (d := d) f1
  have f3 := FR_R (i := 2) (v := 25) f2 (a := 0) (by decide)
  refine ⟨_, fun Q => ?_, f3⟩
  simp (implicitDefEqProofs := false) only [rX7_init_26, rX7_init_26b, rX7_init_27, rX7_init_30, rX7_init_30b, rX7_init_31, rX7_init_34, e, kA_0, kB_0, kA_25, kB_25, show nFT 5 = 2 from rfl, e1, pCX7_init, pSX7_init, pOX7_init, pLX7_init, pCX5_init, pSX5_init, pOX5_init, pLX5_init, kl_I, kl_J, kl_R, kl_T, kl_N, Nat.le_refl, Nat.zero_le, List.map_nil, List.map_cons, List.sum_nil, List.sum_cons, c_I, c_J, c_R, c_T, va_rf, hI_wI, hJ_wJ, hR_wR, hI_J, hI_R, hJ_I, hJ_R, hR_I, hR_J, hN_I, hN_J, hN_R, wI_I, wJ_J, upd_at, updL_at, kR_s, Option.toList, List.append_nil, List.nil_append, List.cons_append, if_true, if_false, reduceIte, Bool.false_eq_true, not_true_eq_false, not_false_eq_true, true_and, and_true, false_and, and_false, true_or, or_true,  Nat.reduceEqDiff, Nat.reduceAdd, Nat.reduceLeDiff]
def rs7_4 : List (Nat × Nat × Nat) := (0, 3, 27) :: (27, 2, 13) :: (27, 0, 25) :: (27, 1, 28) :: rs7_3
theorem l_x7_3 {d : Nat} {g h : qH} (f0 : FR g 27 rs7_3 [] h) : ∃ h', (∀ Q, WP (d + 1) mX7_init (26, 1068) 37 [some (.ref (0 : Nat))] [] h Q = WP (d + 1) mX7_init (28, 1085) 56 [some (.ref (0 : Nat))] [] h' Q) ∧ FR g 29 rs7_4 [] h' := by
  have e := f0.1
  have f1 := FR_N f0
  obtain ⟨h1, e1, f2⟩ := i_X2_27 (d := d) f1
  have f3 := FR_R (i := 3) (v := 27) f2 (a := 0) (by decide)
  refine ⟨_, fun Q => ?_, f3⟩
  have r2 : hR (wN h) 0 2 = some 25 := (f1.2.2.1 0 2 (by decide)).trans (by decide)
  have r1 : hR (wN h) 0 1 = some 13 := (f1.2.2.1 0 1 (by decide)).trans (by decide)
  simp (implicitDefEqProofs := false) only [rX7_init_37, rX7_init_37b, rX7_init_38, rX7_init_41, rX7_init_41b, rX7_init_42, rX7_init_42b, rX7_init_43, rX7_init_46, rX7_init_46b, rX7_init_47, rX7_init_50, rX7_init_53, e, kA_0, kB_0, kA_13, kB_13, kA_25, kB_25, kA_27, kB_27, show nFT 2 = 11 from rfl, r2, r1, e1, pCX7_init, pSX7_init, pOX7_init, pLX7_init, pCX2_init, pSX2_init, pOX2_init, pLX2_init, kl_I, kl_J, kl_R, kl_T, kl_N, Nat.le_refl, Nat.zero_le, List.map_nil, List.map_cons, List.sum_nil, List.sum_cons, c_I, c_J, c_R, c_T, va_rf, hI_wI, hJ_wJ, hR_wR, hI_J, hI_R, hJ_I, hJ_R, hR_I, hR_J, hN_I, hN_J, hN_R, wI_I, wJ_J, upd_at, updL_at, kR_s, Option.toList, List.append_nil, List.nil_append, List.cons_append, if_true, if_false, reduceIte, Bool.false_eq_true, not_true_eq_false, not_false_eq_true, true_and, and_true, false_and, and_false, true_or, or_true,  Nat.reduceEqDiff, Nat.reduceAdd, Nat.reduceLeDiff]
def rs7_5 : List (Nat × Nat × Nat) := (0, 4, 29) :: (29, 6, 31) :: (29, 3, 30) :: rs7_4
theorem l_x7_4 {d : Nat} {g h : qH} (f0 : FR g 29 rs7_4 [] h) : ∃ h', (∀ Q, WP (d + 1) mX7_init (28, 1085) 56 [some (.ref (0 : Nat))] [] h Q = WP (d + 1) mX7_init (31, 1112) 67 [some (.ref (0 : Nat))] [] h' Q) ∧ FR g 32 rs7_5 [] h' := by
  have e := f0.1
  have f1 := FR_N f0
  obtain ⟨h1, e1, f2⟩ := i_X3_29 (d := d) f1
  have f3 := FR_R (i := 4) (v := 29) f2 (a := 0) (by decide)
  refine ⟨_, fun Q => ?_, f3⟩
  simp (implicitDefEqProofs := false) only [rX7_init_56, rX7_init_56b, rX7_init_57, rX7_init_60, rX7_init_60b, rX7_init_61, rX7_init_64, e, kA_0, kB_0, kA_29, kB_29, show nFT 3 = 8 from rfl, e1, pCX7_init, pSX7_init, pOX7_init, pLX7_init, pCX3_init, pSX3_init, pOX3_init, pLX3_init, kl_I, kl_J, kl_R, kl_T, kl_N, Nat.le_refl, Nat.zero_le, List.map_nil, List.map_cons, List.sum_nil, List.sum_cons, c_I, c_J, c_R, c_T, va_rf, hI_wI, hJ_wJ, hR_wR, hI_J, hI_R, hJ_I, hJ_R, hR_I, hR_J, hN_I, hN_J, hN_R, wI_I, wJ_J, upd_at, updL_at, kR_s, Option.toList, List.append_nil, List.nil_append, List.cons_append, if_true, if_false, reduceIte, Bool.false_eq_true, not_true_eq_false, not_false_eq_true, true_and, and_true, false_and, and_false, true_or, or_true,  Nat.reduceEqDiff, Nat.reduceAdd, Nat.reduceLeDiff]
def rs7_6 : List (Nat × Nat × Nat) := (0, 5, 32) :: (32, 0, 1) :: (32, 4, 36) :: (32, 3, 35) :: (32, 2, 34) :: (32, 1, 33) :: rs7_5
theorem l_x7_5 {d : Nat} {g h : qH} (f0 : FR g 32 rs7_5 [] h) : ∃ h', (∀ Q, WP (d + 1) mX7_init (31, 1112) 67 [some (.ref (0 : Nat))] [] h Q = WP (d + 1) mX7_init (36, 1899) 82 [some (.ref (0 : Nat))] [] h' Q) ∧ FR g 37 rs7_6 [] h' := by
  have e := f0.1
  have f1 := FR_N f0
  obtain ⟨h1, e1, f2⟩ := i_X0_32 (d := d) f1
  have f3 := FR_R (i := 5) (v := 32) f2 (a := 0) (by decide)
  refine ⟨_, fun Q => ?_, f3⟩
  have r0 : hR (wN h) 0 0 = some 1 := (f1.2.2.1 0 0 (by decide)).trans (by decide)
  simp (implicitDefEqProofs := false) only [rX7_init_67, rX7_init_67b, rX7_init_68, rX7_init_71, rX7_init_71b, rX7_init_72, rX7_init_72b, rX7_init_73, rX7_init_76, rX7_init_79, e, kA_0, kB_0, kA_1, kB_1, kA_32, kB_32, show nFT 0 = 7 from rfl, r0, e1, pCX7_init, pSX7_init, pOX7_init, pLX7_init, pCX0_init, pSX0_init, pOX0_init, pLX0_init, kl_I, kl_J, kl_R, kl_T, kl_N, Nat.le_refl, Nat.zero_le, List.map_nil, List.map_cons, List.sum_nil, List.sum_cons, c_I, c_J, c_R, c_T, va_rf, hI_wI, hJ_wJ, hR_wR, hI_J, hI_R, hJ_I, hJ_R, hR_I, hR_J, hN_I, hN_J, hN_R, wI_I, wJ_J, upd_at, updL_at, kR_s, Option.toList, List.append_nil, List.nil_append, List.cons_append, if_true, if_false, reduceIte, Bool.false_eq_true, not_true_eq_false, not_false_eq_true, true_and, and_true, false_and, and_false, true_or, or_true,  Nat.reduceEqDiff, Nat.reduceAdd, Nat.reduceLeDiff]
def rs7_7 : List (Nat × Nat × Nat) := (0, 6, 37) :: (37, 0, 32) :: (37, 1, 38) :: rs7_6
theorem l_x7_6 {d : Nat} {g h : qH} (f0 : FR g 37 rs7_6 [] h) : ∃ h', (∀ Q, WP (d + 1) mX7_init (36, 1899) 82 [some (.ref (0 : Nat))] [] h Q = WP (d + 1) mX7_init (38, 3205) 97 [some (.ref (0 : Nat))] [] h' Q) ∧ FR g 39 rs7_7 [] h' := by
  have e := f0.1
  have f1 := FR_N f0
  obtain ⟨h1, e1, f2⟩ := i_X6_37 (d := d) f1
  have f3 := FR_R (i := 6) (v := 37) f2 (a := 0) (by decide)
  refine ⟨_, fun Q => ?_, f3⟩
  have r5 : hR (wN h) 0 5 = some 32 := (f1.2.2.1 0 5 (by decide)).trans (by decide)
  simp (implicitDefEqProofs := false) only [rX7_init_82, rX7_init_82b, rX7_init_83, rX7_init_86, rX7_init_86b, rX7_init_87, rX7_init_87b, rX7_init_88, rX7_init_91, rX7_init_94, e, kA_0, kB_0, kA_32, kB_32, kA_37, kB_37, show nFT 6 = 10 from rfl, r5, e1, pCX7_init, pSX7_init, pOX7_init, pLX7_init, pCX6_init, pSX6_init, pOX6_init, pLX6_init, kl_I, kl_J, kl_R, kl_T, kl_N, Nat.le_refl, Nat.zero_le, List.map_nil, List.map_cons, List.sum_nil, List.sum_cons, c_I, c_J, c_R, c_T, va_rf, hI_wI, hJ_wJ, hR_wR, hI_J, hI_R, hJ_I, hJ_R, hR_I, hR_J, hN_I, hN_J, hN_R, wI_I, wJ_J, upd_at, updL_at, kR_s, Option.toList, List.append_nil, List.nil_append, List.cons_append, if_true, if_false, reduceIte, Bool.false_eq_true, not_true_eq_false, not_false_eq_true, true_and, and_true, false_and, and_false, true_or, or_true,  Nat.reduceEqDiff, Nat.reduceAdd, Nat.reduceLeDiff]
def rs7_8 : List (Nat × Nat × Nat) := (0, 7, 39) :: (39, 0, 32) :: (39, 4, 43) :: (39, 3, 42) :: (39, 2, 41) :: (39, 1, 40) :: rs7_7
theorem l_x7_7 {d : Nat} {g h : qH} (f0 : FR g 39 rs7_7 [] h) : ∃ h', (∀ Q, WP (d + 1) mX7_init (38, 3205) 97 [some (.ref (0 : Nat))] [] h Q = WP (d + 1) mX7_init (43, 4070) 112 [some (.ref (0 : Nat))] [] h' Q) ∧ FR g 44 rs7_8 [] h' := by
  have e := f0.1
  have f1 := FR_N f0
  obtain ⟨h1, e1, f2⟩ := i_X1_39 (d := d) f1
  have f3 := FR_R (i := 7) (v := 39) f2 (a := 0) (by decide)
  refine ⟨_, fun Q => ?_, f3⟩
  have r5 : hR (wN h) 0 5 = some 32 := (f1.2.2.1 0 5 (by decide)).trans (by decide)
  simp (implicitDefEqProofs := false) only [rX7_init_97, rX7_init_97b, rX7_init_98, rX7_init_101, rX7_init_101b, rX7_init_102, rX7_init_102b, rX7_init_103, rX7_init_106, rX7_init_109, e, kA_0, kB_0, kA_32, kB_32, kA_39, kB_39, show nFT 1 = 9 from rfl, r5, e1, pCX7_init, pSX7_init, pOX7_init, pLX7_init, pCX1_init, pSX1_init, pOX1_init, pLX1_init, kl_I, kl_J, kl_R, kl_T, kl_N, Nat.le_refl, Nat.zero_le, List.map_nil, List.map_cons, List.sum_nil, List.sum_cons, c_I, c_J, c_R, c_T, va_rf, hI_wI, hJ_wJ, hR_wR, hI_J, hI_R, hJ_I, hJ_R, hR_I, hR_J, hN_I, hN_J, hN_R, wI_I, wJ_J, upd_at, updL_at, kR_s, Option.toList, List.append_nil, List.nil_append, List.cons_append, if_true, if_false, reduceIte, Bool.false_eq_true, not_true_eq_false, not_false_eq_true, true_and, and_true, false_and, and_false, true_or, or_true,  Nat.reduceEqDiff, Nat.reduceAdd, Nat.reduceLeDiff]
theorem i_X7 {d : Nat} {g h : qH} (f0 : FR g 1 rs7_0 [] h) : ∃ h', (∀ Q, WM (d + 1) mX7_init [.ref (0 : Nat)] h Q = Q (some none) h') ∧ FR g 44 rs7_8 [] h' := by
  obtain ⟨h1, e1, f1⟩ := l_x7_0 (d := d) f0
  obtain ⟨h2, e2, f2⟩ := l_x7_1 (d := d) f1
  obtain ⟨h3, e3, f3⟩ := l_x7_2 (d := d) f2
  obtain ⟨h4, e4, f4⟩ := l_x7_3 (d := d) f3
  obtain ⟨h5, e5, f5⟩ := l_x7_4 (d := d) f4
  obtain ⟨h6, e6, f6⟩ := l_x7_5 (d := d) f5
  obtain ⟨h7, e7, f7⟩ := l_x7_6 (d := d) f6
  obtain ⟨h8, e8, f8⟩ := l_x7_7 (d := d) f7
  refine ⟨h8, fun Q => ?_, f8⟩
  simp (implicitDefEqProofs := false) only [eX7_init, rX7_init_0, rX7_init_0b, rX7_init_1, kA_0, kB_0, pCX7_init, pSX7_init, pOX7_init, pLX7_init, kl_I, kl_J, kl_R, kl_T, kl_N, Nat.le_refl, Nat.zero_le, List.map_nil, List.map_cons, List.sum_nil, List.sum_cons, c_I, c_J, c_R, c_T, va_rf, hI_wI, hJ_wJ, hR_wR, hI_J, hI_R, hJ_I, hJ_R, hR_I, hR_J, hN_I, hN_J, hN_R, wI_I, wJ_J, upd_at, updL_at, kR_s, Option.toList, List.append_nil, List.nil_append, List.cons_append, if_true, if_false, reduceIte, Bool.false_eq_true, not_true_eq_false, not_false_eq_true, true_and, and_true, false_and, and_false, true_or, or_true,  Nat.reduceEqDiff, Nat.reduceAdd, Nat.reduceLeDiff]
  rw [e1, e2, e3, e4, e5, e6, e7, e8]
  simp (implicitDefEqProofs := false) only [rX7_init_112, pCX7_init, pSX7_init, pOX7_init, pLX7_init, kl_I, kl_J, kl_R, kl_T, kl_N, Nat.le_refl, Nat.zero_le, List.map_nil, List.map_cons, List.sum_nil, List.sum_cons, c_I, c_J, c_R, c_T, va_rf, hI_wI, hJ_wJ, hR_wR, hI_J, hI_R, hJ_I, hJ_R, hR_I, hR_J, hN_I, hN_J, hN_R, wI_I, wJ_J, upd_at, updL_at, kR_s, Option.toList, List.append_nil, List.nil_append, List.cons_append, if_true, if_false, reduceIte, Bool.false_eq_true, not_true_eq_false, not_false_eq_true, true_and, and_true, false_and, and_false, true_or, or_true,  Nat.reduceEqDiff, Nat.reduceAdd, Nat.reduceLeDiff]
def rs9 : List (Nat × Nat × Nat) := (44, 33, 55) :: (44, 29, 54) :: (44, 25, 53) :: (44, 24, 52) :: (44, 23, 51) :: (44, 21, 50) :: (44, 18, 49) :: (44, 17, 48) :: (44, 16, 47) :: (44, 15, 46) :: (44, 5, 45) :: rs7_8
def is9 : List (Nat × Nat × Int32) := (44, 22, -1) :: (44, 2, -1) :: []
theorem l_beg {d : Nat} {g : qH} (e0 : hN g = 0) : ∃ h', (∀ Q, WM (d + 2) mL_law [.retAddr (1000 : Nat)] g Q = WP (d + 2) mL_law (57, 5895) 23 [some (.retAddr (1000 : Nat)), some (.ref (0 : Nat)), some (.ref (44 : Nat)), some (.ref (56 : Nat)), some (.int 0), none, none] [] h' Q) ∧ FR g 57 rs9 is9 h' := by
  have z0 : FR g 0 rs7_0 [] g := ⟨e0, fun _ _ => rfl, fun b f hb => absurd hb (Nat.not_lt_zero _), fun b f hb => absurd hb (Nat.not_lt_zero _), (fun e he => by cases he), (fun e he => by cases he)⟩
  obtain ⟨h1, e1, f1⟩ := i_X7 (d := d) (FR_N z0)
  obtain ⟨h2, e2, f2⟩ := i_X9_44 (d := d + 1) (FR_N f1)
  have n1 := f1.1
  have n2 := f2.1
  have f3 := FR_N f2
  have c2 : akd .long = some (kd (hN h2)).1 ∧ ¬ (1 : Int32) < 0 ∧ (1 : Int32).toNatClampNeg = (kd (hN h2)).2 ∧ (kd (hN h2)).2 ≤ 60000 := by rw [n2, kA_56, kB_56]; exact ⟨rfl, by decide, by decide, by decide⟩
  have c3 : (kd (hN h2)).2 = 1 := by rw [n2]; exact kB_56
  have c4 : (kd (hN h2)).1 = 12 := by rw [n2]; exact kA_56
  refine ⟨wN h2, fun Q => ?_, f3⟩
  simp (implicitDefEqProofs := false) only [eL_law, rL_law_0, rL_law_3, rL_law_3b, rL_law_4, rL_law_7, e0, kA_0, kB_0, kA_44, kB_44, kA_56, kB_56, show nFT 7 = 10 from rfl, show nFT 9 = 35 from rfl, e1, pCL_law, pSL_law, pOL_law, pLL_law, pCX7_init, pSX7_init, pOX7_init, pLX7_init, pCX9_init, pSX9_init, pOX9_init, pLX9_init, kl_I, kl_J, kl_R, kl_T, kl_N, Nat.le_refl, Nat.zero_le, List.map_nil, List.map_cons, List.sum_nil, List.sum_cons, c_I, c_J, c_R, c_T, va_rf, hI_wI, hJ_wJ, hR_wR, hI_J, hI_R, hJ_I, hJ_R, hR_I, hR_J, hN_I, hN_J, hN_R, wI_I, wJ_J, upd_at, updL_at, kR_s, Option.toList, List.append_nil, List.nil_append, List.cons_append, if_true, if_false, reduceIte, Bool.false_eq_true, not_true_eq_false, not_false_eq_true, true_and, and_true, false_and, and_false, true_or, or_true,  Nat.reduceEqDiff, Nat.reduceAdd, Nat.reduceLeDiff]
  simp (implicitDefEqProofs := false) only [rL_law_8, rL_law_11, rL_law_11b, rL_law_12, rL_law_15, n1, kA_0, kB_0, kA_44, kB_44, kA_56, kB_56, show nFT 7 = 10 from rfl, show nFT 9 = 35 from rfl, e2, pCL_law, pSL_law, pOL_law, pLL_law, pCX7_init, pSX7_init, pOX7_init, pLX7_init, pCX9_init, pSX9_init, pOX9_init, pLX9_init, kl_I, kl_J, kl_R, kl_T, kl_N, Nat.le_refl, Nat.zero_le, List.map_nil, List.map_cons, List.sum_nil, List.sum_cons, c_I, c_J, c_R, c_T, va_rf, hI_wI, hJ_wJ, hR_wR, hI_J, hI_R, hJ_I, hJ_R, hR_I, hR_J, hN_I, hN_J, hN_R, wI_I, wJ_J, upd_at, updL_at, kR_s, Option.toList, List.append_nil, List.nil_append, List.cons_append, if_true, if_false, reduceIte, Bool.false_eq_true, not_true_eq_false, not_false_eq_true, true_and, and_true, false_and, and_false, true_or, or_true,  Nat.reduceEqDiff, Nat.reduceAdd, Nat.reduceLeDiff]
  simp (implicitDefEqProofs := false) only [rL_law_16, rL_law_17, c2, c3, c4, kA_0, kB_0, kA_44, kB_44, kA_56, kB_56, pCL_law, pSL_law, pOL_law, pLL_law, pCX7_init, pSX7_init, pOX7_init, pLX7_init, pCX9_init, pSX9_init, pOX9_init, pLX9_init, kl_I, kl_J, kl_R, kl_T, kl_N, Nat.le_refl, Nat.zero_le, List.map_nil, List.map_cons, List.sum_nil, List.sum_cons, c_I, c_J, c_R, c_T, va_rf, hI_wI, hJ_wJ, hR_wR, hI_J, hI_R, hJ_I, hJ_R, hR_I, hR_J, hN_I, hN_J, hN_R, wI_I, wJ_J, upd_at, updL_at, kR_s, Option.toList, List.append_nil, List.nil_append, List.cons_append, if_true, if_false, reduceIte, Bool.false_eq_true, not_true_eq_false, not_false_eq_true, true_and, and_true, false_and, and_false, true_or, or_true,  Nat.reduceEqDiff, Nat.reduceAdd, Nat.reduceLeDiff]
  simp (implicitDefEqProofs := false) only [rL_law_19, rL_law_20, rL_law_21, n2, kA_0, kB_0, kA_44, kB_44, kA_56, kB_56, pCL_law, pSL_law, pOL_law, pLL_law, pCX7_init, pSX7_init, pOX7_init, pLX7_init, pCX9_init, pSX9_init, pOX9_init, pLX9_init, kl_I, kl_J, kl_R, kl_T, kl_N, Nat.le_refl, Nat.zero_le, List.map_nil, List.map_cons, List.sum_nil, List.sum_cons, c_I, c_J, c_R, c_T, va_rf, hI_wI, hJ_wJ, hR_wR, hI_J, hI_R, hJ_I, hJ_R, hR_I, hR_J, hN_I, hN_J, hN_R, wI_I, wJ_J, upd_at, updL_at, kR_s, Option.toList, List.append_nil, List.nil_append, List.cons_append, if_true, if_false, reduceIte, Bool.false_eq_true, not_true_eq_false, not_false_eq_true, true_and, and_true, false_and, and_false, true_or, or_true,  Nat.reduceEqDiff, Nat.reduceAdd, Nat.reduceLeDiff]
theorem l_CI {g h : qH} (f : FR g 57 rs9 is9 h) : CI h (a0, ((0, 0, 0), [], []), (0, fun _ => 0), (0, 0, 0)) := by
  obtain ⟨-, -, f3, f4, -, -⟩ := f
  have z : ∀ b i, b < 44 → hI h b i = 0 := fun b i hb => by
    rw [f4 b i (by omega)]
    show lkI [(44, 22, -1), (44, 2, -1)] b i = 0
    rw [lkI, if_neg (by show ¬ (b = 44 ∧ _); omega), lkI, if_neg (by show ¬ (b = 44 ∧ _); omega)]; rfl
  have F : Fin0 (hR h) := fun e he => by
    have : ∀ e ∈ finT, e.1 < 57 ∧ lkR rs9 e.1 e.2.1 = some e.2.2 := by decide
    obtain ⟨q1, q2⟩ := this e he
    rw [f3 _ _ q1]; exact q2
  refine ⟨1, 0, F, ⟨(f3 0 0 (by decide)).trans (by decide), (f3 0 1 (by decide)).trans (by decide), (f3 32 0 (by decide)).trans (by decide)⟩, ?_, ?_, .inr ⟨0, by decide, by rw [z 32 5 (by decide)]; rfl, ?_⟩, ?_, .inl (z 37 6 (by decide)), .inl (z 39 5 (by decide)), ⟨⟨by decide, by decide⟩, (fun p hp => by cases hp), (fun p hp => by cases hp)⟩, ⟨Nat.zero_le _, z 25 1 (by decide), fun i _ => z 26 i (by decide)⟩, z 0 8 (by decide), z 0 9 (by decide), fun q => absurd q (by decide)⟩
  · refine ⟨.inl rfl, aW_0, ⟨z _ _ (by decide), z _ _ (by decide), z _ _ (by decide), z _ _ (by decide), z _ _ (by decide), z _ _ (by decide), z _ _ (by decide)⟩, ?_, ?_, ?_, ?_, ?_⟩ <;> exact fun j hj => absurd hj (Nat.not_lt_zero j)
  · intro t ht j hj; exact absurd hj (Nat.not_lt_zero j)
  · intro t ht j hj; exact absurd hj (Nat.not_lt_zero j)
  · exact ⟨⟨by decide, by decide, by decide⟩, ⟨z _ _ (by decide), z _ _ (by decide), z _ _ (by decide), z _ _ (by decide), z _ _ (by decide), z _ _ (by decide)⟩, by decide, by decide, by decide, fun i hi => absurd hi (Nat.not_lt_zero i), fun i hi => absurd hi (Nat.not_lt_zero i)⟩
theorem l_MI {g h : qH} (f : FR g 57 rs9 is9 h) : MI h (a0, ((0, 0, 0), [], []), (0, fun _ => 0), (0, 0, 0)) := by
  have F := CI_F (l_CI f)
  obtain ⟨-, -, f3, f4, -, -⟩ := f
  have z : ∀ b i, b < 57 → b ≠ 44 → hI h b i = 0 := fun b i hb h4 => by
    rw [f4 b i (by omega)]
    show lkI [(44, 22, -1), (44, 2, -1)] b i = 0
    rw [lkI, if_neg (by show ¬ (b = 44 ∧ _); omega), lkI, if_neg (by show ¬ (b = 44 ∧ _); omega)]; rfl
  have y : ∀ i, i ≠ 2 → i ≠ 22 → hI h 44 i = 0 := fun i h1 h2 => by
    rw [f4 44 i (by omega)]
    show lkI [(44, 22, -1), (44, 2, -1)] 44 i = 0
    rw [lkI, if_neg (by show ¬ (_ ∧ i = 22); omega), lkI, if_neg (by show ¬ (_ ∧ i = 2); omega)]; rfl
  refine ⟨F, ⟨aW_0, ⟨⟨by decide, by decide, by decide⟩, by decide, by decide⟩, (fun p hp => by cases hp), (fun p hp => by cases hp)⟩, .inl ⟨rfl, (f3 44 3 (by decide)).trans (by decide), rfl, rfl, rfl, rfl⟩, ⟨fun j hj => absurd hj (Nat.not_lt_zero j), z _ _ (by decide) (by decide), z _ _ (by decide) (by decide), z _ _ (by decide) (by decide), z _ _ (by decide) (by decide)⟩, ⟨y _ (by decide) (by decide), by decide, fun i hi => absurd hi (Nat.not_lt_zero i)⟩, ⟨y _ (by decide) (by decide), by decide, fun i hi => absurd hi (Nat.not_lt_zero i)⟩, (f4 44 22 (by decide)).trans (by decide), ⟨Nat.zero_le _, y _ (by decide) (by decide), fun i _ => z 45 i (by decide) (by decide)⟩, y _ (by decide) (by decide), y _ (by decide) (by decide), (f4 44 2 (by decide)).trans (by decide)⟩
/-- the law answers yes -/
theorem law_1 {d L : Nat} {g : qH} (e0 : hN g = 0) (hL : L ≤ 3072) (eL : hI g (SCR + 1) 0 = nI L) : ∃ h', ∀ Q, WM (d + 13) mL_law [.retAddr (1000 : Nat)] g Q = Q (some (some (.int 1))) h' := by
  obtain ⟨h1, e1, f⟩ := l_beg (d := d + 11) e0
  have I : LI h1 (a0, ((0, 0, 0), [], []), (0, fun _ => 0), (0, 0, 0)) 0 L := ⟨l_CI f, l_MI f, f.1, by rw [f.2.1 (SCR + 1) (by unfold SCR; omega)]; exact eL, by decide⟩
  obtain ⟨h2, e2⟩ := lw_loop (d := d) hL 512 0 57 5895 0 none none h1 _ I (Nat.zero_le _) (by omega) (by omega) (by omega) (by omega)
  exact ⟨h2, fun Q => (e1 Q).trans (e2 Q)⟩
