/-! ===== the model: undo, images, sizes, led, feed ===== -/
theorem lc_undo {d : Nat} {h : qH} {n : Nat} (e19 : hI h 44 19 = nI n) (hn : n ≤ 15) (F : Fin0 (hR h)) {Q : Option (Option Value) → qH → Prop} : ∀ (k i : Nat), i + k = 10 → WP d mX9_undo (0, 0) 38 [some (.ref (44 : Nat)), some (.int (nI i))] [] (wI h 46 (fil i (fun k => hI h 48 (10 * n + k)) (hI h 46))) Q = WP d mX9_undo (0, 0) 70 [some (.ref (44 : Nat)), some (.int 10)] [] (wI h 46 (fil 10 (fun k => hI h 48 (10 * n + k)) (hI h 46))) Q := by
  intro k
  induction k with
  | zero =>
    intro i hi
    obtain rfl : i = 10 := by omega
    simp (implicitDefEqProofs := false) only [rX9_undo_38, rX9_undo_39, rX9_undo_41, rX9_undo_44, rX9_undo_44b, rX9_undo_45, rX9_undo_48, rX9_undo_49, rX9_undo_49b, rX9_undo_50, rX9_undo_53, rX9_undo_55, rX9_undo_55b, rX9_undo_56, rX9_undo_59, rX9_undo_60, rX9_undo_61, rX9_undo_62, rX9_undo_63, pCX9_undo, pSX9_undo, pOX9_undo, pLX9_undo, show nI 10 = 10 from rfl, Int32.le_refl, kl_I, kl_J, kl_R, kl_T, kl_N, Nat.le_refl, Nat.zero_le, List.map_nil, List.map_cons, List.sum_nil, List.sum_cons, c_I, c_J, c_R, c_T, va_rf, hI_wI, hJ_wJ, hR_wR, hI_J, hI_R, hJ_I, hJ_R, hR_I, hR_J, hN_I, hN_J, hN_R, wI_I, wJ_J, upd_at, updL_at, kR_s, Option.toList, List.append_nil, List.nil_append, List.cons_append, if_true, if_false, reduceIte, Bool.false_eq_true, not_true_eq_false, not_false_eq_true, true_and, and_true, false_and, and_false, true_or, or_true,  Nat.reduceEqDiff, Nat.reduceAdd, Nat.reduceLeDiff]
  | succ k ih =>
    intro i hi
    have v1 : vp_in (nI i) 10 := nI_vp (by omega) (by decide)
    have cl : (nI i).toNatClampNeg = i := nI_cl (by omega)
    have v2 : vp_in (nI (10 * n + i)) 160 := nI_vp (by omega) (by decide)
    have cl2 : (nI (10 * n + i)).toNatClampNeg = 10 * n + i := nI_cl (by omega)
    have ad : 10 * nI n = nI (10 * n) := by rw [show (10 : Int32) = nI 10 from rfl, nI_mul]
    have i1 := ih (i + 1) (by omega)
    rw [← fil_s] at i1
    simp (implicitDefEqProofs := false) only [rX9_undo_38, rX9_undo_39, rX9_undo_41, rX9_undo_44, rX9_undo_44b, rX9_undo_45, rX9_undo_48, rX9_undo_49, rX9_undo_49b, rX9_undo_50, rX9_undo_53, rX9_undo_55, rX9_undo_55b, rX9_undo_56, rX9_undo_59, rX9_undo_60, rX9_undo_61, rX9_undo_62, rX9_undo_63, kA_44, kB_44, kA_46, kB_46, kA_48, kB_48, fin_44_5 F, fin_44_15 F, fin_44_16 F, fin_44_17 F, fin_44_18 F, fin_44_21 F, fin_44_23 F, fin_44_24 F, fin_44_25 F, fin_44_29 F, fin_44_33 F, nge (x := i) (k := 10) (c := 10) rfl (by omega) (by omega), show ¬ 10 ≤ i from by omega, v1, cl, e19, v2, cl2, ad, nI_add, pCX9_undo, pSX9_undo, pOX9_undo, pLX9_undo, kl_I, kl_J, kl_R, kl_T, kl_N, Nat.le_refl, Nat.zero_le, List.map_nil, List.map_cons, List.sum_nil, List.sum_cons, c_I, c_J, c_R, c_T, va_rf, hI_wI, hJ_wJ, hR_wR, hI_J, hI_R, hJ_I, hJ_R, hR_I, hR_J, hN_I, hN_J, hN_R, wI_I, wJ_J, upd_at, updL_at, kR_s, Option.toList, List.append_nil, List.nil_append, List.cons_append, if_true, if_false, reduceIte, Bool.false_eq_true, not_true_eq_false, not_false_eq_true, true_and, and_true, false_and, and_false, true_or, or_true,  Nat.reduceEqDiff, Nat.reduceAdd, Nat.reduceLeDiff]
    rw [rX9_undo_64, nI_1]
    simp (implicitDefEqProofs := false) only [rX9_undo_67, kl_I, kl_J, kl_R, kl_T, kl_N, Nat.le_refl, Nat.zero_le, List.map_nil, List.map_cons, List.sum_nil, List.sum_cons, c_I, c_J, c_R, c_T, va_rf, hI_wI, hJ_wJ, hR_wR, hI_J, hI_R, hJ_I, hJ_R, hR_I, hR_J, hN_I, hN_J, hN_R, wI_I, wJ_J, upd_at, updL_at, kR_s, Option.toList, List.append_nil, List.nil_append, List.cons_append, if_true, if_false, reduceIte, Bool.false_eq_true, not_true_eq_false, not_false_eq_true, true_and, and_true, false_and, and_false, true_or, or_true,  Nat.reduceEqDiff, Nat.reduceAdd, Nat.reduceLeDiff]
    exact i1
theorem lc_image {d : Nat} {h : qH} {n : Nat} (e20 : hI h 44 20 = nI n) (hn : n ≤ 2) (F : Fin0 (hR h)) {Q : Option (Option Value) → qH → Prop} : ∀ (k i : Nat), i + k = 10 → WP d mX9_image (0, 0) 34 [some (.ref (44 : Nat)), some (.int (nI i))] [] (wI h 49 (pt (10 * n) i (hI h 46) (hI h 49))) Q = WP d mX9_image (0, 0) 66 [some (.ref (44 : Nat)), some (.int 10)] [] (wI h 49 (pt (10 * n) 10 (hI h 46) (hI h 49))) Q := by
  intro k
  induction k with
  | zero =>
    intro i hi
    obtain rfl : i = 10 := by omega
    simp (implicitDefEqProofs := false) only [rX9_image_34, rX9_image_35, rX9_image_37, rX9_image_40, rX9_image_40b, rX9_image_41, rX9_image_44, rX9_image_46, rX9_image_46b, rX9_image_47, rX9_image_50, rX9_image_51, rX9_image_52, rX9_image_53, rX9_image_53b, rX9_image_54, rX9_image_57, rX9_image_58, rX9_image_59, pCX9_image, pSX9_image, pOX9_image, pLX9_image, show nI 10 = 10 from rfl, Int32.le_refl, kl_I, kl_J, kl_R, kl_T, kl_N, Nat.le_refl, Nat.zero_le, List.map_nil, List.map_cons, List.sum_nil, List.sum_cons, c_I, c_J, c_R, c_T, va_rf, hI_wI, hJ_wJ, hR_wR, hI_J, hI_R, hJ_I, hJ_R, hR_I, hR_J, hN_I, hN_J, hN_R, wI_I, wJ_J, upd_at, updL_at, kR_s, Option.toList, List.append_nil, List.nil_append, List.cons_append, if_true, if_false, reduceIte, Bool.false_eq_true, not_true_eq_false, not_false_eq_true, true_and, and_true, false_and, and_false, true_or, or_true,  Nat.reduceEqDiff, Nat.reduceAdd, Nat.reduceLeDiff]
  | succ k ih =>
    intro i hi
    have v1 : vp_in (nI i) 10 := nI_vp (by omega) (by decide)
    have cl : (nI i).toNatClampNeg = i := nI_cl (by omega)
    have v2 : vp_in (nI (10 * n + i)) 30 := nI_vp (by omega) (by decide)
    have cl2 : (nI (10 * n + i)).toNatClampNeg = 10 * n + i := nI_cl (by omega)
    have ad : 10 * nI n = nI (10 * n) := by rw [show (10 : Int32) = nI 10 from rfl, nI_mul]
    have i1 := ih (i + 1) (by omega)
    rw [← pt_s] at i1
    simp (implicitDefEqProofs := false) only [rX9_image_34, rX9_image_35, rX9_image_37, rX9_image_40, rX9_image_40b, rX9_image_41, rX9_image_44, rX9_image_46, rX9_image_46b, rX9_image_47, rX9_image_50, rX9_image_51, rX9_image_52, rX9_image_53, rX9_image_53b, rX9_image_54, rX9_image_57, rX9_image_58, rX9_image_59, kA_44, kB_44, kA_46, kB_46, kA_49, kB_49, fin_44_5 F, fin_44_15 F, fin_44_16 F, fin_44_17 F, fin_44_18 F, fin_44_21 F, fin_44_23 F, fin_44_24 F, fin_44_25 F, fin_44_29 F, fin_44_33 F, nge (x := i) (k := 10) (c := 10) rfl (by omega) (by omega), show ¬ 10 ≤ i from by omega, v1, cl, e20, v2, cl2, ad, nI_add, pCX9_image, pSX9_image, pOX9_image, pLX9_image, kl_I, kl_J, kl_R, kl_T, kl_N, Nat.le_refl, Nat.zero_le, List.map_nil, List.map_cons, List.sum_nil, List.sum_cons, c_I, c_J, c_R, c_T, va_rf, hI_wI, hJ_wJ, hR_wR, hI_J, hI_R, hJ_I, hJ_R, hR_I, hR_J, hN_I, hN_J, hN_R, wI_I, wJ_J, upd_at, updL_at, kR_s, Option.toList, List.append_nil, List.nil_append, List.cons_append, if_true, if_false, reduceIte, Bool.false_eq_true, not_true_eq_false, not_false_eq_true, true_and, and_true, false_and, and_false, true_or, or_true,  Nat.reduceEqDiff, Nat.reduceAdd, Nat.reduceLeDiff]
    rw [rX9_image_60, nI_1]
    simp (implicitDefEqProofs := false) only [rX9_image_63, kl_I, kl_J, kl_R, kl_T, kl_N, Nat.le_refl, Nat.zero_le, List.map_nil, List.map_cons, List.sum_nil, List.sum_cons, c_I, c_J, c_R, c_T, va_rf, hI_wI, hJ_wJ, hR_wR, hI_J, hI_R, hJ_I, hJ_R, hR_I, hR_J, hN_I, hN_J, hN_R, wI_I, wJ_J, upd_at, updL_at, kR_s, Option.toList, List.append_nil, List.nil_append, List.cons_append, if_true, if_false, reduceIte, Bool.false_eq_true, not_true_eq_false, not_false_eq_true, true_and, and_true, false_and, and_false, true_or, or_true,  Nat.reduceEqDiff, Nat.reduceAdd, Nat.reduceLeDiff]
    exact i1
theorem lc_back {d : Nat} {h : qH} {n : Nat} (hn : n ≤ 2) (F : Fin0 (hR h)) {Q : Option (Option Value) → qH → Prop} : ∀ (k i : Nat), i + k = 10 → WP d mX9_back (0, 0) 32 [some (.ref (44 : Nat)), some (.int (nI n)), some (.int (nI i))] [] (wI h 46 (fil i (fun k => hI h 49 (10 * n + k)) (hI h 46))) Q = WP d mX9_back (0, 0) 61 [some (.ref (44 : Nat)), some (.int (nI n)), some (.int 10)] [] (wI h 46 (fil 10 (fun k => hI h 49 (10 * n + k)) (hI h 46))) Q := by
  intro k
  induction k with
  | zero =>
    intro i hi
    obtain rfl : i = 10 := by omega
    simp (implicitDefEqProofs := false) only [rX9_back_32, rX9_back_33, rX9_back_35, rX9_back_38, rX9_back_38b, rX9_back_39, rX9_back_42, rX9_back_43, rX9_back_43b, rX9_back_44, rX9_back_47, rX9_back_49, rX9_back_50, rX9_back_51, rX9_back_52, rX9_back_53, rX9_back_54, pCX9_back, pSX9_back, pOX9_back, pLX9_back, show nI 10 = 10 from rfl, Int32.le_refl, kl_I, kl_J, kl_R, kl_T, kl_N, Nat.le_refl, Nat.zero_le, List.map_nil, List.map_cons, List.sum_nil, List.sum_cons, c_I, c_J, c_R, c_T, va_rf, hI_wI, hJ_wJ, hR_wR, hI_J, hI_R, hJ_I, hJ_R, hR_I, hR_J, hN_I, hN_J, hN_R, wI_I, wJ_J, upd_at, updL_at, kR_s, Option.toList, List.append_nil, List.nil_append, List.cons_append, if_true, if_false, reduceIte, Bool.false_eq_true, not_true_eq_false, not_false_eq_true, true_and, and_true, false_and, and_false, true_or, or_true,  Nat.reduceEqDiff, Nat.reduceAdd, Nat.reduceLeDiff]
  | succ k ih =>
    intro i hi
    have v1 : vp_in (nI i) 10 := nI_vp (by omega) (by decide)
    have cl : (nI i).toNatClampNeg = i := nI_cl (by omega)
    have v2 : vp_in (nI (10 * n + i)) 30 := nI_vp (by omega) (by decide)
    have cl2 : (nI (10 * n + i)).toNatClampNeg = 10 * n + i := nI_cl (by omega)
    have ad : 10 * nI n = nI (10 * n) := by rw [show (10 : Int32) = nI 10 from rfl, nI_mul]
    have i1 := ih (i + 1) (by omega)
    rw [← fil_s] at i1
    simp (implicitDefEqProofs := false) only [rX9_back_32, rX9_back_33, rX9_back_35, rX9_back_38, rX9_back_38b, rX9_back_39, rX9_back_42, rX9_back_43, rX9_back_43b, rX9_back_44, rX9_back_47, rX9_back_49, rX9_back_50, rX9_back_51, rX9_back_52, rX9_back_53, rX9_back_54, kA_44, kB_44, kA_46, kB_46, kA_49, kB_49, fin_44_5 F, fin_44_15 F, fin_44_16 F, fin_44_17 F, fin_44_18 F, fin_44_21 F, fin_44_23 F, fin_44_24 F, fin_44_25 F, fin_44_29 F, fin_44_33 F, nge (x := i) (k := 10) (c := 10) rfl (by omega) (by omega), show ¬ 10 ≤ i from by omega, v1, cl, v2, cl2, ad, nI_add, pCX9_back, pSX9_back, pOX9_back, pLX9_back, kl_I, kl_J, kl_R, kl_T, kl_N, Nat.le_refl, Nat.zero_le, List.map_nil, List.map_cons, List.sum_nil, List.sum_cons, c_I, c_J, c_R, c_T, va_rf, hI_wI, hJ_wJ, hR_wR, hI_J, hI_R, hJ_I, hJ_R, hR_I, hR_J, hN_I, hN_J, hN_R, wI_I, wJ_J, upd_at, updL_at, kR_s, Option.toList, List.append_nil, List.nil_append, List.cons_append, if_true, if_false, reduceIte, Bool.false_eq_true, not_true_eq_false, not_false_eq_true, true_and, and_true, false_and, and_false, true_or, or_true,  Nat.reduceEqDiff, Nat.reduceAdd, Nat.reduceLeDiff]
    rw [rX9_back_55, nI_1]
    simp (implicitDefEqProofs := false) only [rX9_back_58, kl_I, kl_J, kl_R, kl_T, kl_N, Nat.le_refl, Nat.zero_le, List.map_nil, List.map_cons, List.sum_nil, List.sum_cons, c_I, c_J, c_R, c_T, va_rf, hI_wI, hJ_wJ, hR_wR, hI_J, hI_R, hJ_I, hJ_R, hR_I, hR_J, hN_I, hN_J, hN_R, wI_I, wJ_J, upd_at, updL_at, kR_s, Option.toList, List.append_nil, List.nil_append, List.cons_append, if_true, if_false, reduceIte, Bool.false_eq_true, not_true_eq_false, not_false_eq_true, true_and, and_true, false_and, and_false, true_or, or_true,  Nat.reduceEqDiff, Nat.reduceAdd, Nat.reduceLeDiff]
    exact i1
theorem m_undo {d : Nat} {h : qH} {S : AS} (I : MI h S) : ms 0 (d + 10) mX9_undo [.ref (44 : Nat)] h (sUndo S).1 (some (.int (bI (sUndo S).2))) := by
  have E : ∀ Q, WM (d + 10) mX9_undo [.ref (44 : Nat)] h Q = WP (d + 10) mX9_undo (0, 0) 5 [some (.ref (44 : Nat)), none] [] (th h) Q := fun Q => by simp (implicitDefEqProofs := false) only [eX9_undo, rX9_undo_0, rX9_undo_0b, rX9_undo_1, rX9_undo_2, kA_44, kB_44, pCX9_undo, pSX9_undo, pOX9_undo, pLX9_undo, th, kl_I, kl_J, kl_R, kl_T, kl_N, Nat.le_refl, Nat.zero_le, List.map_nil, List.map_cons, List.sum_nil, List.sum_cons, c_I, c_J, c_R, c_T, va_rf, hI_wI, hJ_wJ, hR_wR, hI_J, hI_R, hJ_I, hJ_R, hR_I, hR_J, hN_I, hN_J, hN_R, wI_I, wJ_J, upd_at, updL_at, kR_s, Option.toList, List.append_nil, List.nil_append, List.cons_append, if_true, if_false, reduceIte, Bool.false_eq_true, not_true_eq_false, not_false_eq_true, true_and, and_true, false_and, and_false, true_or, or_true,  Nat.reduceEqDiff, Nat.reduceAdd, Nat.reduceLeDiff]
  rw [sUndo]
  have I1 := MI_th I
  have pp := MI_pP I1
  have pi := MI_pI I1
  cases hp : sP S with
  | nil =>
    have e : stS S (sX S) [] (sM S) 6 = trS S 6 := by rw [← st_tr, hp]
    simp only
    rw [e]
    refine ms_of (v := 6) I (by decide) E ?_
    rw [hp] at pp
    have p1 : hI (th h) 44 19 = nI 0 := pp.1
    by_cases c1 : aN (sA S) = 0
    · obtain ⟨F, r⟩ := MI_n I1 c1
      generalize th h = g at F r p1 ⊢
      exact ⟨g, fun Q => by simp (implicitDefEqProofs := false) only [rX9_undo_5, rX9_undo_5b, rX9_undo_6, rX9_undo_9, rX9_undo_9b, rX9_undo_12, rX9_undo_12b, rX9_undo_13, rX9_undo_16, rX9_undo_19, rX9_undo_19b, rX9_undo_20, rX9_undo_22, rX9_undo_25, kA_44, kB_44, r, c_mdenied (d := d + 8), show nI 6 = 6 from rfl, bI_f, pCX9_undo, pSX9_undo, pOX9_undo, pLX9_undo, pCX9_denied, pSX9_denied, pOX9_denied, pLX9_denied, kl_I, kl_J, kl_R, kl_T, kl_N, Nat.le_refl, Nat.zero_le, List.map_nil, List.map_cons, List.sum_nil, List.sum_cons, c_I, c_J, c_R, c_T, va_rf, hI_wI, hJ_wJ, hR_wR, hI_J, hI_R, hJ_I, hJ_R, hR_I, hR_J, hN_I, hN_J, hN_R, wI_I, wJ_J, upd_at, updL_at, kR_s, Option.toList, List.append_nil, List.nil_append, List.cons_append, if_true, if_false, reduceIte, Bool.false_eq_true, not_true_eq_false, not_false_eq_true, true_and, and_true, false_and, and_false, true_or, or_true,  Nat.reduceEqDiff, Nat.reduceAdd, Nat.reduceLeDiff], kp_refl⟩
    · obtain ⟨s, k, -⟩ := MI_y I1 c1
      generalize th h = g at k p1 ⊢
      exact ⟨g, fun Q => by simp (implicitDefEqProofs := false) only [rX9_undo_5, rX9_undo_5b, rX9_undo_6, rX9_undo_9, rX9_undo_9b, rX9_undo_12, rX9_undo_12b, rX9_undo_13, rX9_undo_16, rX9_undo_19, rX9_undo_19b, rX9_undo_20, rX9_undo_22, rX9_undo_25, kA_44, kB_44, k.2.1, p1, nI_0, c_mdenied (d := d + 8), show nI 6 = 6 from rfl, bI_f, pCX9_undo, pSX9_undo, pOX9_undo, pLX9_undo, pCX9_denied, pSX9_denied, pOX9_denied, pLX9_denied, kl_I, kl_J, kl_R, kl_T, kl_N, Nat.le_refl, Nat.zero_le, List.map_nil, List.map_cons, List.sum_nil, List.sum_cons, c_I, c_J, c_R, c_T, va_rf, hI_wI, hJ_wJ, hR_wR, hI_J, hI_R, hJ_I, hJ_R, hR_I, hR_J, hN_I, hN_J, hN_R, wI_I, wJ_J, upd_at, updL_at, kR_s, Option.toList, List.append_nil, List.nil_append, List.cons_append, if_true, if_false, reduceIte, Bool.false_eq_true, not_true_eq_false, not_false_eq_true, true_and, and_true, false_and, and_false, true_or, or_true,  Nat.reduceEqDiff, Nat.reduceAdd, Nat.reduceLeDiff], kp_refl⟩
  | cons p ps =>
    have c1 : ¬ aN (sA S) = 0 := by
      intro c
      rcases I.2.2.1 with ⟨-, -, -, -, n1, -⟩ | ⟨n1, -⟩
      · rw [hp] at n1; cases n1
      · omega
    obtain ⟨s, k, v, t1, t2, t3, t4, t5, ww⟩ := MI_y I1 c1
    have h6 := ww.1
    have bd := I.2.1
    rw [hp] at pp
    have bp := bd.2.2.1
    rw [hp] at bp
    refine ms_st (v := 0) I c1 (by decide) (bp p (by simp)) (fun q hq => bp q (by simp [hq])) bd.2.2.2 E ?_
    generalize th h = g at k v pp pi ⊢
    obtain ⟨p1, p2, p3⟩ := pp
    rw [List.length_cons] at p1 p2 p3
    have e19 : hI (wI g 44 (upd (hI g 44) 19 (nI ps.length))) 44 19 = nI ps.length := by rw [hI_wI, if_pos rfl, upd_at, if_pos rfl]
    have F : Fin0 (hR (wI g 44 (upd (hI g 44) 19 (nI ps.length)))) := k.1
    have lc := fun Q => lc_undo (d := d + 10) (Q := Q) (n := ps.length) e19 (by omega) F 10 0 (by omega)
    simp only [fil_0, wI_same] at lc
    have z : ¬ nI (ps.length + 1) = 0 := nI_ne0 (by omega) (by omega)
    have su : nI (ps.length + 1) - 1 = nI ps.length := by rw [show (1 : Int32) = nI 1 from rfl, pk_sub (by omega)]; rfl
    refine ⟨_, fun Q => ?_, kq_w (b := 46) (f := fil 10 (fun k => hI (wI g 44 (upd (hI g 44) 19 (nI ps.length))) 48 (10 * ps.length + k)) (hI (wI g 44 (upd (hI g 44) 19 (nI ps.length))) 46)) (kq_44 (h := g) (k := 19) (v := nI ps.length) kq_refl (by decide)) (by decide) (by decide), ?_, ⟨?_, by omega, ?_⟩, pI_mv pi ?_ ?_⟩
    · simp (implicitDefEqProofs := false) only [rX9_undo_5, rX9_undo_5b, rX9_undo_6, rX9_undo_9, rX9_undo_9b, rX9_undo_12, rX9_undo_12b, rX9_undo_13, rX9_undo_16, rX9_undo_19, rX9_undo_19b, rX9_undo_20, rX9_undo_22, rX9_undo_25, rX9_undo_26, rX9_undo_26b, rX9_undo_27, rX9_undo_27b, rX9_undo_28, rX9_undo_31, rX9_undo_32, rX9_undo_33, rX9_undo_36, rX9_undo_37, kA_44, kB_44, k.2.1, p1, z, su, pCX9_undo, pSX9_undo, pOX9_undo, pLX9_undo, kl_I, kl_J, kl_R, kl_T, kl_N, Nat.le_refl, Nat.zero_le, List.map_nil, List.map_cons, List.sum_nil, List.sum_cons, c_I, c_J, c_R, c_T, va_rf, hI_wI, hJ_wJ, hR_wR, hI_J, hI_R, hJ_I, hJ_R, hR_I, hR_J, hN_I, hN_J, hN_R, wI_I, wJ_J, upd_at, updL_at, kR_s, Option.toList, List.append_nil, List.nil_append, List.cons_append, if_true, if_false, reduceIte, Bool.false_eq_true, not_true_eq_false, not_false_eq_true, true_and, and_true, false_and, and_false, true_or, or_true,  Nat.reduceEqDiff, Nat.reduceAdd, Nat.reduceLeDiff]
      change WP (d + 10) mX9_undo (0, 0) 38 [some (.ref (44 : Nat)), some (.int (nI 0))] [] (wI g 44 (upd (hI g 44) 19 (nI ps.length))) Q = _
      rw [lc]
      simp (implicitDefEqProofs := false) only [rX9_undo_70, rX9_undo_70b, rX9_undo_71, rX9_undo_74, kA_44, kB_44, c_mgranted (d := d + 8), nI_0, bI_t, pCX9_undo, pSX9_undo, pOX9_undo, pLX9_undo, pCX9_granted, pSX9_granted, pOX9_granted, pLX9_granted, kl_I, kl_J, kl_R, kl_T, kl_N, Nat.le_refl, Nat.zero_le, List.map_nil, List.map_cons, List.sum_nil, List.sum_cons, c_I, c_J, c_R, c_T, va_rf, hI_wI, hJ_wJ, hR_wR, hI_J, hI_R, hJ_I, hJ_R, hR_I, hR_J, hN_I, hN_J, hN_R, wI_I, wJ_J, upd_at, updL_at, kR_s, Option.toList, List.append_nil, List.nil_append, List.cons_append, if_true, if_false, reduceIte, Bool.false_eq_true, not_true_eq_false, not_false_eq_true, true_and, and_true, false_and, and_false, true_or, or_true,  Nat.reduceEqDiff, Nat.reduceAdd, Nat.reduceLeDiff]
    · rw [hI_wI, if_pos rfl]
      have := p3 ps.length (by omega)
      rw [show ps.length + 1 - 1 - ps.length = 0 by omega] at this
      refine vF_10 h6 this (fun k hk => ?_)
      rw [fil_at hk, hI_wI, if_neg (by decide)]
    · rw [hI_wI, if_neg (by decide)]; exact e19
    · intro i hi
      rw [hI_wI, if_neg (by decide), hI_wI, if_neg (by decide)]
      have := p3 i (by omega)
      rw [show ps.length + 1 - 1 - i = (ps.length - 1 - i) + 1 by omega, List.getD_cons_succ] at this
      exact this
    · rw [hI_wI, if_neg (by decide), hI_wI, if_pos rfl, upd_at, if_neg (by decide)]
    · rw [hI_wI, if_neg (by decide), hI_wI, if_neg (by decide)]
theorem m_image {d : Nat} {h : qH} {S : AS} (I : MI h S) : ms 0 (d + 10) mX9_image [.ref (44 : Nat)] h (sImage S).1 (some (.int (sImage S).2)) := by
  have E : ∀ Q, WM (d + 10) mX9_image [.ref (44 : Nat)] h Q = WP (d + 10) mX9_image (0, 0) 5 [some (.ref (44 : Nat)), none] [] (th h) Q := fun Q => by simp (implicitDefEqProofs := false) only [eX9_image, rX9_image_0, rX9_image_0b, rX9_image_1, rX9_image_2, kA_44, kB_44, pCX9_image, pSX9_image, pOX9_image, pLX9_image, th, kl_I, kl_J, kl_R, kl_T, kl_N, Nat.le_refl, Nat.zero_le, List.map_nil, List.map_cons, List.sum_nil, List.sum_cons, c_I, c_J, c_R, c_T, va_rf, hI_wI, hJ_wJ, hR_wR, hI_J, hI_R, hJ_I, hJ_R, hR_I, hR_J, hN_I, hN_J, hN_R, wI_I, wJ_J, upd_at, updL_at, kR_s, Option.toList, List.append_nil, List.nil_append, List.cons_append, if_true, if_false, reduceIte, Bool.false_eq_true, not_true_eq_false, not_false_eq_true, true_and, and_true, false_and, and_false, true_or, or_true,  Nat.reduceEqDiff, Nat.reduceAdd, Nat.reduceLeDiff]
  rw [sImage]
  by_cases c1 : aN (sA S) = 0
  · rw [if_pos c1]
    refine ms_of (v := 1) I (by decide) E ?_
    obtain ⟨F, r⟩ := MI_n (MI_th I) c1
    generalize th h = g at F r ⊢
    exact ⟨g, fun Q => by simp (implicitDefEqProofs := false) only [rX9_image_5, rX9_image_5b, rX9_image_6, rX9_image_9, rX9_image_9b, rX9_image_12, rX9_image_12b, rX9_image_13, rX9_image_14, rX9_image_17, kA_44, kB_44, r, c_mrefused, show nI 1 = 1 from rfl, show ¬ (1 : Int32) ≤ 0 from by decide, show ¬ (1 : Int32) = 0 from by decide, pCX9_image, pSX9_image, pOX9_image, pLX9_image, pCX9_refused, pSX9_refused, pOX9_refused, pLX9_refused, kl_I, kl_J, kl_R, kl_T, kl_N, Nat.le_refl, Nat.zero_le, List.map_nil, List.map_cons, List.sum_nil, List.sum_cons, c_I, c_J, c_R, c_T, va_rf, hI_wI, hJ_wJ, hR_wR, hI_J, hI_R, hJ_I, hJ_R, hR_I, hR_J, hN_I, hN_J, hN_R, wI_I, wJ_J, upd_at, updL_at, kR_s, Option.toList, List.append_nil, List.nil_append, List.cons_append, if_true, if_false, reduceIte, Bool.false_eq_true, not_true_eq_false, not_false_eq_true, true_and, and_true, false_and, and_false, true_or, or_true,  Nat.reduceEqDiff, Nat.reduceAdd, Nat.reduceLeDiff], kp_refl⟩
  · rw [if_neg c1]
    have I1 := MI_th I
    obtain ⟨s, k, v, t1, t2, t3, t4, t5, ww⟩ := MI_y I1 c1
    have pp := MI_pP I1
    have pi := MI_pI I1
    have bd := I.2.1
    have h6 := ww.1
    have l3 := pi.2.1
    have q3 : (nI (sM S).length = 3) = ((sM S).length = 3) := nq (x := (sM S).length) (k := 3) (c := 3) rfl (by omega) (by omega)
    by_cases c2 : (sM S).length < 3
    · rw [if_pos c2]
      refine ms_st (v := 0) I c1 (by decide) bd.2.1 bd.2.2.1 (fun p hp => by
        rcases List.mem_append.mp hp with q | q
        · exact bd.2.2.2 p q
        · rw [List.mem_singleton.mp q]; exact bd.2.1) E ?_
      generalize th h = g at k v pp pi ⊢
      have F := k.1
      have lc := fun Q => lc_image (d := d + 10) (Q := Q) (n := (sM S).length) pi.1 (by omega) F 10 0 (by omega)
      simp only [pt_0, wI_same] at lc
      have su : nI ((sM S).length + 1) - 1 = nI (sM S).length := by rw [show (1 : Int32) = nI 1 from rfl, pk_sub (by omega)]; rfl
      refine ⟨_, fun Q => ?_, kq_44 (k := 20) (v := nI ((sM S).length + 1)) (kq_w (b := 49) (f := pt (10 * (sM S).length) 10 (hI g 46) (hI g 49)) (kq_refl (h := g)) (by decide) (by decide)) (by decide), ?_, pP_mv pp ?_ ?_, ⟨?_, ?_, ?_⟩⟩
      · simp (implicitDefEqProofs := false) only [rX9_image_5, rX9_image_5b, rX9_image_6, rX9_image_9, rX9_image_9b, rX9_image_12, rX9_image_12b, rX9_image_13, rX9_image_14, rX9_image_17, rX9_image_18, rX9_image_18b, rX9_image_19, rX9_image_22, rX9_image_23, rX9_image_26, rX9_image_26b, rX9_image_27, rX9_image_28, rX9_image_31, rX9_image_32, rX9_image_33, kA_44, kB_44, k.2.1, pi.1, q3, show ¬ (sM S).length = 3 from by omega, pCX9_image, pSX9_image, pOX9_image, pLX9_image, kl_I, kl_J, kl_R, kl_T, kl_N, Nat.le_refl, Nat.zero_le, List.map_nil, List.map_cons, List.sum_nil, List.sum_cons, c_I, c_J, c_R, c_T, va_rf, hI_wI, hJ_wJ, hR_wR, hI_J, hI_R, hJ_I, hJ_R, hR_I, hR_J, hN_I, hN_J, hN_R, wI_I, wJ_J, upd_at, updL_at, kR_s, Option.toList, List.append_nil, List.nil_append, List.cons_append, if_true, if_false, reduceIte, Bool.false_eq_true, not_true_eq_false, not_false_eq_true, true_and, and_true, false_and, and_false, true_or, or_true,  Nat.reduceEqDiff, Nat.reduceAdd, Nat.reduceLeDiff]
        change WP (d + 10) mX9_image (0, 0) 34 [some (.ref (44 : Nat)), some (.int (nI 0))] [] g Q = _
        rw [lc]
        simp (implicitDefEqProofs := false) only [rX9_image_66, rX9_image_66b, rX9_image_67, rX9_image_67b, rX9_image_68, rX9_image_71, rX9_image_72, rX9_image_73, rX9_image_76, rX9_image_76b, rX9_image_77, rX9_image_77b, rX9_image_78, rX9_image_81, rX9_image_82, rX9_image_83, rX9_image_86, kA_44, kB_44, pi.1, nI_1, su, c_mgood, nI_0, pCX9_image, pSX9_image, pOX9_image, pLX9_image, pCX9_good, pSX9_good, pOX9_good, pLX9_good, kl_I, kl_J, kl_R, kl_T, kl_N, Nat.le_refl, Nat.zero_le, List.map_nil, List.map_cons, List.sum_nil, List.sum_cons, c_I, c_J, c_R, c_T, va_rf, hI_wI, hJ_wJ, hR_wR, hI_J, hI_R, hJ_I, hJ_R, hR_I, hR_J, hN_I, hN_J, hN_R, wI_I, wJ_J, upd_at, updL_at, kR_s, Option.toList, List.append_nil, List.nil_append, List.cons_append, if_true, if_false, reduceIte, Bool.false_eq_true, not_true_eq_false, not_false_eq_true, true_and, and_true, false_and, and_false, true_or, or_true,  Nat.reduceEqDiff, Nat.reduceAdd, Nat.reduceLeDiff]
      · rw [hI_wI, if_neg (by decide), hI_wI, if_neg (by decide)]; exact v
      · rw [hI_wI, if_pos rfl, upd_at, if_neg (by decide), hI_wI, if_neg (by decide)]
      · rw [hI_wI, if_neg (by decide), hI_wI, if_neg (by decide)]
      · rw [hI_wI, if_pos rfl, upd_at, if_pos rfl, List.length_append]; rfl
      · rw [List.length_append, List.length_singleton]; omega
      · intro i hi
        rw [List.length_append, List.length_singleton] at hi
        rw [hI_wI, if_neg (by decide), hI_wI, if_pos rfl]
        by_cases c : i = (sM S).length
        · have e : (sM S ++ [sX S]).getD i (0, 0, 0) = sX S := by rw [c]; simp [List.getD_eq_getElem?_getD]
          rw [e]
          refine vF_10 h6 v (fun k hk => ?_)
          unfold pt
          rw [if_pos (by omega), show 10 * i + k - 10 * (sM S).length = k by omega]
        · have e : (sM S ++ [sX S]).getD i (0, 0, 0) = (sM S).getD i (0, 0, 0) := by
            simp only [List.getD_eq_getElem?_getD]
            rw [List.getElem?_append_left (by omega)]
          rw [e]
          refine vF_10 h6 (pi.2.2 i (by omega)) (fun k hk => ?_)
          unfold pt
          rw [if_neg (by omega)]
    · rw [if_neg c2, st_tr]
      refine ms_of (v := 3) I (by decide) E ?_
      generalize th h = g at k v pi ⊢
      exact ⟨g, fun Q => by simp (implicitDefEqProofs := false) only [rX9_image_5, rX9_image_5b, rX9_image_6, rX9_image_9, rX9_image_9b, rX9_image_12, rX9_image_12b, rX9_image_13, rX9_image_14, rX9_image_17, rX9_image_18, rX9_image_18b, rX9_image_19, rX9_image_22, rX9_image_23, rX9_image_26, rX9_image_26b, rX9_image_27, rX9_image_28, rX9_image_31, kA_44, kB_44, k.2.1, pi.1, q3, show (sM S).length = 3 from by omega, c_mrefused, show nI 3 = 3 from rfl, pCX9_image, pSX9_image, pOX9_image, pLX9_image, pCX9_refused, pSX9_refused, pOX9_refused, pLX9_refused, kl_I, kl_J, kl_R, kl_T, kl_N, Nat.le_refl, Nat.zero_le, List.map_nil, List.map_cons, List.sum_nil, List.sum_cons, c_I, c_J, c_R, c_T, va_rf, hI_wI, hJ_wJ, hR_wR, hI_J, hI_R, hJ_I, hJ_R, hR_I, hR_J, hN_I, hN_J, hN_R, wI_I, wJ_J, upd_at, updL_at, kR_s, Option.toList, List.append_nil, List.nil_append, List.cons_append, if_true, if_false, reduceIte, Bool.false_eq_true, not_true_eq_false, not_false_eq_true, true_and, and_true, false_and, and_false, true_or, or_true,  Nat.reduceEqDiff, Nat.reduceAdd, Nat.reduceLeDiff], kp_refl⟩
theorem m_back {d : Nat} {h : qH} {S : AS} {y : Int32} (I : MI h S) : ms 0 (d + 10) mX9_back [.ref (44 : Nat), .int y] h (sBack S y).1 (some (.int (bI (sBack S y).2))) := by
  have E : ∀ Q, WM (d + 10) mX9_back [.ref (44 : Nat), .int y] h Q = WP (d + 10) mX9_back (0, 0) 5 [some (.ref (44 : Nat)), some (.int y), none] [] (th h) Q := fun Q => by simp (implicitDefEqProofs := false) only [eX9_back, rX9_back_0, rX9_back_0b, rX9_back_1, rX9_back_2, kA_44, kB_44, pCX9_back, pSX9_back, pOX9_back, pLX9_back, th, kl_I, kl_J, kl_R, kl_T, kl_N, Nat.le_refl, Nat.zero_le, List.map_nil, List.map_cons, List.sum_nil, List.sum_cons, c_I, c_J, c_R, c_T, va_rf, hI_wI, hJ_wJ, hR_wR, hI_J, hI_R, hJ_I, hJ_R, hR_I, hR_J, hN_I, hN_J, hN_R, wI_I, wJ_J, upd_at, updL_at, kR_s, Option.toList, List.append_nil, List.nil_append, List.cons_append, if_true, if_false, reduceIte, Bool.false_eq_true, not_true_eq_false, not_false_eq_true, true_and, and_true, false_and, and_false, true_or, or_true,  Nat.reduceEqDiff, Nat.reduceAdd, Nat.reduceLeDiff]
  rw [sBack]
  have I1 := MI_th I
  have pp := MI_pP I1
  have pi := MI_pI I1
  have bd := I.2.1
  have l3 := pi.2.1
  cases hx : ix y (sM S).length with
  | none =>
    simp only
    rw [st_tr]
    refine ms_of (v := 1) I (by decide) E ?_
    by_cases c1 : aN (sA S) = 0
    · obtain ⟨F, r⟩ := MI_n I1 c1
      generalize th h = g at F r ⊢
      exact ⟨g, fun Q => by simp (implicitDefEqProofs := false) only [rX9_back_5, rX9_back_5b, rX9_back_6, rX9_back_9, rX9_back_9b, rX9_back_12, rX9_back_13, rX9_back_16, rX9_back_17, rX9_back_17b, rX9_back_18, rX9_back_21, rX9_back_24, rX9_back_24b, rX9_back_25, rX9_back_26, rX9_back_29, kA_44, kB_44, r, c_mdenied (d := d + 8), show nI 1 = 1 from rfl, bI_f, pCX9_back, pSX9_back, pOX9_back, pLX9_back, pCX9_denied, pSX9_denied, pOX9_denied, pLX9_denied, kl_I, kl_J, kl_R, kl_T, kl_N, Nat.le_refl, Nat.zero_le, List.map_nil, List.map_cons, List.sum_nil, List.sum_cons, c_I, c_J, c_R, c_T, va_rf, hI_wI, hJ_wJ, hR_wR, hI_J, hI_R, hJ_I, hJ_R, hR_I, hR_J, hN_I, hN_J, hN_R, wI_I, wJ_J, upd_at, updL_at, kR_s, Option.toList, List.append_nil, List.nil_append, List.cons_append, if_true, if_false, reduceIte, Bool.false_eq_true, not_true_eq_false, not_false_eq_true, true_and, and_true, false_and, and_false, true_or, or_true,  Nat.reduceEqDiff, Nat.reduceAdd, Nat.reduceLeDiff], kp_refl⟩
    · obtain ⟨s, k, -⟩ := MI_y I1 c1
      generalize th h = g at k pi ⊢
      by_cases c2 : y < 0
      · exact ⟨g, fun Q => by simp (implicitDefEqProofs := false) only [rX9_back_5, rX9_back_5b, rX9_back_6, rX9_back_9, rX9_back_9b, rX9_back_12, rX9_back_13, rX9_back_16, rX9_back_17, rX9_back_17b, rX9_back_18, rX9_back_21, rX9_back_24, rX9_back_24b, rX9_back_25, rX9_back_26, rX9_back_29, kA_44, kB_44, k.2.1, c2, c_mdenied (d := d + 8), show nI 1 = 1 from rfl, bI_f, pCX9_back, pSX9_back, pOX9_back, pLX9_back, pCX9_denied, pSX9_denied, pOX9_denied, pLX9_denied, kl_I, kl_J, kl_R, kl_T, kl_N, Nat.le_refl, Nat.zero_le, List.map_nil, List.map_cons, List.sum_nil, List.sum_cons, c_I, c_J, c_R, c_T, va_rf, hI_wI, hJ_wJ, hR_wR, hI_J, hI_R, hJ_I, hJ_R, hR_I, hR_J, hN_I, hN_J, hN_R, wI_I, wJ_J, upd_at, updL_at, kR_s, Option.toList, List.append_nil, List.nil_append, List.cons_append, if_true, if_false, reduceIte, Bool.false_eq_true, not_true_eq_false, not_false_eq_true, true_and, and_true, false_and, and_false, true_or, or_true,  Nat.reduceEqDiff, Nat.reduceAdd, Nat.reduceLeDiff], kp_refl⟩
      · have c3 : ¬ y < nI (sM S).length := Int32.not_lt.mpr ((ix_n hx).resolve_left c2)
        exact ⟨g, fun Q => by simp (implicitDefEqProofs := false) only [rX9_back_5, rX9_back_5b, rX9_back_6, rX9_back_9, rX9_back_9b, rX9_back_12, rX9_back_13, rX9_back_16, rX9_back_17, rX9_back_17b, rX9_back_18, rX9_back_21, rX9_back_24, rX9_back_24b, rX9_back_25, rX9_back_26, rX9_back_29, kA_44, kB_44, k.2.1, c2, pi.1, c3, c_mdenied (d := d + 8), show nI 1 = 1 from rfl, bI_f, pCX9_back, pSX9_back, pOX9_back, pLX9_back, pCX9_denied, pSX9_denied, pOX9_denied, pLX9_denied, kl_I, kl_J, kl_R, kl_T, kl_N, Nat.le_refl, Nat.zero_le, List.map_nil, List.map_cons, List.sum_nil, List.sum_cons, c_I, c_J, c_R, c_T, va_rf, hI_wI, hJ_wJ, hR_wR, hI_J, hI_R, hJ_I, hJ_R, hR_I, hR_J, hN_I, hN_J, hN_R, wI_I, wJ_J, upd_at, updL_at, kR_s, Option.toList, List.append_nil, List.nil_append, List.cons_append, if_true, if_false, reduceIte, Bool.false_eq_true, not_true_eq_false, not_false_eq_true, true_and, and_true, false_and, and_false, true_or, or_true,  Nat.reduceEqDiff, Nat.reduceAdd, Nat.reduceLeDiff], kp_refl⟩
  | some i =>
    obtain ⟨rfl, hi⟩ := ix_s (by omega) hx
    have c1 : ¬ aN (sA S) = 0 := by
      intro c
      rcases I.2.2.1 with ⟨-, -, -, -, -, n1⟩ | ⟨n1, -⟩
      · rw [n1] at hi; exact absurd hi (by simp)
      · omega
    obtain ⟨s, k, v, t1, t2, t3, t4, t5, ww⟩ := MI_y I1 c1
    have h6 := ww.1
    have mm : (sM S).getD i (0, 0, 0) ∈ sM S := by
      rw [List.getD_eq_getElem?_getD, List.getElem?_eq_getElem hi]
      exact List.getElem_mem hi
    refine ms_st (v := 0) I c1 (by decide) (bd.2.2.2 _ mm) (fun q hq => by cases hq) bd.2.2.2 E ?_
    generalize th h = g at k v pp pi ⊢
    have F := k.1
    have lc := fun Q => lc_back (d := d + 10) (h := g) (Q := Q) (n := i) (by omega) F 10 0 (by omega)
    simp only [fil_0, wI_same] at lc
    have g1 : ¬ nI i < 0 := nI_pos (by omega)
    have g2 : nI i < nI (sM S).length := (nI_ltI (by omega) (by omega)).mpr hi
    refine ⟨_, fun Q => ?_, kq_44 (k := 19) (v := 0) (kq_w (b := 46) (f := fil 10 (fun k => hI g 49 (10 * i + k)) (hI g 46)) (kq_refl (h := g)) (by decide) (by decide)) (by decide), ?_, ⟨?_, by simp, fun j hj => by simp at hj⟩, pI_mv pi ?_ ?_⟩
    · simp (implicitDefEqProofs := false) only [rX9_back_5, rX9_back_5b, rX9_back_6, rX9_back_9, rX9_back_9b, rX9_back_12, rX9_back_13, rX9_back_16, rX9_back_17, rX9_back_17b, rX9_back_18, rX9_back_21, rX9_back_24, rX9_back_24b, rX9_back_25, rX9_back_26, rX9_back_29, rX9_back_30, rX9_back_31, kA_44, kB_44, k.2.1, pi.1, g1, g2, pCX9_back, pSX9_back, pOX9_back, pLX9_back, kl_I, kl_J, kl_R, kl_T, kl_N, Nat.le_refl, Nat.zero_le, List.map_nil, List.map_cons, List.sum_nil, List.sum_cons, c_I, c_J, c_R, c_T, va_rf, hI_wI, hJ_wJ, hR_wR, hI_J, hI_R, hJ_I, hJ_R, hR_I, hR_J, hN_I, hN_J, hN_R, wI_I, wJ_J, upd_at, updL_at, kR_s, Option.toList, List.append_nil, List.nil_append, List.cons_append, if_true, if_false, reduceIte, Bool.false_eq_true, not_true_eq_false, not_false_eq_true, true_and, and_true, false_and, and_false, true_or, or_true,  Nat.reduceEqDiff, Nat.reduceAdd, Nat.reduceLeDiff]
      change WP (d + 10) mX9_back (0, 0) 32 [some (.ref (44 : Nat)), some (.int (nI i)), some (.int (nI 0))] [] g Q = _
      rw [lc]
      simp (implicitDefEqProofs := false) only [rX9_back_61, rX9_back_61b, rX9_back_62, rX9_back_63, rX9_back_66, rX9_back_66b, rX9_back_67, rX9_back_70, kA_44, kB_44, c_mgranted (d := d + 8), nI_0, bI_t, pCX9_back, pSX9_back, pOX9_back, pLX9_back, pCX9_granted, pSX9_granted, pOX9_granted, pLX9_granted, kl_I, kl_J, kl_R, kl_T, kl_N, Nat.le_refl, Nat.zero_le, List.map_nil, List.map_cons, List.sum_nil, List.sum_cons, c_I, c_J, c_R, c_T, va_rf, hI_wI, hJ_wJ, hR_wR, hI_J, hI_R, hJ_I, hJ_R, hR_I, hR_J, hN_I, hN_J, hN_R, wI_I, wJ_J, upd_at, updL_at, kR_s, Option.toList, List.append_nil, List.nil_append, List.cons_append, if_true, if_false, reduceIte, Bool.false_eq_true, not_true_eq_false, not_false_eq_true, true_and, and_true, false_and, and_false, true_or, or_true,  Nat.reduceEqDiff, Nat.reduceAdd, Nat.reduceLeDiff]
    · rw [hI_wI, if_neg (by decide), hI_wI, if_pos rfl]
      exact vF_10 h6 (pi.2.2 i hi) (fun k hk => by rw [fil_at hk])
    · rw [hI_wI, if_pos rfl, upd_at, if_pos rfl]; rfl
    · rw [hI_wI, if_pos rfl, upd_at, if_neg (by decide), hI_wI, if_neg (by decide)]
    · rw [hI_wI, if_neg (by decide), hI_wI, if_neg (by decide)]
theorem i32_11 (z : Int32) (c : ¬ (z < 0 ∨ 10 < z)) : z = 0 ∨ z = 1 ∨ z = 2 ∨ z = 3 ∨ z = 4 ∨ z = 5 ∨ z = 6 ∨ z = 7 ∨ z = 8 ∨ z = 9 ∨ z = 10 := by
  obtain ⟨i, hi, rfl⟩ : ∃ i, i ≤ 10 ∧ z = nI i := nI_of2 (n := 10) rfl (fun q => c (.inl q)) (Int32.not_lt.mp (fun q => c (.inr q)))
  rcases (show i = 0 ∨ i = 1 ∨ i = 2 ∨ i = 3 ∨ i = 4 ∨ i = 5 ∨ i = 6 ∨ i = 7 ∨ i = 8 ∨ i = 9 ∨ i = 10 by omega) with q | q | q | q | q | q | q | q | q | q | q <;> subst q <;> decide
theorem m_size {d : Nat} {h : qH} {S : AS} {z : Int32} (I : MI h S) : ms 0 (d + 2) mX9_size [.ref (44 : Nat), .int z] h S (some (.int (szN S z))) := by
  refine ⟨th h, fun Q => ?_, kp_mf kp_th, MI_th I⟩
  have E : WM (d + 2) mX9_size [.ref (44 : Nat), .int z] h Q = WP (d + 2) mX9_size (0, 0) 5 [some (.ref (44 : Nat)), some (.int z)] [] (th h) Q := by simp (implicitDefEqProofs := false) only [eX9_size, rX9_size_0, rX9_size_0b, rX9_size_1, rX9_size_2, kA_44, kB_44, pCX9_size, pSX9_size, pOX9_size, pLX9_size, th, kl_I, kl_J, kl_R, kl_T, kl_N, Nat.le_refl, Nat.zero_le, List.map_nil, List.map_cons, List.sum_nil, List.sum_cons, c_I, c_J, c_R, c_T, va_rf, hI_wI, hJ_wJ, hR_wR, hI_J, hI_R, hJ_I, hJ_R, hR_I, hR_J, hN_I, hN_J, hN_R, wI_I, wJ_J, upd_at, updL_at, kR_s, Option.toList, List.append_nil, List.nil_append, List.cons_append, if_true, if_false, reduceIte, Bool.false_eq_true, not_true_eq_false, not_false_eq_true, true_and, and_true, false_and, and_false, true_or, or_true,  Nat.reduceEqDiff, Nat.reduceAdd, Nat.reduceLeDiff]
  rw [E]
  have I1 := MI_th I
  have tp := I1.2.2.2.2.2.2.2.1.2.1
  have inn := c_in (d := d + 1) (h := th h) (v := z) (lo := 0) (hi := 10)
  by_cases z11 : z = 11
  · subst z11
    generalize th h = g at tp ⊢
    simp (implicitDefEqProofs := false) only [rX9_size_5, rX9_size_6, rX9_size_8, rX9_size_11, rX9_size_11b, rX9_size_12, rX9_size_15, kA_44, kB_44, tp, szN, pCX9_size, pSX9_size, pOX9_size, pLX9_size, show ¬ (11 : Int32) = 0 from by decide, show ¬ (11 : Int32) = 1 from by decide, show ¬ (11 : Int32) = 2 from by decide, show ¬ (11 : Int32) = 3 from by decide, show ¬ (11 : Int32) = 4 from by decide, show ¬ (11 : Int32) = 5 from by decide, show ¬ (11 : Int32) = 6 from by decide, show ¬ (11 : Int32) = 7 from by decide, show ¬ (11 : Int32) = 8 from by decide, show ¬ (11 : Int32) = 9 from by decide, show ¬ (11 : Int32) = 10 from by decide, kl_I, kl_J, kl_R, kl_T, kl_N, Nat.le_refl, Nat.zero_le, List.map_nil, List.map_cons, List.sum_nil, List.sum_cons, c_I, c_J, c_R, c_T, va_rf, hI_wI, hJ_wJ, hR_wR, hI_J, hI_R, hJ_I, hJ_R, hR_I, hR_J, hN_I, hN_J, hN_R, wI_I, wJ_J, upd_at, updL_at, kR_s, Option.toList, List.append_nil, List.nil_append, List.cons_append, if_true, if_false, reduceIte, Bool.false_eq_true, not_true_eq_false, not_false_eq_true, true_and, and_true, false_and, and_false, true_or, or_true,  Nat.reduceEqDiff, Nat.reduceAdd, Nat.reduceLeDiff]
  · by_cases c : z < 0 ∨ 10 < z
    · have e : szN S z = -1 := by
        unfold szN
        rw [if_neg z11]
        rw [if_neg (fun q => by subst q; revert c; decide)]
        rw [if_neg (fun q => by subst q; revert c; decide)]
        rw [if_neg (fun q => by subst q; revert c; decide)]
        rw [if_neg (fun q => by subst q; revert c; decide)]
        rw [if_neg (fun q => by subst q; revert c; decide)]
        rw [if_neg (fun q => by subst q; revert c; decide)]
        rw [if_neg (fun q => by subst q; revert c; decide)]
        rw [if_neg (fun q => by subst q; revert c; decide)]
        rw [if_neg (fun q => by subst q; revert c; decide)]
        rw [if_neg (fun q => by subst q; revert c; decide)]
        rw [if_neg (fun q => by subst q; revert c; decide)]
      rw [e]
      generalize th h = g at inn ⊢
      simp (implicitDefEqProofs := false) only [rX9_size_5, rX9_size_6, rX9_size_8, rX9_size_11, rX9_size_11b, rX9_size_12, rX9_size_15, rX9_size_16, rX9_size_17, rX9_size_18, rX9_size_20, rX9_size_23, rX9_size_26, rX9_size_27, kA_44, kB_44, z11, inn, c, not_true_eq_false, decide_false, bI_f, pCX9_size, pSX9_size, pOX9_size, pLX9_size, pCX9_in, pSX9_in, pOX9_in, pLX9_in, kl_I, kl_J, kl_R, kl_T, kl_N, Nat.le_refl, Nat.zero_le, List.map_nil, List.map_cons, List.sum_nil, List.sum_cons, c_I, c_J, c_R, c_T, va_rf, hI_wI, hJ_wJ, hR_wR, hI_J, hI_R, hJ_I, hJ_R, hR_I, hR_J, hN_I, hN_J, hN_R, wI_I, wJ_J, upd_at, updL_at, kR_s, Option.toList, List.append_nil, List.nil_append, List.cons_append, if_true, if_false, reduceIte, Bool.false_eq_true, not_true_eq_false, not_false_eq_true, true_and, and_true, false_and, and_false, true_or, or_true,  Nat.reduceEqDiff, Nat.reduceAdd, Nat.reduceLeDiff]
    · by_cases c1 : aN (sA S) = 0
      · obtain ⟨F, r⟩ := MI_n I1 c1
        have e : szN S z = 0 := by
          rcases I.2.2.1 with ⟨-, -, n1, n2, n3, n4⟩ | ⟨n1, -⟩
          · have k3 : doN (sA S) (aN (sA S)) = 0 := by rw [c1]; rfl
            have k4 : popc 6 (aPu (sA S)) = 0 := by rw [n1]; decide
            unfold szN
            rw [k3, k4, n2, n3, n4, n1, if_neg z11]
            simp only [aFr, aN, aSp, aGl, aUn, aRu, a0, List.length_nil, nI_0]
            split; rfl
            split; rfl
            split; rfl
            split; rfl
            split; rfl
            split; rfl
            split; rfl
            split; rfl
            split; rfl
            split; rfl
            split; rfl
            rename_i y0 y1 y2 y3 y4 y5 y6 y7 y8 y9 y10
            exfalso
            rcases i32_11 z c with q | q | q | q | q | q | q | q | q | q | q
            · exact y0 q
            · exact y1 q
            · exact y2 q
            · exact y3 q
            · exact y4 q
            · exact y5 q
            · exact y6 q
            · exact y7 q
            · exact y8 q
            · exact y9 q
            · exact y10 q
          · omega
        rw [e]
        generalize th h = g at inn r ⊢
        simp (implicitDefEqProofs := false) only [rX9_size_5, rX9_size_6, rX9_size_8, rX9_size_11, rX9_size_11b, rX9_size_12, rX9_size_15, rX9_size_16, rX9_size_17, rX9_size_18, rX9_size_20, rX9_size_23, rX9_size_26, rX9_size_27, rX9_size_28, rX9_size_28b, rX9_size_29, rX9_size_32, rX9_size_32b, rX9_size_35, rX9_size_36, kA_44, kB_44, z11, inn, c, not_false_eq_true, decide_true, bI_t, show ¬ (1 : Int32) = 0 from by decide, r, pCX9_size, pSX9_size, pOX9_size, pLX9_size, pCX9_in, pSX9_in, pOX9_in, pLX9_in, kl_I, kl_J, kl_R, kl_T, kl_N, Nat.le_refl, Nat.zero_le, List.map_nil, List.map_cons, List.sum_nil, List.sum_cons, c_I, c_J, c_R, c_T, va_rf, hI_wI, hJ_wJ, hR_wR, hI_J, hI_R, hJ_I, hJ_R, hR_I, hR_J, hN_I, hN_J, hN_R, wI_I, wJ_J, upd_at, updL_at, kR_s, Option.toList, List.append_nil, List.nil_append, List.cons_append, if_true, if_false, reduceIte, Bool.false_eq_true, not_true_eq_false, not_false_eq_true, true_and, and_true, false_and, and_false, true_or, or_true,  Nat.reduceEqDiff, Nat.reduceAdd, Nat.reduceLeDiff]
      · obtain ⟨s, k, v, t1, t2, t3, t4, t5, ww⟩ := MI_y I1 c1
        have p1 := (MI_pP I1).1
        have p2 := (MI_pI I1).1
        have hs := k.2.2.1.1
        have F := k.1
        obtain ⟨u0, u1, u2, u3, u4, u5, u6, u7, -⟩ := k.2.2.1.2.2.2.1
        have v9 : vp_in 9 10 := nI_vp (i := 9) (by omega) (by decide)
        have cl9 : (9 : Int32).toNatClampNeg = 9 := rfl
        have v5 := v.2.2.2.2
        have r3 := k.2.1
        generalize th h = g at F hs r3 u0 u1 u2 u3 u4 u5 u6 u7 v5 p1 p2 inn ⊢
        rcases i32_11 z c with q | q | q | q | q | q | q | q | q | q | q
        · subst q
          simp (implicitDefEqProofs := false) only [rX9_size_0, rX9_size_0b, rX9_size_1, rX9_size_2, rX9_size_5, rX9_size_6, rX9_size_8, rX9_size_11, rX9_size_11b, rX9_size_12, rX9_size_15, rX9_size_16, rX9_size_17, rX9_size_18, rX9_size_20, rX9_size_23, rX9_size_26, rX9_size_27, rX9_size_28, rX9_size_28b, rX9_size_29, rX9_size_32, rX9_size_32b, rX9_size_35, rX9_size_36, rX9_size_37, rX9_size_38, rX9_size_92, rX9_size_92b, rX9_size_93, rX9_size_96, rX9_size_99, rX9_size_100, rX9_size_100b, rX9_size_101, rX9_size_104, rX9_size_107, rX9_size_108, rX9_size_108b, rX9_size_109, rX9_size_112, rX9_size_115, rX9_size_116, rX9_size_116b, rX9_size_117, rX9_size_120, rX9_size_123, rX9_size_124, rX9_size_124b, rX9_size_125, rX9_size_128, rX9_size_131, rX9_size_132, rX9_size_132b, rX9_size_133, rX9_size_136, rX9_size_139, rX9_size_140, rX9_size_140b, rX9_size_141, rX9_size_144, rX9_size_147, rX9_size_148, rX9_size_148b, rX9_size_149, rX9_size_152, rX9_size_155, rX9_size_156, rX9_size_156b, rX9_size_157, rX9_size_160, rX9_size_162, rX9_size_163, rX9_size_164, rX9_size_164b, rX9_size_165, rX9_size_168, rX9_size_169, rX9_size_169b, rX9_size_170, rX9_size_173, kA_44, kB_44, kA_46, kB_46, fin_44_5 F, fin_44_15 F, fin_44_16 F, fin_44_17 F, fin_44_18 F, fin_44_21 F, fin_44_23 F, fin_44_24 F, fin_44_25 F, fin_44_29 F, fin_44_33 F, kU0 hs, nU hs, show ¬ (0 : Int32) = 11 from by decide, inn, show ¬ ((0 : Int32) < 0 ∨ 10 < (0 : Int32)) from by decide, not_false_eq_true, decide_true, bI_t, show ¬ (1 : Int32) = 0 from by decide, r3, v9, cl9, v5, u0, u1, u2, u3, u4, u5, u6, u7, p1, p2, szN, swT, Int32.reduceAdd, pCX9_size, pSX9_size, pOX9_size, pLX9_size, pCX9_in, pSX9_in, pOX9_in, pLX9_in, kl_I, kl_J, kl_R, kl_T, kl_N, Nat.le_refl, Nat.zero_le, List.map_nil, List.map_cons, List.sum_nil, List.sum_cons, c_I, c_J, c_R, c_T, va_rf, hI_wI, hJ_wJ, hR_wR, hI_J, hI_R, hJ_I, hJ_R, hR_I, hR_J, hN_I, hN_J, hN_R, wI_I, wJ_J, upd_at, updL_at, kR_s, Option.toList, List.append_nil, List.nil_append, List.cons_append, if_true, if_false, reduceIte, Bool.false_eq_true, not_true_eq_false, not_false_eq_true, true_and, and_true, false_and, and_false, true_or, or_true,  Nat.reduceEqDiff, Nat.reduceAdd, Nat.reduceLeDiff]
        · subst q
          simp (implicitDefEqProofs := false) only [rX9_size_0, rX9_size_0b, rX9_size_1, rX9_size_2, rX9_size_5, rX9_size_6, rX9_size_8, rX9_size_11, rX9_size_11b, rX9_size_12, rX9_size_15, rX9_size_16, rX9_size_17, rX9_size_18, rX9_size_20, rX9_size_23, rX9_size_26, rX9_size_27, rX9_size_28, rX9_size_28b, rX9_size_29, rX9_size_32, rX9_size_32b, rX9_size_35, rX9_size_36, rX9_size_37, rX9_size_38, rX9_size_92, rX9_size_92b, rX9_size_93, rX9_size_96, rX9_size_99, rX9_size_100, rX9_size_100b, rX9_size_101, rX9_size_104, rX9_size_107, rX9_size_108, rX9_size_108b, rX9_size_109, rX9_size_112, rX9_size_115, rX9_size_116, rX9_size_116b, rX9_size_117, rX9_size_120, rX9_size_123, rX9_size_124, rX9_size_124b, rX9_size_125, rX9_size_128, rX9_size_131, rX9_size_132, rX9_size_132b, rX9_size_133, rX9_size_136, rX9_size_139, rX9_size_140, rX9_size_140b, rX9_size_141, rX9_size_144, rX9_size_147, rX9_size_148, rX9_size_148b, rX9_size_149, rX9_size_152, rX9_size_155, rX9_size_156, rX9_size_156b, rX9_size_157, rX9_size_160, rX9_size_162, rX9_size_163, rX9_size_164, rX9_size_164b, rX9_size_165, rX9_size_168, rX9_size_169, rX9_size_169b, rX9_size_170, rX9_size_173, kA_44, kB_44, kA_46, kB_46, fin_44_5 F, fin_44_15 F, fin_44_16 F, fin_44_17 F, fin_44_18 F, fin_44_21 F, fin_44_23 F, fin_44_24 F, fin_44_25 F, fin_44_29 F, fin_44_33 F, kU0 hs, nU hs, show ¬ (1 : Int32) = 11 from by decide, inn, show ¬ ((1 : Int32) < 0 ∨ 10 < (1 : Int32)) from by decide, not_false_eq_true, decide_true, bI_t, show ¬ (1 : Int32) = 0 from by decide, r3, v9, cl9, v5, u0, u1, u2, u3, u4, u5, u6, u7, p1, p2, szN, swT, Int32.reduceAdd, show ¬ (1 : Int32) = 0 from by decide, pCX9_size, pSX9_size, pOX9_size, pLX9_size, pCX9_in, pSX9_in, pOX9_in, pLX9_in, kl_I, kl_J, kl_R, kl_T, kl_N, Nat.le_refl, Nat.zero_le, List.map_nil, List.map_cons, List.sum_nil, List.sum_cons, c_I, c_J, c_R, c_T, va_rf, hI_wI, hJ_wJ, hR_wR, hI_J, hI_R, hJ_I, hJ_R, hR_I, hR_J, hN_I, hN_J, hN_R, wI_I, wJ_J, upd_at, updL_at, kR_s, Option.toList, List.append_nil, List.nil_append, List.cons_append, if_true, if_false, reduceIte, Bool.false_eq_true, not_true_eq_false, not_false_eq_true, true_and, and_true, false_and, and_false, true_or, or_true,  Nat.reduceEqDiff, Nat.reduceAdd, Nat.reduceLeDiff]
        · subst q
          simp (implicitDefEqProofs := false) only [rX9_size_0, rX9_size_0b, rX9_size_1, rX9_size_2, rX9_size_5, rX9_size_6, rX9_size_8, rX9_size_11, rX9_size_11b, rX9_size_12, rX9_size_15, rX9_size_16, rX9_size_17, rX9_size_18, rX9_size_20, rX9_size_23, rX9_size_26, rX9_size_27, rX9_size_28, rX9_size_28b, rX9_size_29, rX9_size_32, rX9_size_32b, rX9_size_35, rX9_size_36, rX9_size_37, rX9_size_38, rX9_size_92, rX9_size_92b, rX9_size_93, rX9_size_96, rX9_size_99, rX9_size_100, rX9_size_100b, rX9_size_101, rX9_size_104, rX9_size_107, rX9_size_108, rX9_size_108b, rX9_size_109, rX9_size_112, rX9_size_115, rX9_size_116, rX9_size_116b, rX9_size_117, rX9_size_120, rX9_size_123, rX9_size_124, rX9_size_124b, rX9_size_125, rX9_size_128, rX9_size_131, rX9_size_132, rX9_size_132b, rX9_size_133, rX9_size_136, rX9_size_139, rX9_size_140, rX9_size_140b, rX9_size_141, rX9_size_144, rX9_size_147, rX9_size_148, rX9_size_148b, rX9_size_149, rX9_size_152, rX9_size_155, rX9_size_156, rX9_size_156b, rX9_size_157, rX9_size_160, rX9_size_162, rX9_size_163, rX9_size_164, rX9_size_164b, rX9_size_165, rX9_size_168, rX9_size_169, rX9_size_169b, rX9_size_170, rX9_size_173, kA_44, kB_44, kA_46, kB_46, fin_44_5 F, fin_44_15 F, fin_44_16 F, fin_44_17 F, fin_44_18 F, fin_44_21 F, fin_44_23 F, fin_44_24 F, fin_44_25 F, fin_44_29 F, fin_44_33 F, kU0 hs, nU hs, show ¬ (2 : Int32) = 11 from by decide, inn, show ¬ ((2 : Int32) < 0 ∨ 10 < (2 : Int32)) from by decide, not_false_eq_true, decide_true, bI_t, show ¬ (1 : Int32) = 0 from by decide, r3, v9, cl9, v5, u0, u1, u2, u3, u4, u5, u6, u7, p1, p2, szN, swT, Int32.reduceAdd, show ¬ (2 : Int32) = 0 from by decide, show ¬ (2 : Int32) = 1 from by decide, pCX9_size, pSX9_size, pOX9_size, pLX9_size, pCX9_in, pSX9_in, pOX9_in, pLX9_in, kl_I, kl_J, kl_R, kl_T, kl_N, Nat.le_refl, Nat.zero_le, List.map_nil, List.map_cons, List.sum_nil, List.sum_cons, c_I, c_J, c_R, c_T, va_rf, hI_wI, hJ_wJ, hR_wR, hI_J, hI_R, hJ_I, hJ_R, hR_I, hR_J, hN_I, hN_J, hN_R, wI_I, wJ_J, upd_at, updL_at, kR_s, Option.toList, List.append_nil, List.nil_append, List.cons_append, if_true, if_false, reduceIte, Bool.false_eq_true, not_true_eq_false, not_false_eq_true, true_and, and_true, false_and, and_false, true_or, or_true,  Nat.reduceEqDiff, Nat.reduceAdd, Nat.reduceLeDiff]
        · subst q
          simp (implicitDefEqProofs := false) only [rX9_size_0, rX9_size_0b, rX9_size_1, rX9_size_2, rX9_size_5, rX9_size_6, rX9_size_8, rX9_size_11, rX9_size_11b, rX9_size_12, rX9_size_15, rX9_size_16, rX9_size_17, rX9_size_18, rX9_size_20, rX9_size_23, rX9_size_26, rX9_size_27, rX9_size_28, rX9_size_28b, rX9_size_29, rX9_size_32, rX9_size_32b, rX9_size_35, rX9_size_36, rX9_size_37, rX9_size_38, rX9_size_92, rX9_size_92b, rX9_size_93, rX9_size_96, rX9_size_99, rX9_size_100, rX9_size_100b, rX9_size_101, rX9_size_104, rX9_size_107, rX9_size_108, rX9_size_108b, rX9_size_109, rX9_size_112, rX9_size_115, rX9_size_116, rX9_size_116b, rX9_size_117, rX9_size_120, rX9_size_123, rX9_size_124, rX9_size_124b, rX9_size_125, rX9_size_128, rX9_size_131, rX9_size_132, rX9_size_132b, rX9_size_133, rX9_size_136, rX9_size_139, rX9_size_140, rX9_size_140b, rX9_size_141, rX9_size_144, rX9_size_147, rX9_size_148, rX9_size_148b, rX9_size_149, rX9_size_152, rX9_size_155, rX9_size_156, rX9_size_156b, rX9_size_157, rX9_size_160, rX9_size_162, rX9_size_163, rX9_size_164, rX9_size_164b, rX9_size_165, rX9_size_168, rX9_size_169, rX9_size_169b, rX9_size_170, rX9_size_173, kA_44, kB_44, kA_46, kB_46, fin_44_5 F, fin_44_15 F, fin_44_16 F, fin_44_17 F, fin_44_18 F, fin_44_21 F, fin_44_23 F, fin_44_24 F, fin_44_25 F, fin_44_29 F, fin_44_33 F, kU0 hs, nU hs, show ¬ (3 : Int32) = 11 from by decide, inn, show ¬ ((3 : Int32) < 0 ∨ 10 < (3 : Int32)) from by decide, not_false_eq_true, decide_true, bI_t, show ¬ (1 : Int32) = 0 from by decide, r3, v9, cl9, v5, u0, u1, u2, u3, u4, u5, u6, u7, p1, p2, szN, swT, Int32.reduceAdd, show ¬ (3 : Int32) = 0 from by decide, show ¬ (3 : Int32) = 1 from by decide, show ¬ (3 : Int32) = 2 from by decide, pCX9_size, pSX9_size, pOX9_size, pLX9_size, pCX9_in, pSX9_in, pOX9_in, pLX9_in, kl_I, kl_J, kl_R, kl_T, kl_N, Nat.le_refl, Nat.zero_le, List.map_nil, List.map_cons, List.sum_nil, List.sum_cons, c_I, c_J, c_R, c_T, va_rf, hI_wI, hJ_wJ, hR_wR, hI_J, hI_R, hJ_I, hJ_R, hR_I, hR_J, hN_I, hN_J, hN_R, wI_I, wJ_J, upd_at, updL_at, kR_s, Option.toList, List.append_nil, List.nil_append, List.cons_append, if_true, if_false, reduceIte, Bool.false_eq_true, not_true_eq_false, not_false_eq_true, true_and, and_true, false_and, and_false, true_or, or_true,  Nat.reduceEqDiff, Nat.reduceAdd, Nat.reduceLeDiff]
        · subst q
          simp (implicitDefEqProofs := false) only [rX9_size_0, rX9_size_0b, rX9_size_1, rX9_size_2, rX9_size_5, rX9_size_6, rX9_size_8, rX9_size_11, rX9_size_11b, rX9_size_12, rX9_size_15, rX9_size_16, rX9_size_17, rX9_size_18, rX9_size_20, rX9_size_23, rX9_size_26, rX9_size_27, rX9_size_28, rX9_size_28b, rX9_size_29, rX9_size_32, rX9_size_32b, rX9_size_35, rX9_size_36, rX9_size_37, rX9_size_38, rX9_size_92, rX9_size_92b, rX9_size_93, rX9_size_96, rX9_size_99, rX9_size_100, rX9_size_100b, rX9_size_101, rX9_size_104, rX9_size_107, rX9_size_108, rX9_size_108b, rX9_size_109, rX9_size_112, rX9_size_115, rX9_size_116, rX9_size_116b, rX9_size_117, rX9_size_120, rX9_size_123, rX9_size_124, rX9_size_124b, rX9_size_125, rX9_size_128, rX9_size_131, rX9_size_132, rX9_size_132b, rX9_size_133, rX9_size_136, rX9_size_139, rX9_size_140, rX9_size_140b, rX9_size_141, rX9_size_144, rX9_size_147, rX9_size_148, rX9_size_148b, rX9_size_149, rX9_size_152, rX9_size_155, rX9_size_156, rX9_size_156b, rX9_size_157, rX9_size_160, rX9_size_162, rX9_size_163, rX9_size_164, rX9_size_164b, rX9_size_165, rX9_size_168, rX9_size_169, rX9_size_169b, rX9_size_170, rX9_size_173, kA_44, kB_44, kA_46, kB_46, fin_44_5 F, fin_44_15 F, fin_44_16 F, fin_44_17 F, fin_44_18 F, fin_44_21 F, fin_44_23 F, fin_44_24 F, fin_44_25 F, fin_44_29 F, fin_44_33 F, kU0 hs, nU hs, show ¬ (4 : Int32) = 11 from by decide, inn, show ¬ ((4 : Int32) < 0 ∨ 10 < (4 : Int32)) from by decide, not_false_eq_true, decide_true, bI_t, show ¬ (1 : Int32) = 0 from by decide, r3, v9, cl9, v5, u0, u1, u2, u3, u4, u5, u6, u7, p1, p2, szN, swT, Int32.reduceAdd, show ¬ (4 : Int32) = 0 from by decide, show ¬ (4 : Int32) = 1 from by decide, show ¬ (4 : Int32) = 2 from by decide, show ¬ (4 : Int32) = 3 from by decide, pCX9_size, pSX9_size, pOX9_size, pLX9_size, pCX9_in, pSX9_in, pOX9_in, pLX9_in, kl_I, kl_J, kl_R, kl_T, kl_N, Nat.le_refl, Nat.zero_le, List.map_nil, List.map_cons, List.sum_nil, List.sum_cons, c_I, c_J, c_R, c_T, va_rf, hI_wI, hJ_wJ, hR_wR, hI_J, hI_R, hJ_I, hJ_R, hR_I, hR_J, hN_I, hN_J, hN_R, wI_I, wJ_J, upd_at, updL_at, kR_s, Option.toList, List.append_nil, List.nil_append, List.cons_append, if_true, if_false, reduceIte, Bool.false_eq_true, not_true_eq_false, not_false_eq_true, true_and, and_true, false_and, and_false, true_or, or_true,  Nat.reduceEqDiff, Nat.reduceAdd, Nat.reduceLeDiff]
        · subst q
          simp (implicitDefEqProofs := false) only [rX9_size_0, rX9_size_0b, rX9_size_1, rX9_size_2, rX9_size_5, rX9_size_6, rX9_size_8, rX9_size_11, rX9_size_11b, rX9_size_12, rX9_size_15, rX9_size_16, rX9_size_17, rX9_size_18, rX9_size_20, rX9_size_23, rX9_size_26, rX9_size_27, rX9_size_28, rX9_size_28b, rX9_size_29, rX9_size_32, rX9_size_32b, rX9_size_35, rX9_size_36, rX9_size_37, rX9_size_38, rX9_size_92, rX9_size_92b, rX9_size_93, rX9_size_96, rX9_size_99, rX9_size_100, rX9_size_100b, rX9_size_101, rX9_size_104, rX9_size_107, rX9_size_108, rX9_size_108b, rX9_size_109, rX9_size_112, rX9_size_115, rX9_size_116, rX9_size_116b, rX9_size_117, rX9_size_120, rX9_size_123, rX9_size_124, rX9_size_124b, rX9_size_125, rX9_size_128, rX9_size_131, rX9_size_132, rX9_size_132b, rX9_size_133, rX9_size_136, rX9_size_139, rX9_size_140, rX9_size_140b, rX9_size_141, rX9_size_144, rX9_size_147, rX9_size_148, rX9_size_148b, rX9_size_149, rX9_size_152, rX9_size_155, rX9_size_156, rX9_size_156b, rX9_size_157, rX9_size_160, rX9_size_162, rX9_size_163, rX9_size_164, rX9_size_164b, rX9_size_165, rX9_size_168, rX9_size_169, rX9_size_169b, rX9_size_170, rX9_size_173, kA_44, kB_44, kA_46, kB_46, fin_44_5 F, fin_44_15 F, fin_44_16 F, fin_44_17 F, fin_44_18 F, fin_44_21 F, fin_44_23 F, fin_44_24 F, fin_44_25 F, fin_44_29 F, fin_44_33 F, kU0 hs, nU hs, show ¬ (5 : Int32) = 11 from by decide, inn, show ¬ ((5 : Int32) < 0 ∨ 10 < (5 : Int32)) from by decide, not_false_eq_true, decide_true, bI_t, show ¬ (1 : Int32) = 0 from by decide, r3, v9, cl9, v5, u0, u1, u2, u3, u4, u5, u6, u7, p1, p2, szN, swT, Int32.reduceAdd, show ¬ (5 : Int32) = 0 from by decide, show ¬ (5 : Int32) = 1 from by decide, show ¬ (5 : Int32) = 2 from by decide, show ¬ (5 : Int32) = 3 from by decide, show ¬ (5 : Int32) = 4 from by decide, pCX9_size, pSX9_size, pOX9_size, pLX9_size, pCX9_in, pSX9_in, pOX9_in, pLX9_in, kl_I, kl_J, kl_R, kl_T, kl_N, Nat.le_refl, Nat.zero_le, List.map_nil, List.map_cons, List.sum_nil, List.sum_cons, c_I, c_J, c_R, c_T, va_rf, hI_wI, hJ_wJ, hR_wR, hI_J, hI_R, hJ_I, hJ_R, hR_I, hR_J, hN_I, hN_J, hN_R, wI_I, wJ_J, upd_at, updL_at, kR_s, Option.toList, List.append_nil, List.nil_append, List.cons_append, if_true, if_false, reduceIte, Bool.false_eq_true, not_true_eq_false, not_false_eq_true, true_and, and_true, false_and, and_false, true_or, or_true,  Nat.reduceEqDiff, Nat.reduceAdd, Nat.reduceLeDiff]
        · subst q
          simp (implicitDefEqProofs := false) only [rX9_size_0, rX9_size_0b, rX9_size_1, rX9_size_2, rX9_size_5, rX9_size_6, rX9_size_8, rX9_size_11, rX9_size_11b, rX9_size_12, rX9_size_15, rX9_size_16, rX9_size_17, rX9_size_18, rX9_size_20, rX9_size_23, rX9_size_26, rX9_size_27, rX9_size_28, rX9_size_28b, rX9_size_29, rX9_size_32, rX9_size_32b, rX9_size_35, rX9_size_36, rX9_size_37, rX9_size_38, rX9_size_92, rX9_size_92b, rX9_size_93, rX9_size_96, rX9_size_99, rX9_size_100, rX9_size_100b, rX9_size_101, rX9_size_104, rX9_size_107, rX9_size_108, rX9_size_108b, rX9_size_109, rX9_size_112, rX9_size_115, rX9_size_116, rX9_size_116b, rX9_size_117, rX9_size_120, rX9_size_123, rX9_size_124, rX9_size_124b, rX9_size_125, rX9_size_128, rX9_size_131, rX9_size_132, rX9_size_132b, rX9_size_133, rX9_size_136, rX9_size_139, rX9_size_140, rX9_size_140b, rX9_size_141, rX9_size_144, rX9_size_147, rX9_size_148, rX9_size_148b, rX9_size_149, rX9_size_152, rX9_size_155, rX9_size_156, rX9_size_156b, rX9_size_157, rX9_size_160, rX9_size_162, rX9_size_163, rX9_size_164, rX9_size_164b, rX9_size_165, rX9_size_168, rX9_size_169, rX9_size_169b, rX9_size_170, rX9_size_173, kA_44, kB_44, kA_46, kB_46, fin_44_5 F, fin_44_15 F, fin_44_16 F, fin_44_17 F, fin_44_18 F, fin_44_21 F, fin_44_23 F, fin_44_24 F, fin_44_25 F, fin_44_29 F, fin_44_33 F, kU0 hs, nU hs, show ¬ (6 : Int32) = 11 from by decide, inn, show ¬ ((6 : Int32) < 0 ∨ 10 < (6 : Int32)) from by decide, not_false_eq_true, decide_true, bI_t, show ¬ (1 : Int32) = 0 from by decide, r3, v9, cl9, v5, u0, u1, u2, u3, u4, u5, u6, u7, p1, p2, szN, swT, Int32.reduceAdd, show ¬ (6 : Int32) = 0 from by decide, show ¬ (6 : Int32) = 1 from by decide, show ¬ (6 : Int32) = 2 from by decide, show ¬ (6 : Int32) = 3 from by decide, show ¬ (6 : Int32) = 4 from by decide, show ¬ (6 : Int32) = 5 from by decide, pCX9_size, pSX9_size, pOX9_size, pLX9_size, pCX9_in, pSX9_in, pOX9_in, pLX9_in, kl_I, kl_J, kl_R, kl_T, kl_N, Nat.le_refl, Nat.zero_le, List.map_nil, List.map_cons, List.sum_nil, List.sum_cons, c_I, c_J, c_R, c_T, va_rf, hI_wI, hJ_wJ, hR_wR, hI_J, hI_R, hJ_I, hJ_R, hR_I, hR_J, hN_I, hN_J, hN_R, wI_I, wJ_J, upd_at, updL_at, kR_s, Option.toList, List.append_nil, List.nil_append, List.cons_append, if_true, if_false, reduceIte, Bool.false_eq_true, not_true_eq_false, not_false_eq_true, true_and, and_true, false_and, and_false, true_or, or_true,  Nat.reduceEqDiff, Nat.reduceAdd, Nat.reduceLeDiff]
        · subst q
          simp (implicitDefEqProofs := false) only [rX9_size_0, rX9_size_0b, rX9_size_1, rX9_size_2, rX9_size_5, rX9_size_6, rX9_size_8, rX9_size_11, rX9_size_11b, rX9_size_12, rX9_size_15, rX9_size_16, rX9_size_17, rX9_size_18, rX9_size_20, rX9_size_23, rX9_size_26, rX9_size_27, rX9_size_28, rX9_size_28b, rX9_size_29, rX9_size_32, rX9_size_32b, rX9_size_35, rX9_size_36, rX9_size_37, rX9_size_38, rX9_size_92, rX9_size_92b, rX9_size_93, rX9_size_96, rX9_size_99, rX9_size_100, rX9_size_100b, rX9_size_101, rX9_size_104, rX9_size_107, rX9_size_108, rX9_size_108b, rX9_size_109, rX9_size_112, rX9_size_115, rX9_size_116, rX9_size_116b, rX9_size_117, rX9_size_120, rX9_size_123, rX9_size_124, rX9_size_124b, rX9_size_125, rX9_size_128, rX9_size_131, rX9_size_132, rX9_size_132b, rX9_size_133, rX9_size_136, rX9_size_139, rX9_size_140, rX9_size_140b, rX9_size_141, rX9_size_144, rX9_size_147, rX9_size_148, rX9_size_148b, rX9_size_149, rX9_size_152, rX9_size_155, rX9_size_156, rX9_size_156b, rX9_size_157, rX9_size_160, rX9_size_162, rX9_size_163, rX9_size_164, rX9_size_164b, rX9_size_165, rX9_size_168, rX9_size_169, rX9_size_169b, rX9_size_170, rX9_size_173, kA_44, kB_44, kA_46, kB_46, fin_44_5 F, fin_44_15 F, fin_44_16 F, fin_44_17 F, fin_44_18 F, fin_44_21 F, fin_44_23 F, fin_44_24 F, fin_44_25 F, fin_44_29 F, fin_44_33 F, kU0 hs, nU hs, show ¬ (7 : Int32) = 11 from by decide, inn, show ¬ ((7 : Int32) < 0 ∨ 10 < (7 : Int32)) from by decide, not_false_eq_true, decide_true, bI_t, show ¬ (1 : Int32) = 0 from by decide, r3, v9, cl9, v5, u0, u1, u2, u3, u4, u5, u6, u7, p1, p2, szN, swT, Int32.reduceAdd, show ¬ (7 : Int32) = 0 from by decide, show ¬ (7 : Int32) = 1 from by decide, show ¬ (7 : Int32) = 2 from by decide, show ¬ (7 : Int32) = 3 from by decide, show ¬ (7 : Int32) = 4 from by decide, show ¬ (7 : Int32) = 5 from by decide, show ¬ (7 : Int32) = 6 from by decide, pCX9_size, pSX9_size, pOX9_size, pLX9_size, pCX9_in, pSX9_in, pOX9_in, pLX9_in, kl_I, kl_J, kl_R, kl_T, kl_N, Nat.le_refl, Nat.zero_le, List.map_nil, List.map_cons, List.sum_nil, List.sum_cons, c_I, c_J, c_R, c_T, va_rf, hI_wI, hJ_wJ, hR_wR, hI_J, hI_R, hJ_I, hJ_R, hR_I, hR_J, hN_I, hN_J, hN_R, wI_I, wJ_J, upd_at, updL_at, kR_s, Option.toList, List.append_nil, List.nil_append, List.cons_append, if_true, if_false, reduceIte, Bool.false_eq_true, not_true_eq_false, not_false_eq_true, true_and, and_true, false_and, and_false, true_or, or_true,  Nat.reduceEqDiff, Nat.reduceAdd, Nat.reduceLeDiff]
        · subst q
          simp (implicitDefEqProofs := false) only [rX9_size_0, rX9_size_0b, rX9_size_1, rX9_size_2, rX9_size_5, rX9_size_6, rX9_size_8, rX9_size_11, rX9_size_11b, rX9_size_12, rX9_size_15, rX9_size_16, rX9_size_17, rX9_size_18, rX9_size_20, rX9_size_23, rX9_size_26, rX9_size_27, rX9_size_28, rX9_size_28b, rX9_size_29, rX9_size_32, rX9_size_32b, rX9_size_35, rX9_size_36, rX9_size_37, rX9_size_38, rX9_size_92, rX9_size_92b, rX9_size_93, rX9_size_96, rX9_size_99, rX9_size_100, rX9_size_100b, rX9_size_101, rX9_size_104, rX9_size_107, rX9_size_108, rX9_size_108b, rX9_size_109, rX9_size_112, rX9_size_115, rX9_size_116, rX9_size_116b, rX9_size_117, rX9_size_120, rX9_size_123, rX9_size_124, rX9_size_124b, rX9_size_125, rX9_size_128, rX9_size_131, rX9_size_132, rX9_size_132b, rX9_size_133, rX9_size_136, rX9_size_139, rX9_size_140, rX9_size_140b, rX9_size_141, rX9_size_144, rX9_size_147, rX9_size_148, rX9_size_148b, rX9_size_149, rX9_size_152, rX9_size_155, rX9_size_156, rX9_size_156b, rX9_size_157, rX9_size_160, rX9_size_162, rX9_size_163, rX9_size_164, rX9_size_164b, rX9_size_165, rX9_size_168, rX9_size_169, rX9_size_169b, rX9_size_170, rX9_size_173, kA_44, kB_44, kA_46, kB_46, fin_44_5 F, fin_44_15 F, fin_44_16 F, fin_44_17 F, fin_44_18 F, fin_44_21 F, fin_44_23 F, fin_44_24 F, fin_44_25 F, fin_44_29 F, fin_44_33 F, kU0 hs, nU hs, show ¬ (8 : Int32) = 11 from by decide, inn, show ¬ ((8 : Int32) < 0 ∨ 10 < (8 : Int32)) from by decide, not_false_eq_true, decide_true, bI_t, show ¬ (1 : Int32) = 0 from by decide, r3, v9, cl9, v5, u0, u1, u2, u3, u4, u5, u6, u7, p1, p2, szN, swT, Int32.reduceAdd, show ¬ (8 : Int32) = 0 from by decide, show ¬ (8 : Int32) = 1 from by decide, show ¬ (8 : Int32) = 2 from by decide, show ¬ (8 : Int32) = 3 from by decide, show ¬ (8 : Int32) = 4 from by decide, show ¬ (8 : Int32) = 5 from by decide, show ¬ (8 : Int32) = 6 from by decide, show ¬ (8 : Int32) = 7 from by decide, pCX9_size, pSX9_size, pOX9_size, pLX9_size, pCX9_in, pSX9_in, pOX9_in, pLX9_in, kl_I, kl_J, kl_R, kl_T, kl_N, Nat.le_refl, Nat.zero_le, List.map_nil, List.map_cons, List.sum_nil, List.sum_cons, c_I, c_J, c_R, c_T, va_rf, hI_wI, hJ_wJ, hR_wR, hI_J, hI_R, hJ_I, hJ_R, hR_I, hR_J, hN_I, hN_J, hN_R, wI_I, wJ_J, upd_at, updL_at, kR_s, Option.toList, List.append_nil, List.nil_append, List.cons_append, if_true, if_false, reduceIte, Bool.false_eq_true, not_true_eq_false, not_false_eq_true, true_and, and_true, false_and, and_false, true_or, or_true,  Nat.reduceEqDiff, Nat.reduceAdd, Nat.reduceLeDiff]
        · subst q
          simp (implicitDefEqProofs := false) only [rX9_size_0, rX9_size_0b, rX9_size_1, rX9_size_2, rX9_size_5, rX9_size_6, rX9_size_8, rX9_size_11, rX9_size_11b, rX9_size_12, rX9_size_15, rX9_size_16, rX9_size_17, rX9_size_18, rX9_size_20, rX9_size_23, rX9_size_26, rX9_size_27, rX9_size_28, rX9_size_28b, rX9_size_29, rX9_size_32, rX9_size_32b, rX9_size_35, rX9_size_36, rX9_size_37, rX9_size_38, rX9_size_92, rX9_size_92b, rX9_size_93, rX9_size_96, rX9_size_99, rX9_size_100, rX9_size_100b, rX9_size_101, rX9_size_104, rX9_size_107, rX9_size_108, rX9_size_108b, rX9_size_109, rX9_size_112, rX9_size_115, rX9_size_116, rX9_size_116b, rX9_size_117, rX9_size_120, rX9_size_123, rX9_size_124, rX9_size_124b, rX9_size_125, rX9_size_128, rX9_size_131, rX9_size_132, rX9_size_132b, rX9_size_133, rX9_size_136, rX9_size_139, rX9_size_140, rX9_size_140b, rX9_size_141, rX9_size_144, rX9_size_147, rX9_size_148, rX9_size_148b, rX9_size_149, rX9_size_152, rX9_size_155, rX9_size_156, rX9_size_156b, rX9_size_157, rX9_size_160, rX9_size_162, rX9_size_163, rX9_size_164, rX9_size_164b, rX9_size_165, rX9_size_168, rX9_size_169, rX9_size_169b, rX9_size_170, rX9_size_173, kA_44, kB_44, kA_46, kB_46, fin_44_5 F, fin_44_15 F, fin_44_16 F, fin_44_17 F, fin_44_18 F, fin_44_21 F, fin_44_23 F, fin_44_24 F, fin_44_25 F, fin_44_29 F, fin_44_33 F, kU0 hs, nU hs, show ¬ (9 : Int32) = 11 from by decide, inn, show ¬ ((9 : Int32) < 0 ∨ 10 < (9 : Int32)) from by decide, not_false_eq_true, decide_true, bI_t, show ¬ (1 : Int32) = 0 from by decide, r3, v9, cl9, v5, u0, u1, u2, u3, u4, u5, u6, u7, p1, p2, szN, swT, Int32.reduceAdd, show ¬ (9 : Int32) = 0 from by decide, show ¬ (9 : Int32) = 1 from by decide, show ¬ (9 : Int32) = 2 from by decide, show ¬ (9 : Int32) = 3 from by decide, show ¬ (9 : Int32) = 4 from by decide, show ¬ (9 : Int32) = 5 from by decide, show ¬ (9 : Int32) = 6 from by decide, show ¬ (9 : Int32) = 7 from by decide, show ¬ (9 : Int32) = 8 from by decide, pCX9_size, pSX9_size, pOX9_size, pLX9_size, pCX9_in, pSX9_in, pOX9_in, pLX9_in, kl_I, kl_J, kl_R, kl_T, kl_N, Nat.le_refl, Nat.zero_le, List.map_nil, List.map_cons, List.sum_nil, List.sum_cons, c_I, c_J, c_R, c_T, va_rf, hI_wI, hJ_wJ, hR_wR, hI_J, hI_R, hJ_I, hJ_R, hR_I, hR_J, hN_I, hN_J, hN_R, wI_I, wJ_J, upd_at, updL_at, kR_s, Option.toList, List.append_nil, List.nil_append, List.cons_append, if_true, if_false, reduceIte, Bool.false_eq_true, not_true_eq_false, not_false_eq_true, true_and, and_true, false_and, and_false, true_or, or_true,  Nat.reduceEqDiff, Nat.reduceAdd, Nat.reduceLeDiff]
        · subst q
          simp (implicitDefEqProofs := false) only [rX9_size_0, rX9_size_0b, rX9_size_1, rX9_size_2, rX9_size_5, rX9_size_6, rX9_size_8, rX9_size_11, rX9_size_11b, rX9_size_12, rX9_size_15, rX9_size_16, rX9_size_17, rX9_size_18, rX9_size_20, rX9_size_23, rX9_size_26, rX9_size_27, rX9_size_28, rX9_size_28b, rX9_size_29, rX9_size_32, rX9_size_32b, rX9_size_35, rX9_size_36, rX9_size_37, rX9_size_38, rX9_size_92, rX9_size_92b, rX9_size_93, rX9_size_96, rX9_size_99, rX9_size_100, rX9_size_100b, rX9_size_101, rX9_size_104, rX9_size_107, rX9_size_108, rX9_size_108b, rX9_size_109, rX9_size_112, rX9_size_115, rX9_size_116, rX9_size_116b, rX9_size_117, rX9_size_120, rX9_size_123, rX9_size_124, rX9_size_124b, rX9_size_125, rX9_size_128, rX9_size_131, rX9_size_132, rX9_size_132b, rX9_size_133, rX9_size_136, rX9_size_139, rX9_size_140, rX9_size_140b, rX9_size_141, rX9_size_144, rX9_size_147, rX9_size_148, rX9_size_148b, rX9_size_149, rX9_size_152, rX9_size_155, rX9_size_156, rX9_size_156b, rX9_size_157, rX9_size_160, rX9_size_162, rX9_size_163, rX9_size_164, rX9_size_164b, rX9_size_165, rX9_size_168, rX9_size_169, rX9_size_169b, rX9_size_170, rX9_size_173, kA_44, kB_44, kA_46, kB_46, fin_44_5 F, fin_44_15 F, fin_44_16 F, fin_44_17 F, fin_44_18 F, fin_44_21 F, fin_44_23 F, fin_44_24 F, fin_44_25 F, fin_44_29 F, fin_44_33 F, kU0 hs, nU hs, show ¬ (10 : Int32) = 11 from by decide, inn, show ¬ ((10 : Int32) < 0 ∨ 10 < (10 : Int32)) from by decide, not_false_eq_true, decide_true, bI_t, show ¬ (1 : Int32) = 0 from by decide, r3, v9, cl9, v5, u0, u1, u2, u3, u4, u5, u6, u7, p1, p2, szN, swT, Int32.reduceAdd, show ¬ (10 : Int32) = 0 from by decide, show ¬ (10 : Int32) = 1 from by decide, show ¬ (10 : Int32) = 2 from by decide, show ¬ (10 : Int32) = 3 from by decide, show ¬ (10 : Int32) = 4 from by decide, show ¬ (10 : Int32) = 5 from by decide, show ¬ (10 : Int32) = 6 from by decide, show ¬ (10 : Int32) = 7 from by decide, show ¬ (10 : Int32) = 8 from by decide, show ¬ (10 : Int32) = 9 from by decide, pCX9_size, pSX9_size, pOX9_size, pLX9_size, pCX9_in, pSX9_in, pOX9_in, pLX9_in, kl_I, kl_J, kl_R, kl_T, kl_N, Nat.le_refl, Nat.zero_le, List.map_nil, List.map_cons, List.sum_nil, List.sum_cons, c_I, c_J, c_R, c_T, va_rf, hI_wI, hJ_wJ, hR_wR, hI_J, hI_R, hJ_I, hJ_R, hR_I, hR_J, hN_I, hN_J, hN_R, wI_I, wJ_J, upd_at, updL_at, kR_s, Option.toList, List.append_nil, List.nil_append, List.cons_append, if_true, if_false, reduceIte, Bool.false_eq_true, not_true_eq_false, not_false_eq_true, true_and, and_true, false_and, and_false, true_or, or_true,  Nat.reduceEqDiff, Nat.reduceAdd, Nat.reduceLeDiff]
/-- thrown, told -/
def tw (h : qH) (v : Int32) : qH := wI h 44 (upd (hI h 44) 0 v)
def ldV : Option Nat → Int32
  | none => 0
  | some i => nI i
def ldT : Option Nat → Int32
  | none => 1
  | some _ => 0
theorem i32_d {y n : Int32} : y - n + -1 = y - (n + 1) := by
  apply Int32.toBitVec_inj.mp
  simp only [Int32.toBitVec_add, Int32.toBitVec_sub, Int32.toBitVec_neg]
  rw [BitVec.sub_eq_add_neg, BitVec.sub_eq_add_neg, BitVec.neg_add, BitVec.sub_eq_add_neg, ← BitVec.add_assoc]
theorem i32_e {y n : Int32} : (n = y) = (y - n = 0) := by
  apply propext
  constructor
  · intro q; subst q
    apply Int32.toBitVec_inj.mp
    simp
  · intro q
    have := congrArg Int32.toBitVec q
    simp only [Int32.toBitVec_sub] at this
    apply Int32.toBitVec_inj.mp
    exact (BitVec.sub_eq_iff_eq_add.mp this ▸ by simp)
theorem l_mled {d : Nat} {h : qH} {s t : Nat} {a : aS} {y : Int32} (k : mK h s a) (at0 : atR h a (dayN a t)) {Q : Option (Option Value) → qH → Prop} : ∀ (m i n : Nat), i + m = aN a → n ≤ i → WP d mX9_led (0, 0) 20 [some (.ref (44 : Nat)), some (.int y), some (.int (nI n)), some (.int (nI i))] [] h Q = (match leL a t m i (y - nI n) with
    | none => Q (some (some (.int 0))) (tw h 1)
    | some i => Q (some (some (.int (nI i)))) h) := by
  have hs := k.2.2.1.1
  have h6 := k.2.2.1.2.2.1.1
  have e1 := k.2.2.1.2.2.2.1.2.1
  have F := k.1
  intro m
  induction m with
  | zero =>
    intro i n hi _
    obtain rfl : i = aN a := by omega
    simp (implicitDefEqProofs := false) only [rX9_led_20, rX9_led_20b, rX9_led_21, rX9_led_24, rX9_led_24b, rX9_led_27, rX9_led_28, rX9_led_28b, rX9_led_29, rX9_led_32, rX9_led_35, rX9_led_38, rX9_led_38b, rX9_led_39, rX9_led_42, rX9_led_43, rX9_led_44, rX9_led_47, rX9_led_50, rX9_led_53, rX9_led_54, rX9_led_55, rX9_led_58, rX9_led_59, rX9_led_69, rX9_led_69b, rX9_led_70, rX9_led_71, rX9_led_74, rX9_led_75, kA_44, kB_44, kA_50, kB_50, fin_44_5 F, fin_44_15 F, fin_44_16 F, fin_44_17 F, fin_44_18 F, fin_44_21 F, fin_44_23 F, fin_44_24 F, fin_44_25 F, fin_44_29 F, fin_44_33 F, kU0 hs, nU hs, k.2.1, e1, leL, tw, pCX9_led, pSX9_led, pOX9_led, pLX9_led, Int32.le_refl, kl_I, kl_J, kl_R, kl_T, kl_N, Nat.le_refl, Nat.zero_le, List.map_nil, List.map_cons, List.sum_nil, List.sum_cons, c_I, c_J, c_R, c_T, va_rf, hI_wI, hJ_wJ, hR_wR, hI_J, hI_R, hJ_I, hJ_R, hR_I, hR_J, hN_I, hN_J, hN_R, wI_I, wJ_J, upd_at, updL_at, kR_s, Option.toList, List.append_nil, List.nil_append, List.cons_append, if_true, if_false, reduceIte, Bool.false_eq_true, not_true_eq_false, not_false_eq_true, true_and, and_true, false_and, and_false, true_or, or_true,  Nat.reduceEqDiff, Nat.reduceAdd, Nat.reduceLeDiff]
  | succ m ih =>
    intro i n hi hn
    have hlt : i < aN a := by omega
    have g1 : ¬ nI (aN a) ≤ nI i := nI_ge hlt (by omega)
    have v6 : vp_in (nI i) 6 := nI_vp (by omega) (by decide)
    have cl : (nI i).toNatClampNeg = i := nI_cl (by omega)
    have ti := at0.1 i hlt
    have z1 := n9_b (at0.2.1 i)
    have q2 : (9999 ≤ nI (n9 (dayN a t i))) = (1000 ≤ dayN a t i) := by
      rw [nge (x := n9 (dayN a t i)) (k := 9999) (c := 9999) rfl (by omega) (by omega)]
      unfold n9
      apply propext
      split <;> omega
    rw [leL]
    by_cases c : 1000 ≤ dayN a t i
    · rw [if_pos c]
      by_cases c2 : y - nI n = 0
      · rw [if_pos c2]
        simp (implicitDefEqProofs := false) only [rX9_led_20, rX9_led_20b, rX9_led_21, rX9_led_24, rX9_led_24b, rX9_led_27, rX9_led_28, rX9_led_28b, rX9_led_29, rX9_led_32, rX9_led_35, rX9_led_38, rX9_led_38b, rX9_led_39, rX9_led_42, rX9_led_43, rX9_led_44, rX9_led_47, rX9_led_50, rX9_led_53, rX9_led_54, rX9_led_55, rX9_led_58, rX9_led_59, kA_44, kB_44, kA_50, kB_50, fin_44_5 F, fin_44_15 F, fin_44_16 F, fin_44_17 F, fin_44_18 F, fin_44_21 F, fin_44_23 F, fin_44_24 F, fin_44_25 F, fin_44_29 F, fin_44_33 F, kU0 hs, nU hs, k.2.1, e1, g1, v6, cl, ti, q2, c, i32_e, c2, pCX9_led, pSX9_led, pOX9_led, pLX9_led, kl_I, kl_J, kl_R, kl_T, kl_N, Nat.le_refl, Nat.zero_le, List.map_nil, List.map_cons, List.sum_nil, List.sum_cons, c_I, c_J, c_R, c_T, va_rf, hI_wI, hJ_wJ, hR_wR, hI_J, hI_R, hJ_I, hJ_R, hR_I, hR_J, hN_I, hN_J, hN_R, wI_I, wJ_J, upd_at, updL_at, kR_s, Option.toList, List.append_nil, List.nil_append, List.cons_append, if_true, if_false, reduceIte, Bool.false_eq_true, not_true_eq_false, not_false_eq_true, true_and, and_true, false_and, and_false, true_or, or_true,  Nat.reduceEqDiff, Nat.reduceAdd, Nat.reduceLeDiff]
      · rw [if_neg c2, i32_d, nI_1]
        simp (implicitDefEqProofs := false) only [rX9_led_20, rX9_led_20b, rX9_led_21, rX9_led_24, rX9_led_24b, rX9_led_27, rX9_led_28, rX9_led_28b, rX9_led_29, rX9_led_32, rX9_led_35, rX9_led_38, rX9_led_38b, rX9_led_39, rX9_led_42, rX9_led_43, rX9_led_44, rX9_led_47, rX9_led_50, rX9_led_53, rX9_led_54, rX9_led_55, rX9_led_58, rX9_led_59, kA_44, kB_44, kA_50, kB_50, fin_44_5 F, fin_44_15 F, fin_44_16 F, fin_44_17 F, fin_44_18 F, fin_44_21 F, fin_44_23 F, fin_44_24 F, fin_44_25 F, fin_44_29 F, fin_44_33 F, kU0 hs, nU hs, k.2.1, e1, g1, v6, cl, ti, q2, c, i32_e, c2, pCX9_led, pSX9_led, pOX9_led, pLX9_led, kl_I, kl_J, kl_R, kl_T, kl_N, Nat.le_refl, Nat.zero_le, List.map_nil, List.map_cons, List.sum_nil, List.sum_cons, c_I, c_J, c_R, c_T, va_rf, hI_wI, hJ_wJ, hR_wR, hI_J, hI_R, hJ_I, hJ_R, hR_I, hR_J, hN_I, hN_J, hN_R, wI_I, wJ_J, upd_at, updL_at, kR_s, Option.toList, List.append_nil, List.nil_append, List.cons_append, if_true, if_false, reduceIte, Bool.false_eq_true, not_true_eq_false, not_false_eq_true, true_and, and_true, false_and, and_false, true_or, or_true,  Nat.reduceEqDiff, Nat.reduceAdd, Nat.reduceLeDiff]
        rw [rX9_led_60, nI_1]
        simp (implicitDefEqProofs := false) only [kl_I, kl_J, kl_R, kl_T, kl_N, Nat.le_refl, Nat.zero_le, List.map_nil, List.map_cons, List.sum_nil, List.sum_cons, c_I, c_J, c_R, c_T, va_rf, hI_wI, hJ_wJ, hR_wR, hI_J, hI_R, hJ_I, hJ_R, hR_I, hR_J, hN_I, hN_J, hN_R, wI_I, wJ_J, upd_at, updL_at, kR_s, Option.toList, List.append_nil, List.nil_append, List.cons_append, if_true, if_false, reduceIte, Bool.false_eq_true, not_true_eq_false, not_false_eq_true, true_and, and_true, false_and, and_false, true_or, or_true,  Nat.reduceEqDiff, Nat.reduceAdd, Nat.reduceLeDiff]
        rw [rX9_led_63, nI_1]
        simp (implicitDefEqProofs := false) only [rX9_led_66, kl_I, kl_J, kl_R, kl_T, kl_N, Nat.le_refl, Nat.zero_le, List.map_nil, List.map_cons, List.sum_nil, List.sum_cons, c_I, c_J, c_R, c_T, va_rf, hI_wI, hJ_wJ, hR_wR, hI_J, hI_R, hJ_I, hJ_R, hR_I, hR_J, hN_I, hN_J, hN_R, wI_I, wJ_J, upd_at, updL_at, kR_s, Option.toList, List.append_nil, List.nil_append, List.cons_append, if_true, if_false, reduceIte, Bool.false_eq_true, not_true_eq_false, not_false_eq_true, true_and, and_true, false_and, and_false, true_or, or_true,  Nat.reduceEqDiff, Nat.reduceAdd, Nat.reduceLeDiff]
        exact ih (i + 1) (n + 1) (by omega) (by omega)
    · rw [if_neg c]
      simp (implicitDefEqProofs := false) only [rX9_led_20, rX9_led_20b, rX9_led_21, rX9_led_24, rX9_led_24b, rX9_led_27, rX9_led_28, rX9_led_28b, rX9_led_29, rX9_led_32, rX9_led_35, rX9_led_38, rX9_led_38b, rX9_led_39, rX9_led_42, rX9_led_43, rX9_led_44, rX9_led_47, rX9_led_50, kA_44, kB_44, kA_50, kB_50, fin_44_5 F, fin_44_15 F, fin_44_16 F, fin_44_17 F, fin_44_18 F, fin_44_21 F, fin_44_23 F, fin_44_24 F, fin_44_25 F, fin_44_29 F, fin_44_33 F, kU0 hs, nU hs, k.2.1, e1, g1, v6, cl, ti, q2, c, pCX9_led, pSX9_led, pOX9_led, pLX9_led, kl_I, kl_J, kl_R, kl_T, kl_N, Nat.le_refl, Nat.zero_le, List.map_nil, List.map_cons, List.sum_nil, List.sum_cons, c_I, c_J, c_R, c_T, va_rf, hI_wI, hJ_wJ, hR_wR, hI_J, hI_R, hJ_I, hJ_R, hR_I, hR_J, hN_I, hN_J, hN_R, wI_I, wJ_J, upd_at, updL_at, kR_s, Option.toList, List.append_nil, List.nil_append, List.cons_append, if_true, if_false, reduceIte, Bool.false_eq_true, not_true_eq_false, not_false_eq_true, true_and, and_true, false_and, and_false, true_or, or_true,  Nat.reduceEqDiff, Nat.reduceAdd, Nat.reduceLeDiff]
      rw [rX9_led_63, nI_1]
      simp (implicitDefEqProofs := false) only [rX9_led_66, kl_I, kl_J, kl_R, kl_T, kl_N, Nat.le_refl, Nat.zero_le, List.map_nil, List.map_cons, List.sum_nil, List.sum_cons, c_I, c_J, c_R, c_T, va_rf, hI_wI, hJ_wJ, hR_wR, hI_J, hI_R, hJ_I, hJ_R, hR_I, hR_J, hN_I, hN_J, hN_R, wI_I, wJ_J, upd_at, updL_at, kR_s, Option.toList, List.append_nil, List.nil_append, List.cons_append, if_true, if_false, reduceIte, Bool.false_eq_true, not_true_eq_false, not_false_eq_true, true_and, and_true, false_and, and_false, true_or, or_true,  Nat.reduceEqDiff, Nat.reduceAdd, Nat.reduceLeDiff]
      exact ih (i + 1) n (by omega) (by omega)
theorem MI_tw {h h1 : qH} {S : AS} {v : Int32} (I : MI h S) (k : kp h h1) (en : mEn h1 S) : MI (tw h1 v) S := by
  refine MI_kp I (kp_w k (by decide)) rfl rfl rfl ⟨?_, ?_, ?_⟩
  · unfold tw; rw [hI_wI, if_pos rfl, upd_at, if_neg (by decide)]; exact en.1
  · unfold tw; rw [hI_wI, if_pos rfl, upd_at, if_neg (by decide)]; exact en.2.1
  · unfold tw; rw [hI_wI, if_pos rfl, upd_at, if_neg (by decide)]; exact en.2.2
theorem m_led {d : Nat} {h : qH} {S : AS} {y : Int32} (I : MI h S) : ∃ h', (∀ Q, WM (d + 10) mX9_led [.ref (44 : Nat), .int y] h Q = Q (some (some (.int (ldV (sLed S y))))) h') ∧ mf 0 h h' ∧ MI h' S ∧ hI h' 44 0 = ldT (sLed S y) := by
  have E : ∀ Q, WM (d + 10) mX9_led [.ref (44 : Nat), .int y] h Q = WP (d + 10) mX9_led (0, 0) 5 [some (.ref (44 : Nat)), some (.int y), none, none] [] (th h) Q := fun Q => by simp (implicitDefEqProofs := false) only [eX9_led, rX9_led_0, rX9_led_0b, rX9_led_1, rX9_led_2, kA_44, kB_44, pCX9_led, pSX9_led, pOX9_led, pLX9_led, th, kl_I, kl_J, kl_R, kl_T, kl_N, Nat.le_refl, Nat.zero_le, List.map_nil, List.map_cons, List.sum_nil, List.sum_cons, c_I, c_J, c_R, c_T, va_rf, hI_wI, hJ_wJ, hR_wR, hI_J, hI_R, hJ_I, hJ_R, hR_I, hR_J, hN_I, hN_J, hN_R, wI_I, wJ_J, upd_at, updL_at, kR_s, Option.toList, List.append_nil, List.nil_append, List.cons_append, if_true, if_false, reduceIte, Bool.false_eq_true, not_true_eq_false, not_false_eq_true, true_and, and_true, false_and, and_false, true_or, or_true,  Nat.reduceEqDiff, Nat.reduceAdd, Nat.reduceLeDiff]
  have I1 := MI_th I
  have en := I1.2.2.2.2.2.2.2.2
  have e0 : hI (th h) 44 0 = 0 := by unfold th; rw [hI_wI, if_pos rfl, upd_at, if_pos rfl]
  by_cases c1 : aN (sA S) = 0
  · obtain ⟨F, r⟩ := MI_n I1 c1
    have e : sLed S y = none := by unfold sLed; rw [c1, leL]
    rw [e]
    refine ⟨tw (th h) 1, fun Q => (E Q).trans ?_, kp_mf (kp_w kp_th (by decide)), MI_tw I1 kp_refl en, by unfold tw; rw [hI_wI, if_pos rfl, upd_at, if_pos rfl]; rfl⟩
    generalize th h = g at r ⊢
    simp (implicitDefEqProofs := false) only [rX9_led_5, rX9_led_6, rX9_led_7, rX9_led_7b, rX9_led_8, rX9_led_11, rX9_led_11b, rX9_led_14, rX9_led_14b, rX9_led_15, rX9_led_18, rX9_led_19, rX9_led_20, rX9_led_20b, rX9_led_21, rX9_led_24, rX9_led_24b, rX9_led_69, rX9_led_69b, rX9_led_70, rX9_led_71, rX9_led_74, rX9_led_75, kA_44, kB_44, r, tw, ldV, pCX9_led, pSX9_led, pOX9_led, pLX9_led, kl_I, kl_J, kl_R, kl_T, kl_N, Nat.le_refl, Nat.zero_le, List.map_nil, List.map_cons, List.sum_nil, List.sum_cons, c_I, c_J, c_R, c_T, va_rf, hI_wI, hJ_wJ, hR_wR, hI_J, hI_R, hJ_I, hJ_R, hR_I, hR_J, hN_I, hN_J, hN_R, wI_I, wJ_J, upd_at, updL_at, kR_s, Option.toList, List.append_nil, List.nil_append, List.cons_append, if_true, if_false, reduceIte, Bool.false_eq_true, not_true_eq_false, not_false_eq_true, true_and, and_true, false_and, and_false, true_or, or_true,  Nat.reduceEqDiff, Nat.reduceAdd, Nat.reduceLeDiff]
  · obtain ⟨s, k, v, t1, t2, t3, t4, t5, ww⟩ := MI_y I1 c1
    obtain ⟨h1, f1, x1, u1, a1⟩ := c_finds (d := d + 6) k v
    have k1 := mK_sx k x1 (by decide)
    have kk : kp (th h) h1 := kp_sx x1 (by decide)
    have en1 : mEn h1 S := by
      unfold mEn
      rw [x1.2.2.2 44 (by decide)]
      exact en
    have l := fun Q => l_mled (d := d + 10) (y := y) (Q := Q) k1 a1 (aN (sA S)) 0 0 (by omega) (by omega)
    have y0 : y - nI 0 = y := by rw [nI_0]; apply Int32.toBitVec_inj.mp; simp
    rw [y0] at l
    have st : ∀ Q, WP (d + 10) mX9_led (0, 0) 5 [some (.ref (44 : Nat)), some (.int y), none, none] [] (th h) Q = WP (d + 10) mX9_led (0, 0) 20 [some (.ref (44 : Nat)), some (.int y), some (.int (nI 0)), some (.int (nI 0))] [] h1 Q := fun Q => by
      generalize th h = g at k f1 ⊢
      simp (implicitDefEqProofs := false) only [rX9_led_5, rX9_led_6, rX9_led_7, rX9_led_7b, rX9_led_8, rX9_led_11, rX9_led_11b, rX9_led_14, rX9_led_14b, rX9_led_15, rX9_led_18, rX9_led_19, kA_44, kB_44, k.2.1, f1, nI_0, pCX9_led, pSX9_led, pOX9_led, pLX9_led, pCX9_finds, pSX9_finds, pOX9_finds, pLX9_finds, kl_I, kl_J, kl_R, kl_T, kl_N, Nat.le_refl, Nat.zero_le, List.map_nil, List.map_cons, List.sum_nil, List.sum_cons, c_I, c_J, c_R, c_T, va_rf, hI_wI, hJ_wJ, hR_wR, hI_J, hI_R, hJ_I, hJ_R, hR_I, hR_J, hN_I, hN_J, hN_R, wI_I, wJ_J, upd_at, updL_at, kR_s, Option.toList, List.append_nil, List.nil_append, List.cons_append, if_true, if_false, reduceIte, Bool.false_eq_true, not_true_eq_false, not_false_eq_true, true_and, and_true, false_and, and_false, true_or, or_true,  Nat.reduceEqDiff, Nat.reduceAdd, Nat.reduceLeDiff]
    cases hl : sLed S y with
    | none =>
      have hl' : leL (sA S) (sX S).1 (aN (sA S)) 0 y = none := hl
      refine ⟨tw h1 1, fun Q => by rw [E, st, l, hl']; rfl, kp_mf (kp_w (kp_tr kp_th kk) (by decide)), MI_tw I1 kk en1, by unfold tw; rw [hI_wI, if_pos rfl, upd_at, if_pos rfl]; rfl⟩
    | some i =>
      have hl' : leL (sA S) (sX S).1 (aN (sA S)) 0 y = some i := hl
      refine ⟨h1, fun Q => by rw [E, st, l, hl']; rfl, kp_mf (kp_tr kp_th kk), MI_kp I1 kk rfl rfl rfl en1, ?_⟩
      rw [x1.2.2.2 44 (by decide)]
      exact e0
theorem m_thrown {d : Nat} {h : qH} : ∀ Q, WM d mX9_thrown [.ref (44 : Nat)] h Q = Q (some (some (.int (hI h 44 0)))) h := by
  intro Q
  simp (implicitDefEqProofs := false) only [eX9_thrown, rX9_thrown_0, rX9_thrown_0b, rX9_thrown_1, rX9_thrown_4, kA_44, kB_44, pCX9_thrown, pSX9_thrown, pOX9_thrown, pLX9_thrown, kl_I, kl_J, kl_R, kl_T, kl_N, Nat.le_refl, Nat.zero_le, List.map_nil, List.map_cons, List.sum_nil, List.sum_cons, c_I, c_J, c_R, c_T, va_rf, hI_wI, hJ_wJ, hR_wR, hI_J, hI_R, hJ_I, hJ_R, hR_I, hR_J, hN_I, hN_J, hN_R, wI_I, wJ_J, upd_at, updL_at, kR_s, Option.toList, List.append_nil, List.nil_append, List.cons_append, if_true, if_false, reduceIte, Bool.false_eq_true, not_true_eq_false, not_false_eq_true, true_and, and_true, false_and, and_false, true_or, or_true,  Nat.reduceEqDiff, Nat.reduceAdd, Nat.reduceLeDiff]
