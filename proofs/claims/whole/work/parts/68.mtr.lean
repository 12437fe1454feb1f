/-! ===== the model: fits, days to try ===== -/
theorem m_fits {d : Nat} {h : qH} {S : AS} (I : MI h S) : ms 0 (d + 10) mX9_fits [.ref (44 : Nat)] h (trS S (sFits S).1) (some (.int (sFits S).2)) := by
  have E : ∀ Q, WM (d + 10) mX9_fits [.ref (44 : Nat)] h Q = WP (d + 10) mX9_fits (0, 0) 5 [some (.ref (44 : Nat))] [] (th h) Q := fun Q => by simp (implicitDefEqProofs := false) only [eX9_fits, rX9_fits_0, rX9_fits_0b, rX9_fits_1, rX9_fits_2, kA_44, kB_44, pCX9_fits, pSX9_fits, pOX9_fits, pLX9_fits, th, kl_I, kl_J, kl_R, kl_T, kl_N, Nat.le_refl, Nat.zero_le, List.map_nil, List.map_cons, List.sum_nil, List.sum_cons, c_I, c_J, c_R, c_T, va_rf, hI_wI, hJ_wJ, hR_wR, hI_J, hI_R, hJ_I, hJ_R, hR_I, hR_J, hN_I, hN_J, hN_R, wI_I, wJ_J, upd_at, updL_at, kR_s, Option.toList, List.append_nil, List.nil_append, List.cons_append, if_true, if_false, reduceIte, Bool.false_eq_true, not_true_eq_false, not_false_eq_true, true_and, and_true, false_and, and_false, true_or, or_true,  Nat.reduceEqDiff, Nat.reduceAdd, Nat.reduceLeDiff]
  rw [sFits]
  by_cases c1 : aN (sA S) = 0
  · rw [if_pos c1]
    refine ms_of (v := 1) I (by decide) E ?_
    obtain ⟨F, r⟩ := MI_n (MI_th I) c1
    generalize th h = g at F r ⊢
    exact ⟨g, fun Q => by simp (implicitDefEqProofs := false) only [rX9_fits_5, rX9_fits_5b, rX9_fits_6, rX9_fits_9, rX9_fits_9b, rX9_fits_12, rX9_fits_12b, rX9_fits_13, rX9_fits_14, rX9_fits_17, kA_44, kB_44, r, c_mrefused, show nI 1 = 1 from rfl, pCX9_fits, pSX9_fits, pOX9_fits, pLX9_fits, pCX9_refused, pSX9_refused, pOX9_refused, pLX9_refused, kl_I, kl_J, kl_R, kl_T, kl_N, Nat.le_refl, Nat.zero_le, List.map_nil, List.map_cons, List.sum_nil, List.sum_cons, c_I, c_J, c_R, c_T, va_rf, hI_wI, hJ_wJ, hR_wR, hI_J, hI_R, hJ_I, hJ_R, hR_I, hR_J, hN_I, hN_J, hN_R, wI_I, wJ_J, upd_at, updL_at, kR_s, Option.toList, List.append_nil, List.nil_append, List.cons_append, if_true, if_false, reduceIte, Bool.false_eq_true, not_true_eq_false, not_false_eq_true, true_and, and_true, false_and, and_false, true_or, or_true,  Nat.reduceEqDiff, Nat.reduceAdd, Nat.reduceLeDiff], kp_refl⟩
  · rw [if_neg c1]
    refine ms_of (v := 0) I (by decide) E ?_
    have I1 := MI_th I
    obtain ⟨s, k, v, t1, t2, t3, t4, t5, ww⟩ := MI_y I1 c1
    generalize th h = g at k v ⊢
    clear E I I1
    have h6 := ww.1
    have F := k.1
    have hs := k.2.2.1.1
    have f := k.2.2.1.2.1
    obtain ⟨h1, e1, k1, f1⟩ := c_fitting (d := d + 5) (y := -1) k
    refine ⟨h1, fun Q => ?_, k1⟩
    simp (implicitDefEqProofs := false) only [rX9_fits_5, rX9_fits_5b, rX9_fits_6, rX9_fits_9, rX9_fits_9b, rX9_fits_12, rX9_fits_12b, rX9_fits_13, rX9_fits_14, rX9_fits_17, rX9_fits_18, rX9_fits_18b, rX9_fits_19, rX9_fits_20, rX9_fits_23, rX9_fits_23b, rX9_fits_24, rX9_fits_24b, rX9_fits_25, rX9_fits_28, rX9_fits_31, kA_44, kB_44, k.2.1, e1, f1.1, c_mgood, nI_0, pCX9_fits, pSX9_fits, pOX9_fits, pLX9_fits, pCX9_fitting, pSX9_fitting, pOX9_fitting, pLX9_fitting, pCX9_good, pSX9_good, pOX9_good, pLX9_good, kl_I, kl_J, kl_R, kl_T, kl_N, Nat.le_refl, Nat.zero_le, List.map_nil, List.map_cons, List.sum_nil, List.sum_cons, c_I, c_J, c_R, c_T, va_rf, hI_wI, hJ_wJ, hR_wR, hI_J, hI_R, hJ_I, hJ_R, hR_I, hR_J, hN_I, hN_J, hN_R, wI_I, wJ_J, upd_at, updL_at, kR_s, Option.toList, List.append_nil, List.nil_append, List.cons_append, if_true, if_false, reduceIte, Bool.false_eq_true, not_true_eq_false, not_false_eq_true, true_and, and_true, false_and, and_false, true_or, or_true,  Nat.reduceEqDiff, Nat.reduceAdd, Nat.reduceLeDiff]
theorem m_fitAt {d : Nat} {h : qH} {S : AS} {y z : Int32} (I : MI h S) : ms 0 (d + 10) mX9_fitAt [.ref (44 : Nat), .int y, .int z] h (trS S (sFitAt S y z).1) (some (.int (sFitAt S y z).2)) := by
  have E : ∀ Q, WM (d + 10) mX9_fitAt [.ref (44 : Nat), .int y, .int z] h Q = WP (d + 10) mX9_fitAt (0, 0) 5 [some (.ref (44 : Nat)), some (.int y), some (.int z)] [] (th h) Q := fun Q => by simp (implicitDefEqProofs := false) only [eX9_fitAt, rX9_fitAt_0, rX9_fitAt_0b, rX9_fitAt_1, rX9_fitAt_2, kA_44, kB_44, pCX9_fitAt, pSX9_fitAt, pOX9_fitAt, pLX9_fitAt, th, kl_I, kl_J, kl_R, kl_T, kl_N, Nat.le_refl, Nat.zero_le, List.map_nil, List.map_cons, List.sum_nil, List.sum_cons, c_I, c_J, c_R, c_T, va_rf, hI_wI, hJ_wJ, hR_wR, hI_J, hI_R, hJ_I, hJ_R, hR_I, hR_J, hN_I, hN_J, hN_R, wI_I, wJ_J, upd_at, updL_at, kR_s, Option.toList, List.append_nil, List.nil_append, List.cons_append, if_true, if_false, reduceIte, Bool.false_eq_true, not_true_eq_false, not_false_eq_true, true_and, and_true, false_and, and_false, true_or, or_true,  Nat.reduceEqDiff, Nat.reduceAdd, Nat.reduceLeDiff]
  rw [sFitAt]
  by_cases c1 : aN (sA S) = 0
  · rw [if_pos c1]
    refine ms_of (v := 1) I (by decide) E ?_
    obtain ⟨F, r⟩ := MI_n (MI_th I) c1
    generalize th h = g at F r ⊢
    exact ⟨g, fun Q => by simp (implicitDefEqProofs := false) only [rX9_fitAt_5, rX9_fitAt_5b, rX9_fitAt_6, rX9_fitAt_9, rX9_fitAt_9b, rX9_fitAt_12, rX9_fitAt_13, rX9_fitAt_16, rX9_fitAt_17, rX9_fitAt_20, rX9_fitAt_21, rX9_fitAt_21b, rX9_fitAt_22, rX9_fitAt_25, rX9_fitAt_28, rX9_fitAt_31, rX9_fitAt_31b, rX9_fitAt_32, rX9_fitAt_33, rX9_fitAt_36, kA_44, kB_44, r, c_mrefused, show nI 1 = 1 from rfl, pCX9_fitAt, pSX9_fitAt, pOX9_fitAt, pLX9_fitAt, pCX9_refused, pSX9_refused, pOX9_refused, pLX9_refused, kl_I, kl_J, kl_R, kl_T, kl_N, Nat.le_refl, Nat.zero_le, List.map_nil, List.map_cons, List.sum_nil, List.sum_cons, c_I, c_J, c_R, c_T, va_rf, hI_wI, hJ_wJ, hR_wR, hI_J, hI_R, hJ_I, hJ_R, hR_I, hR_J, hN_I, hN_J, hN_R, wI_I, wJ_J, upd_at, updL_at, kR_s, Option.toList, List.append_nil, List.nil_append, List.cons_append, if_true, if_false, reduceIte, Bool.false_eq_true, not_true_eq_false, not_false_eq_true, true_and, and_true, false_and, and_false, true_or, or_true,  Nat.reduceEqDiff, Nat.reduceAdd, Nat.reduceLeDiff], kp_refl⟩
  · rw [if_neg c1]
    have I1 := MI_th I
    obtain ⟨s, k, v, t1, t2, t3, t4, t5, ww⟩ := MI_y I1 c1
    have u2 := ww.2.2.2.2.2.2.2.2.2.2.1
    have hs := k.2.2.1.1
    have eu := k.2.2.1.2.2.2.1.2.2.2.2.2.2.1
    cases hz : ix z (aUn (sA S)) with
    | none =>
      have key : ms 0 (d + 10) mX9_fitAt [.ref (44 : Nat), .int y, .int z] h (trS S 1) (some (.int (-1))) := by
        refine ms_of (v := 1) I (by decide) E ?_
        generalize th h = g at k eu ⊢
        by_cases cy : y < 0
        · exact ⟨g, fun Q => by simp (implicitDefEqProofs := false) only [rX9_fitAt_5, rX9_fitAt_5b, rX9_fitAt_6, rX9_fitAt_9, rX9_fitAt_9b, rX9_fitAt_12, rX9_fitAt_13, rX9_fitAt_16, rX9_fitAt_17, rX9_fitAt_20, rX9_fitAt_21, rX9_fitAt_21b, rX9_fitAt_22, rX9_fitAt_25, rX9_fitAt_28, rX9_fitAt_31, rX9_fitAt_31b, rX9_fitAt_32, rX9_fitAt_33, rX9_fitAt_36, kA_44, kB_44, k.2.1, cy, c_mrefused, show nI 1 = 1 from rfl, pCX9_fitAt, pSX9_fitAt, pOX9_fitAt, pLX9_fitAt, pCX9_refused, pSX9_refused, pOX9_refused, pLX9_refused, kl_I, kl_J, kl_R, kl_T, kl_N, Nat.le_refl, Nat.zero_le, List.map_nil, List.map_cons, List.sum_nil, List.sum_cons, c_I, c_J, c_R, c_T, va_rf, hI_wI, hJ_wJ, hR_wR, hI_J, hI_R, hJ_I, hJ_R, hR_I, hR_J, hN_I, hN_J, hN_R, wI_I, wJ_J, upd_at, updL_at, kR_s, Option.toList, List.append_nil, List.nil_append, List.cons_append, if_true, if_false, reduceIte, Bool.false_eq_true, not_true_eq_false, not_false_eq_true, true_and, and_true, false_and, and_false, true_or, or_true,  Nat.reduceEqDiff, Nat.reduceAdd, Nat.reduceLeDiff], kp_refl⟩
        · by_cases c2 : z < 0
          · exact ⟨g, fun Q => by simp (implicitDefEqProofs := false) only [rX9_fitAt_5, rX9_fitAt_5b, rX9_fitAt_6, rX9_fitAt_9, rX9_fitAt_9b, rX9_fitAt_12, rX9_fitAt_13, rX9_fitAt_16, rX9_fitAt_17, rX9_fitAt_20, rX9_fitAt_21, rX9_fitAt_21b, rX9_fitAt_22, rX9_fitAt_25, rX9_fitAt_28, rX9_fitAt_31, rX9_fitAt_31b, rX9_fitAt_32, rX9_fitAt_33, rX9_fitAt_36, kA_44, kB_44, k.2.1, cy, c2, c_mrefused, show nI 1 = 1 from rfl, pCX9_fitAt, pSX9_fitAt, pOX9_fitAt, pLX9_fitAt, pCX9_refused, pSX9_refused, pOX9_refused, pLX9_refused, kl_I, kl_J, kl_R, kl_T, kl_N, Nat.le_refl, Nat.zero_le, List.map_nil, List.map_cons, List.sum_nil, List.sum_cons, c_I, c_J, c_R, c_T, va_rf, hI_wI, hJ_wJ, hR_wR, hI_J, hI_R, hJ_I, hJ_R, hR_I, hR_J, hN_I, hN_J, hN_R, wI_I, wJ_J, upd_at, updL_at, kR_s, Option.toList, List.append_nil, List.nil_append, List.cons_append, if_true, if_false, reduceIte, Bool.false_eq_true, not_true_eq_false, not_false_eq_true, true_and, and_true, false_and, and_false, true_or, or_true,  Nat.reduceEqDiff, Nat.reduceAdd, Nat.reduceLeDiff], kp_refl⟩
          · have c3 : ¬ z < nI (aUn (sA S)) := Int32.not_lt.mpr ((ix_n hz).resolve_left c2)
            exact ⟨g, fun Q => by simp (implicitDefEqProofs := false) only [rX9_fitAt_5, rX9_fitAt_5b, rX9_fitAt_6, rX9_fitAt_9, rX9_fitAt_9b, rX9_fitAt_12, rX9_fitAt_13, rX9_fitAt_16, rX9_fitAt_17, rX9_fitAt_20, rX9_fitAt_21, rX9_fitAt_21b, rX9_fitAt_22, rX9_fitAt_25, rX9_fitAt_28, rX9_fitAt_31, rX9_fitAt_31b, rX9_fitAt_32, rX9_fitAt_33, rX9_fitAt_36, kA_44, kB_44, kU0 hs, nU hs, k.2.1, eu, cy, c2, c3, c_mrefused, show nI 1 = 1 from rfl, pCX9_fitAt, pSX9_fitAt, pOX9_fitAt, pLX9_fitAt, pCX9_refused, pSX9_refused, pOX9_refused, pLX9_refused, kl_I, kl_J, kl_R, kl_T, kl_N, Nat.le_refl, Nat.zero_le, List.map_nil, List.map_cons, List.sum_nil, List.sum_cons, c_I, c_J, c_R, c_T, va_rf, hI_wI, hJ_wJ, hR_wR, hI_J, hI_R, hJ_I, hJ_R, hR_I, hR_J, hN_I, hN_J, hN_R, wI_I, wJ_J, upd_at, updL_at, kR_s, Option.toList, List.append_nil, List.nil_append, List.cons_append, if_true, if_false, reduceIte, Bool.false_eq_true, not_true_eq_false, not_false_eq_true, true_and, and_true, false_and, and_false, true_or, or_true,  Nat.reduceEqDiff, Nat.reduceAdd, Nat.reduceLeDiff], kp_refl⟩
      cases ix y (fiL (sA S)).length <;> exact key
    | some j =>
      obtain ⟨rfl, hj⟩ := ix_s (by omega) hz
      have g1 : ¬ nI j < 0 := nI_pos (by omega)
      have g2 : nI j < nI (aUn (sA S)) := (nI_ltI (by omega) (by omega)).mpr hj
      have fl : (fiL (sA S)).length ≤ 11 ^ aUn (sA S) := fiB_len
      have p121 := p11 ww
      by_cases cy : y < 0
      · have e : ix y (fiL (sA S)).length = none := by unfold ix; rw [if_pos (.inl cy)]
        rw [e]
        refine ms_of (v := 1) I (by decide) E ?_
        generalize th h = g at k ⊢
        exact ⟨g, fun Q => by simp (implicitDefEqProofs := false) only [rX9_fitAt_5, rX9_fitAt_5b, rX9_fitAt_6, rX9_fitAt_9, rX9_fitAt_9b, rX9_fitAt_12, rX9_fitAt_13, rX9_fitAt_16, rX9_fitAt_17, rX9_fitAt_20, rX9_fitAt_21, rX9_fitAt_21b, rX9_fitAt_22, rX9_fitAt_25, rX9_fitAt_28, rX9_fitAt_31, rX9_fitAt_31b, rX9_fitAt_32, rX9_fitAt_33, rX9_fitAt_36, kA_44, kB_44, k.2.1, cy, c_mrefused, show nI 1 = 1 from rfl, pCX9_fitAt, pSX9_fitAt, pOX9_fitAt, pLX9_fitAt, pCX9_refused, pSX9_refused, pOX9_refused, pLX9_refused, kl_I, kl_J, kl_R, kl_T, kl_N, Nat.le_refl, Nat.zero_le, List.map_nil, List.map_cons, List.sum_nil, List.sum_cons, c_I, c_J, c_R, c_T, va_rf, hI_wI, hJ_wJ, hR_wR, hI_J, hI_R, hJ_I, hJ_R, hR_I, hR_J, hN_I, hN_J, hN_R, wI_I, wJ_J, upd_at, updL_at, kR_s, Option.toList, List.append_nil, List.nil_append, List.cons_append, if_true, if_false, reduceIte, Bool.false_eq_true, not_true_eq_false, not_false_eq_true, true_and, and_true, false_and, and_false, true_or, or_true,  Nat.reduceEqDiff, Nat.reduceAdd, Nat.reduceLeDiff], kp_refl⟩
      · generalize hg : th h = g at k eu E ⊢
        obtain ⟨h1, e1, k1, f1⟩ := c_fitting (d := d + 5) (y := y) k
        have f2 := f1.2.1
        have km := mK_kq k (kq_kp k1)
        subst hg
        cases hx : ix y (fiL (sA S)).length with
        | none =>
          have f27 : hI h1 44 27 = -1 := by rw [f2]; unfold foI; rw [hx]
          refine ms_of (v := 1) I (by decide) E ?_
          generalize th h = g at k eu e1 k1 ⊢
          exact ⟨h1, fun Q => by simp (implicitDefEqProofs := false) only [rX9_fitAt_5, rX9_fitAt_5b, rX9_fitAt_6, rX9_fitAt_9, rX9_fitAt_9b, rX9_fitAt_12, rX9_fitAt_13, rX9_fitAt_16, rX9_fitAt_17, rX9_fitAt_20, rX9_fitAt_21, rX9_fitAt_21b, rX9_fitAt_22, rX9_fitAt_25, rX9_fitAt_28, rX9_fitAt_37, rX9_fitAt_37b, rX9_fitAt_38, rX9_fitAt_39, rX9_fitAt_42, rX9_fitAt_42b, rX9_fitAt_43, rX9_fitAt_46, rX9_fitAt_47, rX9_fitAt_50, rX9_fitAt_50b, rX9_fitAt_51, rX9_fitAt_52, rX9_fitAt_55, rX9_fitAt_71, kA_44, kB_44, kU0 hs, nU hs, k.2.1, eu, cy, g1, g2, e1, f27, c_mrefused, show nI 1 = 1 from rfl, pCX9_fitAt, pSX9_fitAt, pOX9_fitAt, pLX9_fitAt, pCX9_fitting, pSX9_fitting, pOX9_fitting, pLX9_fitting, pCX9_refused, pSX9_refused, pOX9_refused, pLX9_refused, kl_I, kl_J, kl_R, kl_T, kl_N, Nat.le_refl, Nat.zero_le, List.map_nil, List.map_cons, List.sum_nil, List.sum_cons, c_I, c_J, c_R, c_T, va_rf, hI_wI, hJ_wJ, hR_wR, hI_J, hI_R, hJ_I, hJ_R, hR_I, hR_J, hN_I, hN_J, hN_R, wI_I, wJ_J, upd_at, updL_at, kR_s, Option.toList, List.append_nil, List.nil_append, List.cons_append, if_true, if_false, reduceIte, Bool.false_eq_true, not_true_eq_false, not_false_eq_true, true_and, and_true, false_and, and_false, true_or, or_true,  Nat.reduceEqDiff, Nat.reduceAdd, Nat.reduceLeDiff], k1⟩
        | some i =>
          obtain ⟨rfl, hi⟩ := ix_s (by omega) hx
          have gm : (fiL (sA S)).getD i 0 ∈ fiL (sA S) := getD_in hi
          have gl : (fiL (sA S)).getD i 0 < 11 ^ aUn (sA S) := by
            have := (List.mem_filter.mp gm).1
            exact List.mem_range.mp this
          have f27 : hI h1 44 27 = nI ((fiL (sA S)).getD i 0) := by rw [f2]; unfold foI; rw [hx]
          have nm := nM (x := (fiL (sA S)).getD i 0) (by omega)
          have fd := c_fitDay (d := d + 9) (g := (fiL (sA S)).getD i 0) (u := j) km gl hj
          refine ms_of (v := 0) I (by decide) E ?_
          generalize th h = g at k eu e1 k1 ⊢
          exact ⟨h1, fun Q => by simp (implicitDefEqProofs := false) only [rX9_fitAt_5, rX9_fitAt_5b, rX9_fitAt_6, rX9_fitAt_9, rX9_fitAt_9b, rX9_fitAt_12, rX9_fitAt_13, rX9_fitAt_16, rX9_fitAt_17, rX9_fitAt_20, rX9_fitAt_21, rX9_fitAt_21b, rX9_fitAt_22, rX9_fitAt_25, rX9_fitAt_28, rX9_fitAt_37, rX9_fitAt_37b, rX9_fitAt_38, rX9_fitAt_39, rX9_fitAt_42, rX9_fitAt_42b, rX9_fitAt_43, rX9_fitAt_46, rX9_fitAt_47, rX9_fitAt_58, rX9_fitAt_58b, rX9_fitAt_59, rX9_fitAt_59b, rX9_fitAt_60, rX9_fitAt_60b, rX9_fitAt_61, rX9_fitAt_64, rX9_fitAt_65, rX9_fitAt_68, rX9_fitAt_71, kA_44, kB_44, kU0 hs, nU hs, k.2.1, eu, cy, g1, g2, e1, f27, nm, fd, c_mgood, nI_0, pCX9_fitAt, pSX9_fitAt, pOX9_fitAt, pLX9_fitAt, pCX9_fitting, pSX9_fitting, pOX9_fitting, pLX9_fitting, pCX9_fitDay, pSX9_fitDay, pOX9_fitDay, pLX9_fitDay, pCX9_good, pSX9_good, pOX9_good, pLX9_good, kl_I, kl_J, kl_R, kl_T, kl_N, Nat.le_refl, Nat.zero_le, List.map_nil, List.map_cons, List.sum_nil, List.sum_cons, c_I, c_J, c_R, c_T, va_rf, hI_wI, hJ_wJ, hR_wR, hI_J, hI_R, hJ_I, hJ_R, hR_I, hR_J, hN_I, hN_J, hN_R, wI_I, wJ_J, upd_at, updL_at, kR_s, Option.toList, List.append_nil, List.nil_append, List.cons_append, if_true, if_false, reduceIte, Bool.false_eq_true, not_true_eq_false, not_false_eq_true, true_and, and_true, false_and, and_false, true_or, or_true,  Nat.reduceEqDiff, Nat.reduceAdd, Nat.reduceLeDiff], k1⟩
theorem m_nextBy {d : Nat} {h : qH} {S : AS} {y z : Int32} (I : MI h S) : ms 0 (d + 10) mX9_nextBy [.ref (44 : Nat), .int y, .int z] h (trS S (sNextBy S y z).1) (some (.int (sNextBy S y z).2)) := by
  have E : ∀ Q, WM (d + 10) mX9_nextBy [.ref (44 : Nat), .int y, .int z] h Q = WP (d + 10) mX9_nextBy (0, 0) 5 [some (.ref (44 : Nat)), some (.int y), some (.int z), none] [] (th h) Q := fun Q => by simp (implicitDefEqProofs := false) only [eX9_nextBy, rX9_nextBy_0, rX9_nextBy_0b, rX9_nextBy_1, rX9_nextBy_2, kA_44, kB_44, pCX9_nextBy, pSX9_nextBy, pOX9_nextBy, pLX9_nextBy, th, kl_I, kl_J, kl_R, kl_T, kl_N, Nat.le_refl, Nat.zero_le, List.map_nil, List.map_cons, List.sum_nil, List.sum_cons, c_I, c_J, c_R, c_T, va_rf, hI_wI, hJ_wJ, hR_wR, hI_J, hI_R, hJ_I, hJ_R, hR_I, hR_J, hN_I, hN_J, hN_R, wI_I, wJ_J, upd_at, updL_at, kR_s, Option.toList, List.append_nil, List.nil_append, List.cons_append, if_true, if_false, reduceIte, Bool.false_eq_true, not_true_eq_false, not_false_eq_true, true_and, and_true, false_and, and_false, true_or, or_true,  Nat.reduceEqDiff, Nat.reduceAdd, Nat.reduceLeDiff]
  rw [sNextBy]
  by_cases c1 : aN (sA S) = 0
  · rw [c1, ix0]
    refine ms_of (v := 1) I (by decide) E ?_
    obtain ⟨F, r⟩ := MI_n (MI_th I) c1
    generalize th h = g at F r ⊢
    have rd := c_refusesDay (d := d + 8) (h := g) (b := false) (v := z) (lo := 0)
    rw [bI_f] at rd
    exact ⟨g, fun Q => by simp (implicitDefEqProofs := false) only [rX9_nextBy_5, rX9_nextBy_5b, rX9_nextBy_6, rX9_nextBy_6b, rX9_nextBy_7, rX9_nextBy_8, rX9_nextBy_11, rX9_nextBy_12, rX9_nextBy_13, rX9_nextBy_16, rX9_nextBy_17, rX9_nextBy_18, rX9_nextBy_21, rX9_nextBy_21b, rX9_nextBy_22, rX9_nextBy_23, rX9_nextBy_26, kA_44, kB_44, c_isHouse0 r, rd, c_mrefused, show nI 1 = 1 from rfl, show ¬ (1 : Int32) ≤ 0 from by decide, pCX9_nextBy, pSX9_nextBy, pOX9_nextBy, pLX9_nextBy, pCX9_isHouse, pSX9_isHouse, pOX9_isHouse, pLX9_isHouse, pCX9_refusesDay, pSX9_refusesDay, pOX9_refusesDay, pLX9_refusesDay, pCX9_refused, pSX9_refused, pOX9_refused, pLX9_refused, kl_I, kl_J, kl_R, kl_T, kl_N, Nat.le_refl, Nat.zero_le, List.map_nil, List.map_cons, List.sum_nil, List.sum_cons, c_I, c_J, c_R, c_T, va_rf, hI_wI, hJ_wJ, hR_wR, hI_J, hI_R, hJ_I, hJ_R, hR_I, hR_J, hN_I, hN_J, hN_R, wI_I, wJ_J, upd_at, updL_at, kR_s, Option.toList, List.append_nil, List.nil_append, List.cons_append, if_true, if_false, reduceIte, Bool.false_eq_true, not_true_eq_false, not_false_eq_true, true_and, and_true, false_and, and_false, true_or, or_true,  Nat.reduceEqDiff, Nat.reduceAdd, Nat.reduceLeDiff], kp_refl⟩
  · have I1 := MI_th I
    obtain ⟨s, k, v, t1, t2, t3, t4, t5, ww⟩ := MI_y I1 c1
    have h6 := ww.1
    have ih := c_isHouse (d := d + 9) (y := y) k.2.1 k.2.2.1
    cases hx : ix y (aN (sA S)) with
    | none =>
      rw [hx] at ih
      refine ms_of (v := 1) I (by decide) E ?_
      generalize th h = g at k ih ⊢
      have rd := c_refusesDay (d := d + 8) (h := g) (b := false) (v := z) (lo := 0)
      rw [bI_f] at rd
      exact ⟨g, fun Q => by simp (implicitDefEqProofs := false) only [rX9_nextBy_5, rX9_nextBy_5b, rX9_nextBy_6, rX9_nextBy_6b, rX9_nextBy_7, rX9_nextBy_8, rX9_nextBy_11, rX9_nextBy_12, rX9_nextBy_13, rX9_nextBy_16, rX9_nextBy_17, rX9_nextBy_18, rX9_nextBy_21, rX9_nextBy_21b, rX9_nextBy_22, rX9_nextBy_23, rX9_nextBy_26, kA_44, kB_44, ih, decide_false, bI_f, rd, c_mrefused, show nI 1 = 1 from rfl, show ¬ (1 : Int32) ≤ 0 from by decide, pCX9_nextBy, pSX9_nextBy, pOX9_nextBy, pLX9_nextBy, pCX9_isHouse, pSX9_isHouse, pOX9_isHouse, pLX9_isHouse, pCX9_refusesDay, pSX9_refusesDay, pOX9_refusesDay, pLX9_refusesDay, pCX9_refused, pSX9_refused, pOX9_refused, pLX9_refused, kl_I, kl_J, kl_R, kl_T, kl_N, Nat.le_refl, Nat.zero_le, List.map_nil, List.map_cons, List.sum_nil, List.sum_cons, c_I, c_J, c_R, c_T, va_rf, hI_wI, hJ_wJ, hR_wR, hI_J, hI_R, hJ_I, hJ_R, hR_I, hR_J, hN_I, hN_J, hN_R, wI_I, wJ_J, upd_at, updL_at, kR_s, Option.toList, List.append_nil, List.nil_append, List.cons_append, if_true, if_false, reduceIte, Bool.false_eq_true, not_true_eq_false, not_false_eq_true, true_and, and_true, false_and, and_false, true_or, or_true,  Nat.reduceEqDiff, Nat.reduceAdd, Nat.reduceLeDiff], kp_refl⟩
    | some i =>
      rw [hx] at ih
      obtain ⟨rfl, hi⟩ := ix_s (by omega) hx
      simp only
      have rd := c_refusesDay (d := d + 8) (h := th h) (b := true) (v := z) (lo := 0)
      rw [bI_t] at rd
      by_cases c2 : z < 0 ∨ 90 < z
      · rw [if_pos c2]
        refine ms_of (v := 2) I (by decide) E ?_
        generalize th h = g at k ih rd ⊢
        exact ⟨g, fun Q => by simp (implicitDefEqProofs := false) only [rX9_nextBy_5, rX9_nextBy_5b, rX9_nextBy_6, rX9_nextBy_6b, rX9_nextBy_7, rX9_nextBy_8, rX9_nextBy_11, rX9_nextBy_12, rX9_nextBy_13, rX9_nextBy_16, rX9_nextBy_17, rX9_nextBy_18, rX9_nextBy_21, rX9_nextBy_21b, rX9_nextBy_22, rX9_nextBy_23, rX9_nextBy_26, kA_44, kB_44, ih, reduceCtorEq, decide_true, bI_t, rd, c2, c_mrefused, show nI 2 = 2 from rfl, show ¬ (2 : Int32) ≤ 0 from by decide, Bool.true_eq_false, pCX9_nextBy, pSX9_nextBy, pOX9_nextBy, pLX9_nextBy, pCX9_isHouse, pSX9_isHouse, pOX9_isHouse, pLX9_isHouse, pCX9_refusesDay, pSX9_refusesDay, pOX9_refusesDay, pLX9_refusesDay, pCX9_refused, pSX9_refused, pOX9_refused, pLX9_refused, kl_I, kl_J, kl_R, kl_T, kl_N, Nat.le_refl, Nat.zero_le, List.map_nil, List.map_cons, List.sum_nil, List.sum_cons, c_I, c_J, c_R, c_T, va_rf, hI_wI, hJ_wJ, hR_wR, hI_J, hI_R, hJ_I, hJ_R, hR_I, hR_J, hN_I, hN_J, hN_R, wI_I, wJ_J, upd_at, updL_at, kR_s, Option.toList, List.append_nil, List.nil_append, List.cons_append, if_true, if_false, reduceIte, Bool.false_eq_true, not_true_eq_false, not_false_eq_true, true_and, and_true, false_and, and_false, true_or, or_true,  Nat.reduceEqDiff, Nat.reduceAdd, Nat.reduceLeDiff], kp_refl⟩
      · rw [if_neg c2]
        refine ms_of (v := 0) I (by decide) E ?_
        generalize th h = g at k ih rd ⊢
        obtain ⟨h1, e1, k1, f1⟩ := c_fitting (d := d + 5) (y := -1) k
        have F1 := (mK_kq k (kq_kp k1)).1
        obtain ⟨t, ht, rfl⟩ := dy c2
        rw [nI_cl (by omega)]
        have m7 : 7 * nI t = nI (7 * t) := by rw [show (7 : Int32) = nI 7 from rfl, nI_mul]
        have vx : vp_in (nI (7 * t + i)) 637 := nI_vp (by omega) (by decide)
        have clx : (nI (7 * t + i)).toNatClampNeg = 7 * t + i := nI_cl (by omega)
        have rr := f1.2.2 t ht i (by omega)
        exact ⟨h1, fun Q => by simp (implicitDefEqProofs := false) only [rX9_nextBy_5, rX9_nextBy_5b, rX9_nextBy_6, rX9_nextBy_6b, rX9_nextBy_7, rX9_nextBy_8, rX9_nextBy_11, rX9_nextBy_12, rX9_nextBy_13, rX9_nextBy_16, rX9_nextBy_17, rX9_nextBy_18, rX9_nextBy_27, rX9_nextBy_27b, rX9_nextBy_28, rX9_nextBy_29, rX9_nextBy_32, rX9_nextBy_32b, rX9_nextBy_33, rX9_nextBy_33b, rX9_nextBy_34, rX9_nextBy_37, rX9_nextBy_39, rX9_nextBy_40, rX9_nextBy_41, rX9_nextBy_42, rX9_nextBy_43, rX9_nextBy_44, rX9_nextBy_47, kA_44, kB_44, kA_53, kB_53, fin_44_5 F1, fin_44_15 F1, fin_44_16 F1, fin_44_17 F1, fin_44_18 F1, fin_44_21 F1, fin_44_23 F1, fin_44_24 F1, fin_44_25 F1, fin_44_29 F1, fin_44_33 F1, ih, reduceCtorEq, decide_true, bI_t, rd, c2, Bool.true_eq_false, show (0 : Int32) ≤ 0 from by decide, e1, m7, nI_add, vx, clx, rr, c_mgood, nI_0, pCX9_nextBy, pSX9_nextBy, pOX9_nextBy, pLX9_nextBy, pCX9_isHouse, pSX9_isHouse, pOX9_isHouse, pLX9_isHouse, pCX9_refusesDay, pSX9_refusesDay, pOX9_refusesDay, pLX9_refusesDay, pCX9_fitting, pSX9_fitting, pOX9_fitting, pLX9_fitting, pCX9_good, pSX9_good, pOX9_good, pLX9_good, kl_I, kl_J, kl_R, kl_T, kl_N, Nat.le_refl, Nat.zero_le, List.map_nil, List.map_cons, List.sum_nil, List.sum_cons, c_I, c_J, c_R, c_T, va_rf, hI_wI, hJ_wJ, hR_wR, hI_J, hI_R, hJ_I, hJ_R, hR_I, hR_J, hN_I, hN_J, hN_R, wI_I, wJ_J, upd_at, updL_at, kR_s, Option.toList, List.append_nil, List.nil_append, List.cons_append, if_true, if_false, reduceIte, Bool.false_eq_true, not_true_eq_false, not_false_eq_true, true_and, and_true, false_and, and_false, true_or, or_true,  Nat.reduceEqDiff, Nat.reduceAdd, Nat.reduceLeDiff], k1⟩
theorem l_tr1 {d : Nat} {h : qH} {a : aS} {L : List Nat} {t : Nat} {z1 : Int32} (F : Fin0 (hR h)) (f : FI h a (-1) L) (ht : t ≤ 20) (hl : L.length ≤ 121) {Q : Option (Option Value) → qH → Prop} : ∀ (m p : Nat), p + m = 7 → WP d mX9_tries (0, 0) 34 [some (.ref (44 : Nat)), some (.int z1), some (.int (nI t)), some (.int (nI (mxC (fun p => ctN (lfF a L t) p L.length) p))), some (.int (nI p))] [] h Q = WP d mX9_tries (0, 0) 76 [some (.ref (44 : Nat)), some (.int z1), some (.int (nI t)), some (.int (nI (moN a L t))), some (.int (nI 7))] [] h Q := by
  intro m
  induction m with
  | zero =>
    intro p hp
    obtain rfl : p = 7 := by omega
    simp (implicitDefEqProofs := false) only [rX9_tries_34, rX9_tries_36, rX9_tries_38, rX9_tries_41, rX9_tries_41b, rX9_tries_42, rX9_tries_45, rX9_tries_47, rX9_tries_48, rX9_tries_49, rX9_tries_51, rX9_tries_52, rX9_tries_53, rX9_tries_54, rX9_tries_57, rX9_tries_57b, rX9_tries_58, rX9_tries_61, rX9_tries_63, rX9_tries_64, rX9_tries_65, rX9_tries_67, rX9_tries_68, rX9_tries_69, show (6 : Int32) < nI 7 from by decide, moN, pCX9_tries, pSX9_tries, pOX9_tries, pLX9_tries, kl_I, kl_J, kl_R, kl_T, kl_N, Nat.le_refl, Nat.zero_le, List.map_nil, List.map_cons, List.sum_nil, List.sum_cons, c_I, c_J, c_R, c_T, va_rf, hI_wI, hJ_wJ, hR_wR, hI_J, hI_R, hJ_I, hJ_R, hR_I, hR_J, hN_I, hN_J, hN_R, wI_I, wJ_J, upd_at, updL_at, kR_s, Option.toList, List.append_nil, List.nil_append, List.cons_append, if_true, if_false, reduceIte, Bool.false_eq_true, not_true_eq_false, not_false_eq_true, true_and, and_true, false_and, and_false, true_or, or_true,  Nat.reduceEqDiff, Nat.reduceAdd, Nat.reduceLeDiff]
  | succ m ih =>
    intro p hp
    have g1 : ¬ (6 : Int32) < nI p := by rw [ngt (x := p) (k := 6) (c := 6) rfl (by omega) (by omega)]; omega
    have m7 : 7 * nI t = nI (7 * t) := by rw [show (7 : Int32) = nI 7 from rfl, nI_mul]
    have vx : vp_in (nI (7 * t + p)) 637 := nI_vp (by omega) (by decide)
    have clx : (nI (7 * t + p)).toNatClampNeg = 7 * t + p := nI_cl (by omega)
    have rr := f.2.2 t (by omega) p (by omega)
    have c1 := ctN_le (f := lfF a L t) (p := p) L.length
    have c2 := mxC_le (f := fun p => ctN (lfF a L t) p L.length) (b := L.length) (fun _ => ctN_le _) p
    have i1 := ih (p + 1) (by omega)
    rw [mxC] at i1
    have q1 : (nI (ctN (lfF a L t) p L.length) ≤ nI (mxC (fun p => ctN (lfF a L t) p L.length) p)) = (ctN (lfF a L t) p L.length ≤ mxC (fun p => ctN (lfF a L t) p L.length) p) := propext (nI_leI (by omega) (by omega))
    by_cases c : ctN (lfF a L t) p L.length ≤ mxC (fun p => ctN (lfF a L t) p L.length) p
    · rw [show max (mxC (fun p => ctN (lfF a L t) p L.length) p) (ctN (lfF a L t) p L.length) = mxC (fun p => ctN (lfF a L t) p L.length) p by omega] at i1
      simp (implicitDefEqProofs := false) only [rX9_tries_34, rX9_tries_36, rX9_tries_38, rX9_tries_41, rX9_tries_41b, rX9_tries_42, rX9_tries_45, rX9_tries_47, rX9_tries_48, rX9_tries_49, rX9_tries_51, rX9_tries_52, rX9_tries_53, rX9_tries_54, rX9_tries_57, rX9_tries_57b, rX9_tries_58, rX9_tries_61, rX9_tries_63, rX9_tries_64, rX9_tries_65, rX9_tries_67, rX9_tries_68, rX9_tries_69, kA_44, kB_44, kA_53, kB_53, fin_44_5 F, fin_44_15 F, fin_44_16 F, fin_44_17 F, fin_44_18 F, fin_44_21 F, fin_44_23 F, fin_44_24 F, fin_44_25 F, fin_44_29 F, fin_44_33 F, g1, m7, nI_add, vx, clx, rr, q1, c, pCX9_tries, pSX9_tries, pOX9_tries, pLX9_tries, kl_I, kl_J, kl_R, kl_T, kl_N, Nat.le_refl, Nat.zero_le, List.map_nil, List.map_cons, List.sum_nil, List.sum_cons, c_I, c_J, c_R, c_T, va_rf, hI_wI, hJ_wJ, hR_wR, hI_J, hI_R, hJ_I, hJ_R, hR_I, hR_J, hN_I, hN_J, hN_R, wI_I, wJ_J, upd_at, updL_at, kR_s, Option.toList, List.append_nil, List.nil_append, List.cons_append, if_true, if_false, reduceIte, Bool.false_eq_true, not_true_eq_false, not_false_eq_true, true_and, and_true, false_and, and_false, true_or, or_true,  Nat.reduceEqDiff, Nat.reduceAdd, Nat.reduceLeDiff]
      rw [rX9_tries_70, nI_1]
      simp (implicitDefEqProofs := false) only [rX9_tries_73, kl_I, kl_J, kl_R, kl_T, kl_N, Nat.le_refl, Nat.zero_le, List.map_nil, List.map_cons, List.sum_nil, List.sum_cons, c_I, c_J, c_R, c_T, va_rf, hI_wI, hJ_wJ, hR_wR, hI_J, hI_R, hJ_I, hJ_R, hR_I, hR_J, hN_I, hN_J, hN_R, wI_I, wJ_J, upd_at, updL_at, kR_s, Option.toList, List.append_nil, List.nil_append, List.cons_append, if_true, if_false, reduceIte, Bool.false_eq_true, not_true_eq_false, not_false_eq_true, true_and, and_true, false_and, and_false, true_or, or_true,  Nat.reduceEqDiff, Nat.reduceAdd, Nat.reduceLeDiff]
      exact i1
    · rw [show max (mxC (fun p => ctN (lfF a L t) p L.length) p) (ctN (lfF a L t) p L.length) = ctN (lfF a L t) p L.length by omega] at i1
      simp (implicitDefEqProofs := false) only [rX9_tries_34, rX9_tries_36, rX9_tries_38, rX9_tries_41, rX9_tries_41b, rX9_tries_42, rX9_tries_45, rX9_tries_47, rX9_tries_48, rX9_tries_49, rX9_tries_51, rX9_tries_52, rX9_tries_53, rX9_tries_54, rX9_tries_57, rX9_tries_57b, rX9_tries_58, rX9_tries_61, rX9_tries_63, rX9_tries_64, rX9_tries_65, rX9_tries_67, rX9_tries_68, rX9_tries_69, kA_44, kB_44, kA_53, kB_53, fin_44_5 F, fin_44_15 F, fin_44_16 F, fin_44_17 F, fin_44_18 F, fin_44_21 F, fin_44_23 F, fin_44_24 F, fin_44_25 F, fin_44_29 F, fin_44_33 F, g1, m7, nI_add, vx, clx, rr, q1, c, pCX9_tries, pSX9_tries, pOX9_tries, pLX9_tries, kl_I, kl_J, kl_R, kl_T, kl_N, Nat.le_refl, Nat.zero_le, List.map_nil, List.map_cons, List.sum_nil, List.sum_cons, c_I, c_J, c_R, c_T, va_rf, hI_wI, hJ_wJ, hR_wR, hI_J, hI_R, hJ_I, hJ_R, hR_I, hR_J, hN_I, hN_J, hN_R, wI_I, wJ_J, upd_at, updL_at, kR_s, Option.toList, List.append_nil, List.nil_append, List.cons_append, if_true, if_false, reduceIte, Bool.false_eq_true, not_true_eq_false, not_false_eq_true, true_and, and_true, false_and, and_false, true_or, or_true,  Nat.reduceEqDiff, Nat.reduceAdd, Nat.reduceLeDiff]
      rw [rX9_tries_70, nI_1]
      simp (implicitDefEqProofs := false) only [rX9_tries_73, kl_I, kl_J, kl_R, kl_T, kl_N, Nat.le_refl, Nat.zero_le, List.map_nil, List.map_cons, List.sum_nil, List.sum_cons, c_I, c_J, c_R, c_T, va_rf, hI_wI, hJ_wJ, hR_wR, hI_J, hI_R, hJ_I, hJ_R, hR_I, hR_J, hN_I, hN_J, hN_R, wI_I, wJ_J, upd_at, updL_at, kR_s, Option.toList, List.append_nil, List.nil_append, List.cons_append, if_true, if_false, reduceIte, Bool.false_eq_true, not_true_eq_false, not_false_eq_true, true_and, and_true, false_and, and_false, true_or, or_true,  Nat.reduceEqDiff, Nat.reduceAdd, Nat.reduceLeDiff]
      exact i1
def t28 (h : qH) (v : Int32) : qH := wI h 44 (upd (hI h 44) 28 v)
theorem t28_t {h : qH} {v w : Int32} : t28 (t28 h v) w = t28 h w := by
  unfold t28
  rw [wI_I, hI_wI, if_pos rfl, upd_upd]
theorem FI_28 {h : qH} {a : aS} {y v : Int32} {L : List Nat} (f : FI h a y L) : FI (t28 h v) a y L := by
  unfold t28
  exact FI_mv f (by rw [hI_wI, if_pos rfl, upd_at, if_neg (by decide)]) (by rw [hI_wI, if_pos rfl, upd_at, if_neg (by decide)]) (by rw [hI_wI, if_neg (by decide)])
theorem l_tr2 {d : Nat} {h : qH} {a : aS} {L : List Nat} (F : Fin0 (hR h)) (f : FI h a (-1) L) (hl : L.length ≤ 121) (h0 : 0 < L.length) : ∀ (m t : Nat), t + m = 21 → ∀ (b : Option (Nat × Nat)) (o3 o4 : Option Value), (∀ q, b = some q → q.1 ≤ 20 ∧ q.2 ≤ 121) → ∀ Q, WP d mX9_tries (0, 0) 16 [some (.ref (44 : Nat)), some (.int (oI (b.map (·.1)))), some (.int (nI t)), o3, o4] [] (t28 h (oI (b.map (·.2)))) Q = Q (some (some (.int (oI ((tyL (moN a L) m t b).map (·.1)))))) (t28 h (oI ((tyL (moN a L) m t b).map (·.2)))) := by
  intro m
  induction m with
  | zero =>
    intro t ht b o3 o4 hb Q
    obtain rfl : t = 21 := by omega
    simp (implicitDefEqProofs := false) only [rX9_tries_16, rX9_tries_17, rX9_tries_19, rX9_tries_22, rX9_tries_22b, rX9_tries_23, rX9_tries_26, rX9_tries_29, rX9_tries_30, rX9_tries_31, rX9_tries_32, rX9_tries_106, rX9_tries_107, show (20 : Int32) < nI 21 from by decide, tyL, pCX9_tries, pSX9_tries, pOX9_tries, pLX9_tries, kl_I, kl_J, kl_R, kl_T, kl_N, Nat.le_refl, Nat.zero_le, List.map_nil, List.map_cons, List.sum_nil, List.sum_cons, c_I, c_J, c_R, c_T, va_rf, hI_wI, hJ_wJ, hR_wR, hI_J, hI_R, hJ_I, hJ_R, hR_I, hR_J, hN_I, hN_J, hN_R, wI_I, wJ_J, upd_at, updL_at, kR_s, Option.toList, List.append_nil, List.nil_append, List.cons_append, if_true, if_false, reduceIte, Bool.false_eq_true, not_true_eq_false, not_false_eq_true, true_and, and_true, false_and, and_false, true_or, or_true,  Nat.reduceEqDiff, Nat.reduceAdd, Nat.reduceLeDiff]
  | succ m ih =>
    intro t ht b o3 o4 hb Q
    have g1 : ¬ (20 : Int32) < nI t := by rw [ngt (x := t) (k := 20) (c := 20) rfl (by omega) (by omega)]; omega
    have F1 : Fin0 (hR (t28 h (oI (b.map (·.2))))) := F
    have f1 := FI_28 (v := oI (b.map (·.2))) f
    have r26 := f1.1
    have z0 : ¬ nI L.length ≤ 0 := by rw [nle (x := L.length) (k := 0) (c := 0) rfl (by omega) (by omega)]; omega
    have l1 := fun z1 => l_tr1 (d := d) (h := t28 h (oI (b.map (·.2)))) (t := t) (z1 := z1) (Q := Q) F1 f1 (by omega) hl 7 0 (by omega)
    rw [mxC] at l1
    have mo := moN_le (a := a) (L := L) (y := t)
    have st : ∀ X, WP d mX9_tries (0, 0) 76 [some (.ref (44 : Nat)), some (.int (oI (b.map (·.1)))), some (.int (nI t)), some (.int (nI (moN a L t))), some (.int (nI 7))] [] (t28 h (oI (b.map (·.2)))) Q = X → WP d mX9_tries (0, 0) 16 [some (.ref (44 : Nat)), some (.int (oI (b.map (·.1)))), some (.int (nI t)), o3, o4] [] (t28 h (oI (b.map (·.2)))) Q = X := fun X hX => by
      have l1 := l1 (oI (b.map (·.1)))
      generalize t28 h (oI (b.map (·.2))) = g at r26 l1 hX ⊢
      simp (implicitDefEqProofs := false) only [rX9_tries_16, rX9_tries_17, rX9_tries_19, rX9_tries_22, rX9_tries_22b, rX9_tries_23, rX9_tries_26, rX9_tries_29, rX9_tries_30, rX9_tries_31, rX9_tries_32, kA_44, kB_44, g1, r26, z0, pCX9_tries, pSX9_tries, pOX9_tries, pLX9_tries, kl_I, kl_J, kl_R, kl_T, kl_N, Nat.le_refl, Nat.zero_le, List.map_nil, List.map_cons, List.sum_nil, List.sum_cons, c_I, c_J, c_R, c_T, va_rf, hI_wI, hJ_wJ, hR_wR, hI_J, hI_R, hJ_I, hJ_R, hR_I, hR_J, hN_I, hN_J, hN_R, wI_I, wJ_J, upd_at, updL_at, kR_s, Option.toList, List.append_nil, List.nil_append, List.cons_append, if_true, if_false, reduceIte, Bool.false_eq_true, not_true_eq_false, not_false_eq_true, true_and, and_true, false_and, and_false, true_or, or_true,  Nat.reduceEqDiff, Nat.reduceAdd, Nat.reduceLeDiff]
      rw [← nI_0, l1]
      exact hX
    refine st _ ?_
    cases b with
    | none =>
      rw [show tyL (moN a L) (m + 1) t none = tyL (moN a L) m (t + 1) (some (t, moN a L t)) from rfl]
      simp only [Option.map_none, oI_no]
      have i1 := ih (t + 1) (by omega) (some (t, moN a L t)) (some (.int (nI (moN a L t)))) (some (.int (nI 7))) (fun q hq => by cases hq; simp only; omega) Q
      simp only [Option.map_some, oI_so] at i1
      rw [← t28_t (h := h) (v := -2)] at i1
      simp (implicitDefEqProofs := false) only [rX9_tries_76, rX9_tries_77, rX9_tries_79, rX9_tries_82, rX9_tries_83, rX9_tries_83b, rX9_tries_84, rX9_tries_87, rX9_tries_90, rX9_tries_93, rX9_tries_94, rX9_tries_95, rX9_tries_95b, rX9_tries_96, rX9_tries_97, kA_44, kB_44, pCX9_tries, pSX9_tries, pOX9_tries, pLX9_tries, kl_I, kl_J, kl_R, kl_T, kl_N, Nat.le_refl, Nat.zero_le, List.map_nil, List.map_cons, List.sum_nil, List.sum_cons, c_I, c_J, c_R, c_T, va_rf, hI_wI, hJ_wJ, hR_wR, hI_J, hI_R, hJ_I, hJ_R, hR_I, hR_J, hN_I, hN_J, hN_R, wI_I, wJ_J, upd_at, updL_at, kR_s, Option.toList, List.append_nil, List.nil_append, List.cons_append, if_true, if_false, reduceIte, Bool.false_eq_true, not_true_eq_false, not_false_eq_true, true_and, and_true, false_and, and_false, true_or, or_true,  Nat.reduceEqDiff, Nat.reduceAdd, Nat.reduceLeDiff]
      rw [rX9_tries_100, nI_1]
      simp (implicitDefEqProofs := false) only [rX9_tries_103, kl_I, kl_J, kl_R, kl_T, kl_N, Nat.le_refl, Nat.zero_le, List.map_nil, List.map_cons, List.sum_nil, List.sum_cons, c_I, c_J, c_R, c_T, va_rf, hI_wI, hJ_wJ, hR_wR, hI_J, hI_R, hJ_I, hJ_R, hR_I, hR_J, hN_I, hN_J, hN_R, wI_I, wJ_J, upd_at, updL_at, kR_s, Option.toList, List.append_nil, List.nil_append, List.cons_append, if_true, if_false, reduceIte, Bool.false_eq_true, not_true_eq_false, not_false_eq_true, true_and, and_true, false_and, and_false, true_or, or_true,  Nat.reduceEqDiff, Nat.reduceAdd, Nat.reduceLeDiff]
      exact i1
    | some q =>
      obtain ⟨q1, q2⟩ := hb q rfl
      have nn := nN (x := q.1) (k := 0) (by omega)
      have qc : (nI (moN a L t) < nI q.2) = (moN a L t < q.2) := propext (nI_ltI (by omega) (by omega))
      have r28 : hI (t28 h (nI q.2)) 44 28 = nI q.2 := by unfold t28; rw [hI_wI, if_pos rfl, upd_at, if_pos rfl]
      rw [show tyL (moN a L) (m + 1) t (some q) = tyL (moN a L) m (t + 1) (if moN a L t < q.2 then some (t, moN a L t) else some q) from rfl]
      simp only [Option.map_some, oI_so]
      by_cases c : moN a L t < q.2
      · rw [if_pos c]
        have i1 := ih (t + 1) (by omega) (some (t, moN a L t)) (some (.int (nI (moN a L t)))) (some (.int (nI 7))) (fun q hq => by cases hq; simp only; omega) Q
        simp only [Option.map_some, oI_so] at i1
        rw [← t28_t (h := h) (v := nI q.2)] at i1
        generalize t28 h (nI q.2) = g at r28 i1 ⊢
        simp (implicitDefEqProofs := false) only [rX9_tries_76, rX9_tries_77, rX9_tries_79, rX9_tries_82, rX9_tries_83, rX9_tries_83b, rX9_tries_84, rX9_tries_87, rX9_tries_90, rX9_tries_93, rX9_tries_94, rX9_tries_95, rX9_tries_95b, rX9_tries_96, rX9_tries_97, kA_44, kB_44, nn, r28, qc, c, pCX9_tries, pSX9_tries, pOX9_tries, pLX9_tries, kl_I, kl_J, kl_R, kl_T, kl_N, Nat.le_refl, Nat.zero_le, List.map_nil, List.map_cons, List.sum_nil, List.sum_cons, c_I, c_J, c_R, c_T, va_rf, hI_wI, hJ_wJ, hR_wR, hI_J, hI_R, hJ_I, hJ_R, hR_I, hR_J, hN_I, hN_J, hN_R, wI_I, wJ_J, upd_at, updL_at, kR_s, Option.toList, List.append_nil, List.nil_append, List.cons_append, if_true, if_false, reduceIte, Bool.false_eq_true, not_true_eq_false, not_false_eq_true, true_and, and_true, false_and, and_false, true_or, or_true,  Nat.reduceEqDiff, Nat.reduceAdd, Nat.reduceLeDiff]
        rw [rX9_tries_100, nI_1]
        simp (implicitDefEqProofs := false) only [rX9_tries_103, kl_I, kl_J, kl_R, kl_T, kl_N, Nat.le_refl, Nat.zero_le, List.map_nil, List.map_cons, List.sum_nil, List.sum_cons, c_I, c_J, c_R, c_T, va_rf, hI_wI, hJ_wJ, hR_wR, hI_J, hI_R, hJ_I, hJ_R, hR_I, hR_J, hN_I, hN_J, hN_R, wI_I, wJ_J, upd_at, updL_at, kR_s, Option.toList, List.append_nil, List.nil_append, List.cons_append, if_true, if_false, reduceIte, Bool.false_eq_true, not_true_eq_false, not_false_eq_true, true_and, and_true, false_and, and_false, true_or, or_true,  Nat.reduceEqDiff, Nat.reduceAdd, Nat.reduceLeDiff]
        exact i1
      · rw [if_neg c]
        have i1 := ih (t + 1) (by omega) (some q) (some (.int (nI (moN a L t)))) (some (.int (nI 7))) hb Q
        simp only [Option.map_some, oI_so] at i1
        simp (implicitDefEqProofs := false) only [rX9_tries_76, rX9_tries_77, rX9_tries_79, rX9_tries_82, rX9_tries_83, rX9_tries_83b, rX9_tries_84, rX9_tries_87, rX9_tries_90, kA_44, kB_44, nn, r28, qc, c, pCX9_tries, pSX9_tries, pOX9_tries, pLX9_tries, kl_I, kl_J, kl_R, kl_T, kl_N, Nat.le_refl, Nat.zero_le, List.map_nil, List.map_cons, List.sum_nil, List.sum_cons, c_I, c_J, c_R, c_T, va_rf, hI_wI, hJ_wJ, hR_wR, hI_J, hI_R, hJ_I, hJ_R, hR_I, hR_J, hN_I, hN_J, hN_R, wI_I, wJ_J, upd_at, updL_at, kR_s, Option.toList, List.append_nil, List.nil_append, List.cons_append, if_true, if_false, reduceIte, Bool.false_eq_true, not_true_eq_false, not_false_eq_true, true_and, and_true, false_and, and_false, true_or, or_true,  Nat.reduceEqDiff, Nat.reduceAdd, Nat.reduceLeDiff]
        rw [rX9_tries_100, nI_1]
        simp (implicitDefEqProofs := false) only [rX9_tries_103, kl_I, kl_J, kl_R, kl_T, kl_N, Nat.le_refl, Nat.zero_le, List.map_nil, List.map_cons, List.sum_nil, List.sum_cons, c_I, c_J, c_R, c_T, va_rf, hI_wI, hJ_wJ, hR_wR, hI_J, hI_R, hJ_I, hJ_R, hR_I, hR_J, hN_I, hN_J, hN_R, wI_I, wJ_J, upd_at, updL_at, kR_s, Option.toList, List.append_nil, List.nil_append, List.cons_append, if_true, if_false, reduceIte, Bool.false_eq_true, not_true_eq_false, not_false_eq_true, true_and, and_true, false_and, and_false, true_or, or_true,  Nat.reduceEqDiff, Nat.reduceAdd, Nat.reduceLeDiff]
        exact i1
theorem c_tries {d : Nat} {h : qH} {s : Nat} {a : aS} (k : mK h s a) : ∃ h', (∀ Q, WM (d + 5) mX9_tries [.ref (44 : Nat)] h Q = Q (some (some (.int (oI ((tyN a (fiL a)).map (·.1)))))) h') ∧ kp h h' ∧ hI h' 44 28 = oI ((tyN a (fiL a)).map (·.2)) := by
  obtain ⟨h1, e1, k1, f1⟩ := c_fitting (d := d) (y := -1) k
  have F1 := (mK_kq k (kq_kp k1)).1
  have fl : (fiL a).length ≤ 11 ^ aUn a := fiB_len
  have p121 := p11 k.2.2.1.2.2.1
  refine ⟨t28 h1 (oI ((tyN a (fiL a)).map (·.2))), fun Q => ?_, kp_w k1 (by decide), by unfold t28; rw [hI_wI, if_pos rfl, upd_at, if_pos rfl]⟩
  unfold tyN
  by_cases c : fiL a = []
  · rw [if_pos c]
    have r26 : hI h1 44 26 = 0 := by rw [f1.1, c]; rfl
    simp (implicitDefEqProofs := false) only [eX9_tries, rX9_tries_0, rX9_tries_0b, rX9_tries_1, rX9_tries_2, rX9_tries_5, rX9_tries_7, rX9_tries_8, rX9_tries_8b, rX9_tries_9, rX9_tries_11, rX9_tries_14, rX9_tries_15, rX9_tries_16, rX9_tries_17, rX9_tries_19, rX9_tries_22, rX9_tries_22b, rX9_tries_23, rX9_tries_26, rX9_tries_29, rX9_tries_30, rX9_tries_31, rX9_tries_32, rX9_tries_106, rX9_tries_107, kA_44, kB_44, e1, show ¬ (20 : Int32) < 0 from by decide, r26, Int32.le_refl, Option.map_none, oI_no, t28, pCX9_tries, pSX9_tries, pOX9_tries, pLX9_tries, pCX9_fitting, pSX9_fitting, pOX9_fitting, pLX9_fitting, kl_I, kl_J, kl_R, kl_T, kl_N, Nat.le_refl, Nat.zero_le, List.map_nil, List.map_cons, List.sum_nil, List.sum_cons, c_I, c_J, c_R, c_T, va_rf, hI_wI, hJ_wJ, hR_wR, hI_J, hI_R, hJ_I, hJ_R, hR_I, hR_J, hN_I, hN_J, hN_R, wI_I, wJ_J, upd_at, updL_at, kR_s, Option.toList, List.append_nil, List.nil_append, List.cons_append, if_true, if_false, reduceIte, Bool.false_eq_true, not_true_eq_false, not_false_eq_true, true_and, and_true, false_and, and_false, true_or, or_true,  Nat.reduceEqDiff, Nat.reduceAdd, Nat.reduceLeDiff]
  · rw [if_neg c]
    have l2 := l_tr2 (d := d + 5) F1 f1 (by omega) (by rcases Nat.eq_zero_or_pos (fiL a).length with q | q; exact absurd (List.length_eq_zero_iff.mp q) c; exact q) 21 0 (by omega) none none none (fun q hq => by cases hq) Q
    simp only [Option.map_none, oI_no] at l2
    simp (implicitDefEqProofs := false) only [eX9_tries, rX9_tries_0, rX9_tries_0b, rX9_tries_1, rX9_tries_2, rX9_tries_5, rX9_tries_7, rX9_tries_8, rX9_tries_8b, rX9_tries_9, rX9_tries_11, rX9_tries_14, rX9_tries_15, kA_44, kB_44, e1, pCX9_tries, pSX9_tries, pOX9_tries, pLX9_tries, pCX9_fitting, pSX9_fitting, pOX9_fitting, pLX9_fitting, kl_I, kl_J, kl_R, kl_T, kl_N, Nat.le_refl, Nat.zero_le, List.map_nil, List.map_cons, List.sum_nil, List.sum_cons, c_I, c_J, c_R, c_T, va_rf, hI_wI, hJ_wJ, hR_wR, hI_J, hI_R, hJ_I, hJ_R, hR_I, hR_J, hN_I, hN_J, hN_R, wI_I, wJ_J, upd_at, updL_at, kR_s, Option.toList, List.append_nil, List.nil_append, List.cons_append, if_true, if_false, reduceIte, Bool.false_eq_true, not_true_eq_false, not_false_eq_true, true_and, and_true, false_and, and_false, true_or, or_true,  Nat.reduceEqDiff, Nat.reduceAdd, Nat.reduceLeDiff]
    exact l2
theorem m_tryDay {d : Nat} {h : qH} {S : AS} (I : MI h S) : ms 0 (d + 10) mX9_tryDay [.ref (44 : Nat)] h (trS S (sTryDay S).1) (some (.int (sTryDay S).2)) := by
  have E : ∀ Q, WM (d + 10) mX9_tryDay [.ref (44 : Nat)] h Q = WP (d + 10) mX9_tryDay (0, 0) 5 [some (.ref (44 : Nat))] [] (th h) Q := fun Q => by simp (implicitDefEqProofs := false) only [eX9_tryDay, rX9_tryDay_0, rX9_tryDay_0b, rX9_tryDay_1, rX9_tryDay_2, kA_44, kB_44, pCX9_tryDay, pSX9_tryDay, pOX9_tryDay, pLX9_tryDay, th, kl_I, kl_J, kl_R, kl_T, kl_N, Nat.le_refl, Nat.zero_le, List.map_nil, List.map_cons, List.sum_nil, List.sum_cons, c_I, c_J, c_R, c_T, va_rf, hI_wI, hJ_wJ, hR_wR, hI_J, hI_R, hJ_I, hJ_R, hR_I, hR_J, hN_I, hN_J, hN_R, wI_I, wJ_J, upd_at, updL_at, kR_s, Option.toList, List.append_nil, List.nil_append, List.cons_append, if_true, if_false, reduceIte, Bool.false_eq_true, not_true_eq_false, not_false_eq_true, true_and, and_true, false_and, and_false, true_or, or_true,  Nat.reduceEqDiff, Nat.reduceAdd, Nat.reduceLeDiff]
  rw [sTryDay]
  by_cases c1 : aN (sA S) = 0
  · rw [if_pos c1]
    refine ms_of (v := 1) I (by decide) E ?_
    obtain ⟨F, r⟩ := MI_n (MI_th I) c1
    generalize th h = g at F r ⊢
    exact ⟨g, fun Q => by simp (implicitDefEqProofs := false) only [rX9_tryDay_5, rX9_tryDay_5b, rX9_tryDay_6, rX9_tryDay_9, rX9_tryDay_9b, rX9_tryDay_12, rX9_tryDay_12b, rX9_tryDay_13, rX9_tryDay_14, rX9_tryDay_17, rX9_tryDay_20, rX9_tryDay_20b, rX9_tryDay_21, rX9_tryDay_21b, rX9_tryDay_22, rX9_tryDay_25, rX9_tryDay_28, kA_44, kB_44, r, c_mrefused, show nI 1 = 1 from rfl, pCX9_tryDay, pSX9_tryDay, pOX9_tryDay, pLX9_tryDay, pCX9_refused, pSX9_refused, pOX9_refused, pLX9_refused, kl_I, kl_J, kl_R, kl_T, kl_N, Nat.le_refl, Nat.zero_le, List.map_nil, List.map_cons, List.sum_nil, List.sum_cons, c_I, c_J, c_R, c_T, va_rf, hI_wI, hJ_wJ, hR_wR, hI_J, hI_R, hJ_I, hJ_R, hR_I, hR_J, hN_I, hN_J, hN_R, wI_I, wJ_J, upd_at, updL_at, kR_s, Option.toList, List.append_nil, List.nil_append, List.cons_append, if_true, if_false, reduceIte, Bool.false_eq_true, not_true_eq_false, not_false_eq_true, true_and, and_true, false_and, and_false, true_or, or_true,  Nat.reduceEqDiff, Nat.reduceAdd, Nat.reduceLeDiff], kp_refl⟩
  · rw [if_neg c1]
    refine ms_of (v := 0) I (by decide) E ?_
    have I1 := MI_th I
    obtain ⟨s, k, -⟩ := MI_y I1 c1
    generalize th h = g at k ⊢
    obtain ⟨h1, e1, k1, -⟩ := c_tries (d := d + 4) k
    refine ⟨h1, fun Q => ?_, k1⟩
    simp (implicitDefEqProofs := false) only [rX9_tryDay_5, rX9_tryDay_5b, rX9_tryDay_6, rX9_tryDay_9, rX9_tryDay_9b, rX9_tryDay_12, rX9_tryDay_12b, rX9_tryDay_13, rX9_tryDay_14, rX9_tryDay_17, rX9_tryDay_20, rX9_tryDay_20b, rX9_tryDay_21, rX9_tryDay_21b, rX9_tryDay_22, rX9_tryDay_25, rX9_tryDay_28, kA_44, kB_44, k.2.1, e1, c_mgood, nI_0, pCX9_tryDay, pSX9_tryDay, pOX9_tryDay, pLX9_tryDay, pCX9_tries, pSX9_tries, pOX9_tries, pLX9_tries, pCX9_good, pSX9_good, pOX9_good, pLX9_good, kl_I, kl_J, kl_R, kl_T, kl_N, Nat.le_refl, Nat.zero_le, List.map_nil, List.map_cons, List.sum_nil, List.sum_cons, c_I, c_J, c_R, c_T, va_rf, hI_wI, hJ_wJ, hR_wR, hI_J, hI_R, hJ_I, hJ_R, hR_I, hR_J, hN_I, hN_J, hN_R, wI_I, wJ_J, upd_at, updL_at, kR_s, Option.toList, List.append_nil, List.nil_append, List.cons_append, if_true, if_false, reduceIte, Bool.false_eq_true, not_true_eq_false, not_false_eq_true, true_and, and_true, false_and, and_false, true_or, or_true,  Nat.reduceEqDiff, Nat.reduceAdd, Nat.reduceLeDiff]
theorem m_tryLeaves {d : Nat} {h : qH} {S : AS} (I : MI h S) : ms 0 (d + 10) mX9_tryLeaves [.ref (44 : Nat)] h (trS S (sTryLeaves S).1) (some (.int (sTryLeaves S).2)) := by
  have E : ∀ Q, WM (d + 10) mX9_tryLeaves [.ref (44 : Nat)] h Q = WP (d + 10) mX9_tryLeaves (0, 0) 5 [some (.ref (44 : Nat))] [] (th h) Q := fun Q => by simp (implicitDefEqProofs := false) only [eX9_tryLeaves, rX9_tryLeaves_0, rX9_tryLeaves_0b, rX9_tryLeaves_1, rX9_tryLeaves_2, kA_44, kB_44, pCX9_tryLeaves, pSX9_tryLeaves, pOX9_tryLeaves, pLX9_tryLeaves, th, kl_I, kl_J, kl_R, kl_T, kl_N, Nat.le_refl, Nat.zero_le, List.map_nil, List.map_cons, List.sum_nil, List.sum_cons, c_I, c_J, c_R, c_T, va_rf, hI_wI, hJ_wJ, hR_wR, hI_J, hI_R, hJ_I, hJ_R, hR_I, hR_J, hN_I, hN_J, hN_R, wI_I, wJ_J, upd_at, updL_at, kR_s, Option.toList, List.append_nil, List.nil_append, List.cons_append, if_true, if_false, reduceIte, Bool.false_eq_true, not_true_eq_false, not_false_eq_true, true_and, and_true, false_and, and_false, true_or, or_true,  Nat.reduceEqDiff, Nat.reduceAdd, Nat.reduceLeDiff]
  rw [sTryLeaves]
  by_cases c1 : aN (sA S) = 0
  · rw [if_pos c1]
    refine ms_of (v := 1) I (by decide) E ?_
    obtain ⟨F, r⟩ := MI_n (MI_th I) c1
    generalize th h = g at F r ⊢
    exact ⟨g, fun Q => by simp (implicitDefEqProofs := false) only [rX9_tryLeaves_5, rX9_tryLeaves_5b, rX9_tryLeaves_6, rX9_tryLeaves_9, rX9_tryLeaves_9b, rX9_tryLeaves_12, rX9_tryLeaves_12b, rX9_tryLeaves_13, rX9_tryLeaves_14, rX9_tryLeaves_17, kA_44, kB_44, r, c_mrefused, show nI 1 = 1 from rfl, pCX9_tryLeaves, pSX9_tryLeaves, pOX9_tryLeaves, pLX9_tryLeaves, pCX9_refused, pSX9_refused, pOX9_refused, pLX9_refused, kl_I, kl_J, kl_R, kl_T, kl_N, Nat.le_refl, Nat.zero_le, List.map_nil, List.map_cons, List.sum_nil, List.sum_cons, c_I, c_J, c_R, c_T, va_rf, hI_wI, hJ_wJ, hR_wR, hI_J, hI_R, hJ_I, hJ_R, hR_I, hR_J, hN_I, hN_J, hN_R, wI_I, wJ_J, upd_at, updL_at, kR_s, Option.toList, List.append_nil, List.nil_append, List.cons_append, if_true, if_false, reduceIte, Bool.false_eq_true, not_true_eq_false, not_false_eq_true, true_and, and_true, false_and, and_false, true_or, or_true,  Nat.reduceEqDiff, Nat.reduceAdd, Nat.reduceLeDiff], kp_refl⟩
  · rw [if_neg c1]
    refine ms_of (v := 0) I (by decide) E ?_
    have I1 := MI_th I
    obtain ⟨s, k, v, t1, t2, t3, t4, t5, ww⟩ := MI_y I1 c1
    generalize th h = g at k v ⊢
    clear E I I1
    have h6 := ww.1
    have F := k.1
    have hs := k.2.2.1.1
    have f := k.2.2.1.2.1
    obtain ⟨h1, e1, k1, r28⟩ := c_tries (d := d + 4) k
    refine ⟨h1, fun Q => ?_, k1⟩
    simp (implicitDefEqProofs := false) only [rX9_tryLeaves_5, rX9_tryLeaves_5b, rX9_tryLeaves_6, rX9_tryLeaves_9, rX9_tryLeaves_9b, rX9_tryLeaves_12, rX9_tryLeaves_12b, rX9_tryLeaves_13, rX9_tryLeaves_14, rX9_tryLeaves_17, rX9_tryLeaves_18, rX9_tryLeaves_18b, rX9_tryLeaves_19, rX9_tryLeaves_22, rX9_tryLeaves_23, rX9_tryLeaves_23b, rX9_tryLeaves_24, rX9_tryLeaves_24b, rX9_tryLeaves_25, rX9_tryLeaves_28, rX9_tryLeaves_31, kA_44, kB_44, k.2.1, e1, r28, c_mgood, nI_0, pCX9_tryLeaves, pSX9_tryLeaves, pOX9_tryLeaves, pLX9_tryLeaves, pCX9_tries, pSX9_tries, pOX9_tries, pLX9_tries, pCX9_good, pSX9_good, pOX9_good, pLX9_good, kl_I, kl_J, kl_R, kl_T, kl_N, Nat.le_refl, Nat.zero_le, List.map_nil, List.map_cons, List.sum_nil, List.sum_cons, c_I, c_J, c_R, c_T, va_rf, hI_wI, hJ_wJ, hR_wR, hI_J, hI_R, hJ_I, hJ_R, hR_I, hR_J, hN_I, hN_J, hN_R, wI_I, wJ_J, upd_at, updL_at, kR_s, Option.toList, List.append_nil, List.nil_append, List.cons_append, if_true, if_false, reduceIte, Bool.false_eq_true, not_true_eq_false, not_false_eq_true, true_and, and_true, false_and, and_false, true_or, or_true,  Nat.reduceEqDiff, Nat.reduceAdd, Nat.reduceLeDiff]
