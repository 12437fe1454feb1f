/-! ===== the model's queries: told ===== -/
theorem c_refT0 {d : Nat} {h : qH} {y : Int32} (r : hR h 44 3 = none) : ∀ Q, WM (d + 1) mX9_refusesTold [.ref (44 : Nat), .int y] h Q = Q (some (some (.int 1))) h := by
  intro Q
  simp (implicitDefEqProofs := false) only [eX9_refusesTold, rX9_refusesTold_0, rX9_refusesTold_0b, rX9_refusesTold_1, rX9_refusesTold_2, rX9_refusesTold_5, rX9_refusesTold_8, rX9_refusesTold_9, rX9_refusesTold_10, rX9_refusesTold_10b, rX9_refusesTold_11, rX9_refusesTold_14, rX9_refusesTold_14b, rX9_refusesTold_15, rX9_refusesTold_18, rX9_refusesTold_19, rX9_refusesTold_20, rX9_refusesTold_20b, rX9_refusesTold_21, rX9_refusesTold_24, rX9_refusesTold_26, rX9_refusesTold_27, rX9_refusesTold_30, rX9_refusesTold_31, rX9_refusesTold_34, rX9_refusesTold_35, kA_44, kB_44, c_isHouse0 r, pCX9_refusesTold, pSX9_refusesTold, pOX9_refusesTold, pLX9_refusesTold, pCX9_isHouse, pSX9_isHouse, pOX9_isHouse, pLX9_isHouse, kl_I, kl_J, kl_R, kl_T, kl_N, Nat.le_refl, Nat.zero_le, List.map_nil, List.map_cons, List.sum_nil, List.sum_cons, c_I, c_J, c_R, c_T, va_rf, hI_wI, hJ_wJ, hR_wR, hI_J, hI_R, hJ_I, hJ_R, hR_I, hR_J, hN_I, hN_J, hN_R, wI_I, wJ_J, upd_at, updL_at, kR_s, Option.toList, List.append_nil, List.nil_append, List.cons_append, if_true, if_false, reduceIte, Bool.false_eq_true, not_true_eq_false, not_false_eq_true, true_and, and_true, false_and, and_false, true_or, or_true,  Nat.reduceEqDiff, Nat.reduceAdd, Nat.reduceLeDiff]
theorem c_refT1 {d : Nat} {h : qH} {s : Nat} {a : aS} {y : Int32} (k : mK h s a) (hx : ix y (aN a) = none) : ∀ Q, WM (d + 1) mX9_refusesTold [.ref (44 : Nat), .int y] h Q = Q (some (some (.int 1))) h := by
  intro Q
  have ih := c_isHouse (d := d) (y := y) k.2.1 k.2.2.1
  rw [hx] at ih
  simp (implicitDefEqProofs := false) only [eX9_refusesTold, rX9_refusesTold_0, rX9_refusesTold_0b, rX9_refusesTold_1, rX9_refusesTold_2, rX9_refusesTold_5, rX9_refusesTold_8, rX9_refusesTold_9, rX9_refusesTold_10, rX9_refusesTold_10b, rX9_refusesTold_11, rX9_refusesTold_14, rX9_refusesTold_14b, rX9_refusesTold_15, rX9_refusesTold_18, rX9_refusesTold_19, rX9_refusesTold_20, rX9_refusesTold_20b, rX9_refusesTold_21, rX9_refusesTold_24, rX9_refusesTold_26, rX9_refusesTold_27, rX9_refusesTold_30, rX9_refusesTold_31, rX9_refusesTold_34, rX9_refusesTold_35, kA_44, kB_44, ih, decide_false, bI_f, pCX9_refusesTold, pSX9_refusesTold, pOX9_refusesTold, pLX9_refusesTold, pCX9_isHouse, pSX9_isHouse, pOX9_isHouse, pLX9_isHouse, kl_I, kl_J, kl_R, kl_T, kl_N, Nat.le_refl, Nat.zero_le, List.map_nil, List.map_cons, List.sum_nil, List.sum_cons, c_I, c_J, c_R, c_T, va_rf, hI_wI, hJ_wJ, hR_wR, hI_J, hI_R, hJ_I, hJ_R, hR_I, hR_J, hN_I, hN_J, hN_R, wI_I, wJ_J, upd_at, updL_at, kR_s, Option.toList, List.append_nil, List.nil_append, List.cons_append, if_true, if_false, reduceIte, Bool.false_eq_true, not_true_eq_false, not_false_eq_true, true_and, and_true, false_and, and_false, true_or, or_true,  Nat.reduceEqDiff, Nat.reduceAdd, Nat.reduceLeDiff]
theorem c_refT {d : Nat} {h : qH} {s i : Nat} {a : aS} {x : sT} (k : mK h s a) (v : vF (hI h 46) a x) (hi : i < aN a) (h9 : x.2.2 ≤ 90) : ∃ h', (∀ Q, WM (d + 4) mX9_refusesTold [.ref (44 : Nat), .int (nI i)] h Q = Q (some (some (.int (if dayN a x.1 i ≤ x.2.2 then 5 else 0)))) h') ∧ sx [47, 50] h h' ∧ vF (hI h' 47) a x ∧ atR h' a (dayN a x.1) := by
  have ih := c_isHouse (d := d + 3) (y := nI i) k.2.1 k.2.2.1
  have h6 := k.2.2.1.2.2.1.1
  rw [ix_i (by omega) hi] at ih
  obtain ⟨h1, e1, x1, u1, a1⟩ := c_finds (d := d) k v
  have F1 := (mK_sx k x1 (by decide)).1
  have v6 : vp_in (nI i) 6 := nI_vp (by omega) (by decide)
  have cl : (nI i).toNatClampNeg = i := nI_cl (by omega)
  have v9 : vp_in 9 10 := nI_vp (i := 9) (by omega) (by decide)
  have cl9 : (9 : Int32).toNatClampNeg = 9 := rfl
  have z1 := n9_b (a1.2.1 i)
  have q1 : (nI x.2.2 < nI (n9 (dayN a x.1 i))) = (¬ dayN a x.1 i ≤ x.2.2) := by
    rw [propext (nI_ltI (a := x.2.2) (b := n9 (dayN a x.1 i)) (by omega) (by omega))]
    unfold n9
    apply propext
    split <;> omega
  refine ⟨h1, fun Q => ?_, x1, u1, a1⟩
  by_cases c : dayN a x.1 i ≤ x.2.2
  · simp (implicitDefEqProofs := false) only [eX9_refusesTold, rX9_refusesTold_0, rX9_refusesTold_0b, rX9_refusesTold_1, rX9_refusesTold_2, rX9_refusesTold_5, rX9_refusesTold_8, rX9_refusesTold_9, rX9_refusesTold_10, rX9_refusesTold_10b, rX9_refusesTold_11, rX9_refusesTold_14, rX9_refusesTold_14b, rX9_refusesTold_15, rX9_refusesTold_18, rX9_refusesTold_19, rX9_refusesTold_20, rX9_refusesTold_20b, rX9_refusesTold_21, rX9_refusesTold_24, rX9_refusesTold_26, rX9_refusesTold_27, rX9_refusesTold_30, rX9_refusesTold_31, rX9_refusesTold_34, rX9_refusesTold_35, kA_44, kB_44, kA_47, kB_47, kA_50, kB_50, fin_44_5 F1, fin_44_15 F1, fin_44_16 F1, fin_44_17 F1, fin_44_18 F1, fin_44_21 F1, fin_44_23 F1, fin_44_24 F1, fin_44_25 F1, fin_44_29 F1, fin_44_33 F1, ih, reduceCtorEq, decide_true, bI_t, show ¬ (1 : Int32) = 0 from by decide, e1, v6, cl, v9, cl9, a1.1 i hi, u1.2.2.2.2, q1, c, pCX9_refusesTold, pSX9_refusesTold, pOX9_refusesTold, pLX9_refusesTold, pCX9_isHouse, pSX9_isHouse, pOX9_isHouse, pLX9_isHouse, pCX9_finds, pSX9_finds, pOX9_finds, pLX9_finds, kl_I, kl_J, kl_R, kl_T, kl_N, Nat.le_refl, Nat.zero_le, List.map_nil, List.map_cons, List.sum_nil, List.sum_cons, c_I, c_J, c_R, c_T, va_rf, hI_wI, hJ_wJ, hR_wR, hI_J, hI_R, hJ_I, hJ_R, hR_I, hR_J, hN_I, hN_J, hN_R, wI_I, wJ_J, upd_at, updL_at, kR_s, Option.toList, List.append_nil, List.nil_append, List.cons_append, if_true, if_false, reduceIte, Bool.false_eq_true, not_true_eq_false, not_false_eq_true, true_and, and_true, false_and, and_false, true_or, or_true,  Nat.reduceEqDiff, Nat.reduceAdd, Nat.reduceLeDiff]
  · simp (implicitDefEqProofs := false) only [eX9_refusesTold, rX9_refusesTold_0, rX9_refusesTold_0b, rX9_refusesTold_1, rX9_refusesTold_2, rX9_refusesTold_5, rX9_refusesTold_8, rX9_refusesTold_9, rX9_refusesTold_10, rX9_refusesTold_10b, rX9_refusesTold_11, rX9_refusesTold_14, rX9_refusesTold_14b, rX9_refusesTold_15, rX9_refusesTold_18, rX9_refusesTold_19, rX9_refusesTold_20, rX9_refusesTold_20b, rX9_refusesTold_21, rX9_refusesTold_24, rX9_refusesTold_26, rX9_refusesTold_27, rX9_refusesTold_30, rX9_refusesTold_31, rX9_refusesTold_34, rX9_refusesTold_35, kA_44, kB_44, kA_47, kB_47, kA_50, kB_50, fin_44_5 F1, fin_44_15 F1, fin_44_16 F1, fin_44_17 F1, fin_44_18 F1, fin_44_21 F1, fin_44_23 F1, fin_44_24 F1, fin_44_25 F1, fin_44_29 F1, fin_44_33 F1, ih, reduceCtorEq, decide_true, bI_t, show ¬ (1 : Int32) = 0 from by decide, e1, v6, cl, v9, cl9, a1.1 i hi, u1.2.2.2.2, q1, c, pCX9_refusesTold, pSX9_refusesTold, pOX9_refusesTold, pLX9_refusesTold, pCX9_isHouse, pSX9_isHouse, pOX9_isHouse, pLX9_isHouse, pCX9_finds, pSX9_finds, pOX9_finds, pLX9_finds, kl_I, kl_J, kl_R, kl_T, kl_N, Nat.le_refl, Nat.zero_le, List.map_nil, List.map_cons, List.sum_nil, List.sum_cons, c_I, c_J, c_R, c_T, va_rf, hI_wI, hJ_wJ, hR_wR, hI_J, hI_R, hJ_I, hJ_R, hR_I, hR_J, hN_I, hN_J, hN_R, wI_I, wJ_J, upd_at, updL_at, kR_s, Option.toList, List.append_nil, List.nil_append, List.cons_append, if_true, if_false, reduceIte, Bool.false_eq_true, not_true_eq_false, not_false_eq_true, true_and, and_true, false_and, and_false, true_or, or_true,  Nat.reduceEqDiff, Nat.reduceAdd, Nat.reduceLeDiff]
theorem tl_no {a : aS} {t j y : Nat} (h : ¬ dayN a t j ≤ y) : tlN a t j y = t ||| 2 ^ j := if_neg h
theorem m_saves {d : Nat} {h : qH} {S : AS} {y : Int32} (I : MI h S) : ms 0 (d + 10) mX9_saves [.ref (44 : Nat), .int y] h (trS S (sSaves S y).1) (some (.int (sSaves S y).2)) := by
  have E : ∀ Q, WM (d + 10) mX9_saves [.ref (44 : Nat), .int y] h Q = WP (d + 10) mX9_saves (0, 0) 5 [some (.ref (44 : Nat)), some (.int y), none, none] [] (th h) Q := fun Q => by simp (implicitDefEqProofs := false) only [eX9_saves, rX9_saves_0, rX9_saves_0b, rX9_saves_1, rX9_saves_2, kA_44, kB_44, pCX9_saves, pSX9_saves, pOX9_saves, pLX9_saves, th, kl_I, kl_J, kl_R, kl_T, kl_N, Nat.le_refl, Nat.zero_le, List.map_nil, List.map_cons, List.sum_nil, List.sum_cons, c_I, c_J, c_R, c_T, va_rf, hI_wI, hJ_wJ, hR_wR, hI_J, hI_R, hJ_I, hJ_R, hR_I, hR_J, hN_I, hN_J, hN_R, wI_I, wJ_J, upd_at, updL_at, kR_s, Option.toList, List.append_nil, List.nil_append, List.cons_append, if_true, if_false, reduceIte, Bool.false_eq_true, not_true_eq_false, not_false_eq_true, true_and, and_true, false_and, and_false, true_or, or_true,  Nat.reduceEqDiff, Nat.reduceAdd, Nat.reduceLeDiff]
  rw [sSaves]
  by_cases c1 : aN (sA S) = 0
  · rw [c1, ix0]
    refine ms_of (v := 1) I (by decide) E ?_
    obtain ⟨F, r⟩ := MI_n (MI_th I) c1
    generalize th h = g at F r ⊢
    exact ⟨g, fun Q => by simp (implicitDefEqProofs := false) only [rX9_saves_5, rX9_saves_5b, rX9_saves_6, rX9_saves_7, rX9_saves_10, rX9_saves_11, rX9_saves_12, rX9_saves_15, rX9_saves_15b, rX9_saves_16, rX9_saves_17, rX9_saves_20, kA_44, kB_44, c_refT0 r, c_mrefused, show nI 1 = 1 from rfl, show ¬ (1 : Int32) ≤ 0 from by decide, pCX9_saves, pSX9_saves, pOX9_saves, pLX9_saves, pCX9_refusesTold, pSX9_refusesTold, pOX9_refusesTold, pLX9_refusesTold, pCX9_refused, pSX9_refused, pOX9_refused, pLX9_refused, kl_I, kl_J, kl_R, kl_T, kl_N, Nat.le_refl, Nat.zero_le, List.map_nil, List.map_cons, List.sum_nil, List.sum_cons, c_I, c_J, c_R, c_T, va_rf, hI_wI, hJ_wJ, hR_wR, hI_J, hI_R, hJ_I, hJ_R, hR_I, hR_J, hN_I, hN_J, hN_R, wI_I, wJ_J, upd_at, updL_at, kR_s, Option.toList, List.append_nil, List.nil_append, List.cons_append, if_true, if_false, reduceIte, Bool.false_eq_true, not_true_eq_false, not_false_eq_true, true_and, and_true, false_and, and_false, true_or, or_true,  Nat.reduceEqDiff, Nat.reduceAdd, Nat.reduceLeDiff], kp_refl⟩
  · have I1 := MI_th I
    obtain ⟨s, k, v, t1, t2, t3, t4, t5, ww⟩ := MI_y I1 c1
    have h6 := ww.1
    cases hx : ix y (aN (sA S)) with
    | none =>
      refine ms_of (v := 1) I (by decide) E ?_
      generalize th h = g at k ⊢
      exact ⟨g, fun Q => by simp (implicitDefEqProofs := false) only [rX9_saves_5, rX9_saves_5b, rX9_saves_6, rX9_saves_7, rX9_saves_10, rX9_saves_11, rX9_saves_12, rX9_saves_15, rX9_saves_15b, rX9_saves_16, rX9_saves_17, rX9_saves_20, kA_44, kB_44, c_refT1 k hx, c_mrefused, show nI 1 = 1 from rfl, show ¬ (1 : Int32) ≤ 0 from by decide, pCX9_saves, pSX9_saves, pOX9_saves, pLX9_saves, pCX9_refusesTold, pSX9_refusesTold, pOX9_refusesTold, pLX9_refusesTold, pCX9_refused, pSX9_refused, pOX9_refused, pLX9_refused, kl_I, kl_J, kl_R, kl_T, kl_N, Nat.le_refl, Nat.zero_le, List.map_nil, List.map_cons, List.sum_nil, List.sum_cons, c_I, c_J, c_R, c_T, va_rf, hI_wI, hJ_wJ, hR_wR, hI_J, hI_R, hJ_I, hJ_R, hR_I, hR_J, hN_I, hN_J, hN_R, wI_I, wJ_J, upd_at, updL_at, kR_s, Option.toList, List.append_nil, List.nil_append, List.cons_append, if_true, if_false, reduceIte, Bool.false_eq_true, not_true_eq_false, not_false_eq_true, true_and, and_true, false_and, and_false, true_or, or_true,  Nat.reduceEqDiff, Nat.reduceAdd, Nat.reduceLeDiff], kp_refl⟩
    | some i =>
      obtain ⟨rfl, hi⟩ := ix_s (by omega) hx
      simp only
      by_cases c2 : dayN (sA S) (sX S).1 i ≤ (sX S).2.2
      · rw [if_pos c2]
        refine ms_of (v := 5) I (by decide) E ?_
        generalize th h = g at k v ⊢
        obtain ⟨h1, e1, x1, u1, a1⟩ := c_refT (d := d + 5) k v hi t3
        exact ⟨h1, fun Q => by simp (implicitDefEqProofs := false) only [rX9_saves_5, rX9_saves_5b, rX9_saves_6, rX9_saves_7, rX9_saves_10, rX9_saves_11, rX9_saves_12, rX9_saves_15, rX9_saves_15b, rX9_saves_16, rX9_saves_17, rX9_saves_20, kA_44, kB_44, e1, c2, c_mrefused, show nI 5 = 5 from rfl, show ¬ (5 : Int32) ≤ 0 from by decide, pCX9_saves, pSX9_saves, pOX9_saves, pLX9_saves, pCX9_refusesTold, pSX9_refusesTold, pOX9_refusesTold, pLX9_refusesTold, pCX9_refused, pSX9_refused, pOX9_refused, pLX9_refused, kl_I, kl_J, kl_R, kl_T, kl_N, Nat.le_refl, Nat.zero_le, List.map_nil, List.map_cons, List.sum_nil, List.sum_cons, c_I, c_J, c_R, c_T, va_rf, hI_wI, hJ_wJ, hR_wR, hI_J, hI_R, hJ_I, hJ_R, hR_I, hR_J, hN_I, hN_J, hN_R, wI_I, wJ_J, upd_at, updL_at, kR_s, Option.toList, List.append_nil, List.nil_append, List.cons_append, if_true, if_false, reduceIte, Bool.false_eq_true, not_true_eq_false, not_false_eq_true, true_and, and_true, false_and, and_false, true_or, or_true,  Nat.reduceEqDiff, Nat.reduceAdd, Nat.reduceLeDiff], kp_sx x1 (by decide)⟩
      · rw [if_neg c2]
        refine ms_of (v := 0) I (by decide) E ?_
        generalize th h = g at k v ⊢
        obtain ⟨h1, e1, x1, u1, a1⟩ := c_refT (d := d + 5) k v hi t3
        have k1 := mK_sx k x1 (by decide)
        have F1 := k1.1
        obtain ⟨h2, e2, x2, u2, a2⟩ := c_tells (d := d + 6) (y := (sX S).2.2) k1 u1 a1 hi t4 (by omega)
        rw [tl_no c2] at u2 a2
        have k2 := mK_sx k1 x2 (by decide)
        have b1 := c_everBurnt (d := d + 8) k1.1 k1.2.1 k1.2.2.1 a1
        have b2 := c_everBurnt (d := d + 8) k2.1 k2.2.1 k2.2.2.1 a2
        have v9 : vp_in 9 10 := nI_vp (i := 9) (by omega) (by decide)
        have cl9 : (9 : Int32).toNatClampNeg = 9 := rfl
        have ar : ∀ p q : Int32, p - q + 100 = 100 + p - q := fun p q => by
          apply Int32.toBitVec_inj.mp
          simp only [Int32.toBitVec_add, Int32.toBitVec_sub]
          rw [BitVec.sub_eq_add_neg, BitVec.sub_eq_add_neg, BitVec.add_comm, ← BitVec.add_assoc]
        refine ⟨h2, fun Q => ?_, kp_tr (kp_sx x1 (by decide)) (kp_sx x2 (by decide))⟩
        rw [ar]
        simp (implicitDefEqProofs := false) only [rX9_saves_5, rX9_saves_5b, rX9_saves_6, rX9_saves_7, rX9_saves_10, rX9_saves_11, rX9_saves_12, rX9_saves_15, rX9_saves_15b, rX9_saves_16, rX9_saves_17, rX9_saves_20, rX9_saves_21, rX9_saves_21b, rX9_saves_22, rX9_saves_25, rX9_saves_26, rX9_saves_26b, rX9_saves_27, rX9_saves_28, rX9_saves_28b, rX9_saves_29, rX9_saves_32, rX9_saves_34, rX9_saves_35, rX9_saves_38, rX9_saves_38b, rX9_saves_39, rX9_saves_41, rX9_saves_42, rX9_saves_43, rX9_saves_43b, rX9_saves_44, rX9_saves_47, rX9_saves_48, rX9_saves_51, kA_44, kB_44, kA_47, kB_47, fin_44_5 F1, fin_44_15 F1, fin_44_16 F1, fin_44_17 F1, fin_44_18 F1, fin_44_21 F1, fin_44_23 F1, fin_44_24 F1, fin_44_25 F1, fin_44_29 F1, fin_44_33 F1, e1, c2, show (0 : Int32) ≤ 0 from by decide, b1, v9, cl9, u1.2.2.2.2, e2, b2, c_mgood, show nI 0 = 0 from rfl, evN, bbN, pCX9_saves, pSX9_saves, pOX9_saves, pLX9_saves, pCX9_refusesTold, pSX9_refusesTold, pOX9_refusesTold, pLX9_refusesTold, pCX9_everBurnt, pSX9_everBurnt, pOX9_everBurnt, pLX9_everBurnt, pCX9_tells, pSX9_tells, pOX9_tells, pLX9_tells, pCX9_good, pSX9_good, pOX9_good, pLX9_good, kl_I, kl_J, kl_R, kl_T, kl_N, Nat.le_refl, Nat.zero_le, List.map_nil, List.map_cons, List.sum_nil, List.sum_cons, c_I, c_J, c_R, c_T, va_rf, hI_wI, hJ_wJ, hR_wR, hI_J, hI_R, hJ_I, hJ_R, hR_I, hR_J, hN_I, hN_J, hN_R, wI_I, wJ_J, upd_at, updL_at, kR_s, Option.toList, List.append_nil, List.nil_append, List.cons_append, if_true, if_false, reduceIte, Bool.false_eq_true, not_true_eq_false, not_false_eq_true, true_and, and_true, false_and, and_false, true_or, or_true,  Nat.reduceEqDiff, Nat.reduceAdd, Nat.reduceLeDiff]
theorem m_burnsIf {d : Nat} {h : qH} {S : AS} {y z : Int32} (I : MI h S) : ms 0 (d + 10) mX9_burnsIf [.ref (44 : Nat), .int y, .int z] h (trS S (sBurnsIf S y z).1) (some (.int (sBurnsIf S y z).2)) := by
  have E : ∀ Q, WM (d + 10) mX9_burnsIf [.ref (44 : Nat), .int y, .int z] h Q = WP (d + 10) mX9_burnsIf (0, 0) 5 [some (.ref (44 : Nat)), some (.int y), some (.int z), none] [] (th h) Q := fun Q => by simp (implicitDefEqProofs := false) only [eX9_burnsIf, rX9_burnsIf_0, rX9_burnsIf_0b, rX9_burnsIf_1, rX9_burnsIf_2, kA_44, kB_44, pCX9_burnsIf, pSX9_burnsIf, pOX9_burnsIf, pLX9_burnsIf, th, kl_I, kl_J, kl_R, kl_T, kl_N, Nat.le_refl, Nat.zero_le, List.map_nil, List.map_cons, List.sum_nil, List.sum_cons, c_I, c_J, c_R, c_T, va_rf, hI_wI, hJ_wJ, hR_wR, hI_J, hI_R, hJ_I, hJ_R, hR_I, hR_J, hN_I, hN_J, hN_R, wI_I, wJ_J, upd_at, updL_at, kR_s, Option.toList, List.append_nil, List.nil_append, List.cons_append, if_true, if_false, reduceIte, Bool.false_eq_true, not_true_eq_false, not_false_eq_true, true_and, and_true, false_and, and_false, true_or, or_true,  Nat.reduceEqDiff, Nat.reduceAdd, Nat.reduceLeDiff]
  rw [sBurnsIf]
  by_cases c1 : aN (sA S) = 0
  · rw [c1, ix0]
    refine ms_of (v := 1) I (by decide) E ?_
    obtain ⟨F, r⟩ := MI_n (MI_th I) c1
    generalize th h = g at F r ⊢
    exact ⟨g, fun Q => by simp (implicitDefEqProofs := false) only [rX9_burnsIf_5, rX9_burnsIf_5b, rX9_burnsIf_6, rX9_burnsIf_7, rX9_burnsIf_10, rX9_burnsIf_13, rX9_burnsIf_13b, rX9_burnsIf_14, rX9_burnsIf_15, rX9_burnsIf_18, rX9_burnsIf_21, rX9_burnsIf_22, rX9_burnsIf_23, rX9_burnsIf_24, rX9_burnsIf_27, rX9_burnsIf_27b, rX9_burnsIf_28, rX9_burnsIf_29, rX9_burnsIf_32, kA_44, kB_44, c_isHouse0 r, c_mrefused, show nI 1 = 1 from rfl, show ¬ (1 : Int32) ≤ 0 from by decide, pCX9_burnsIf, pSX9_burnsIf, pOX9_burnsIf, pLX9_burnsIf, pCX9_isHouse, pSX9_isHouse, pOX9_isHouse, pLX9_isHouse, pCX9_refused, pSX9_refused, pOX9_refused, pLX9_refused, kl_I, kl_J, kl_R, kl_T, kl_N, Nat.le_refl, Nat.zero_le, List.map_nil, List.map_cons, List.sum_nil, List.sum_cons, c_I, c_J, c_R, c_T, va_rf, hI_wI, hJ_wJ, hR_wR, hI_J, hI_R, hJ_I, hJ_R, hR_I, hR_J, hN_I, hN_J, hN_R, wI_I, wJ_J, upd_at, updL_at, kR_s, Option.toList, List.append_nil, List.nil_append, List.cons_append, if_true, if_false, reduceIte, Bool.false_eq_true, not_true_eq_false, not_false_eq_true, true_and, and_true, false_and, and_false, true_or, or_true,  Nat.reduceEqDiff, Nat.reduceAdd, Nat.reduceLeDiff], kp_refl⟩
  · have I1 := MI_th I
    obtain ⟨s, k, v, t1, t2, t3, t4, t5, ww⟩ := MI_y I1 c1
    have h6 := ww.1
    have ih := c_isHouse (d := d + 9) (y := y) k.2.1 k.2.2.1
    cases hy : ix y (aN (sA S)) with
    | none =>
      rw [hy] at ih
      refine ms_of (v := 1) I (by decide) E ?_
      generalize th h = g at k ih ⊢
      exact ⟨g, fun Q => by simp (implicitDefEqProofs := false) only [rX9_burnsIf_5, rX9_burnsIf_5b, rX9_burnsIf_6, rX9_burnsIf_7, rX9_burnsIf_10, rX9_burnsIf_13, rX9_burnsIf_13b, rX9_burnsIf_14, rX9_burnsIf_15, rX9_burnsIf_18, rX9_burnsIf_21, rX9_burnsIf_22, rX9_burnsIf_23, rX9_burnsIf_24, rX9_burnsIf_27, rX9_burnsIf_27b, rX9_burnsIf_28, rX9_burnsIf_29, rX9_burnsIf_32, kA_44, kB_44, ih, decide_false, bI_f, c_mrefused, show nI 1 = 1 from rfl, show ¬ (1 : Int32) ≤ 0 from by decide, pCX9_burnsIf, pSX9_burnsIf, pOX9_burnsIf, pLX9_burnsIf, pCX9_isHouse, pSX9_isHouse, pOX9_isHouse, pLX9_isHouse, pCX9_refused, pSX9_refused, pOX9_refused, pLX9_refused, kl_I, kl_J, kl_R, kl_T, kl_N, Nat.le_refl, Nat.zero_le, List.map_nil, List.map_cons, List.sum_nil, List.sum_cons, c_I, c_J, c_R, c_T, va_rf, hI_wI, hJ_wJ, hR_wR, hI_J, hI_R, hJ_I, hJ_R, hR_I, hR_J, hN_I, hN_J, hN_R, wI_I, wJ_J, upd_at, updL_at, kR_s, Option.toList, List.append_nil, List.nil_append, List.cons_append, if_true, if_false, reduceIte, Bool.false_eq_true, not_true_eq_false, not_false_eq_true, true_and, and_true, false_and, and_false, true_or, or_true,  Nat.reduceEqDiff, Nat.reduceAdd, Nat.reduceLeDiff], kp_refl⟩
    | some j =>
      rw [hy] at ih
      obtain ⟨rfl, hj⟩ := ix_s (by omega) hy
      cases hx : ix z (aN (sA S)) with
      | none =>
        refine ms_of (v := 1) I (by decide) E ?_
        generalize th h = g at k ih ⊢
        exact ⟨g, fun Q => by simp (implicitDefEqProofs := false) only [rX9_burnsIf_5, rX9_burnsIf_5b, rX9_burnsIf_6, rX9_burnsIf_7, rX9_burnsIf_10, rX9_burnsIf_13, rX9_burnsIf_13b, rX9_burnsIf_14, rX9_burnsIf_15, rX9_burnsIf_18, rX9_burnsIf_21, rX9_burnsIf_22, rX9_burnsIf_23, rX9_burnsIf_24, rX9_burnsIf_27, rX9_burnsIf_27b, rX9_burnsIf_28, rX9_burnsIf_29, rX9_burnsIf_32, kA_44, kB_44, ih, reduceCtorEq, decide_true, bI_t, show ¬ (1 : Int32) = 0 from by decide, c_refT1 k hx, c_mrefused, show nI 1 = 1 from rfl, show ¬ (1 : Int32) ≤ 0 from by decide, pCX9_burnsIf, pSX9_burnsIf, pOX9_burnsIf, pLX9_burnsIf, pCX9_isHouse, pSX9_isHouse, pOX9_isHouse, pLX9_isHouse, pCX9_refusesTold, pSX9_refusesTold, pOX9_refusesTold, pLX9_refusesTold, pCX9_refused, pSX9_refused, pOX9_refused, pLX9_refused, kl_I, kl_J, kl_R, kl_T, kl_N, Nat.le_refl, Nat.zero_le, List.map_nil, List.map_cons, List.sum_nil, List.sum_cons, c_I, c_J, c_R, c_T, va_rf, hI_wI, hJ_wJ, hR_wR, hI_J, hI_R, hJ_I, hJ_R, hR_I, hR_J, hN_I, hN_J, hN_R, wI_I, wJ_J, upd_at, updL_at, kR_s, Option.toList, List.append_nil, List.nil_append, List.cons_append, if_true, if_false, reduceIte, Bool.false_eq_true, not_true_eq_false, not_false_eq_true, true_and, and_true, false_and, and_false, true_or, or_true,  Nat.reduceEqDiff, Nat.reduceAdd, Nat.reduceLeDiff], kp_refl⟩
      | some i =>
        obtain ⟨rfl, hi⟩ := ix_s (by omega) hx
        simp only
        by_cases c2 : dayN (sA S) (sX S).1 i ≤ (sX S).2.2
        · rw [if_pos c2]
          refine ms_of (v := 5) I (by decide) E ?_
          generalize th h = g at k v ih ⊢
          obtain ⟨h1, e1, x1, u1, a1⟩ := c_refT (d := d + 5) k v hi t3
          exact ⟨h1, fun Q => by simp (implicitDefEqProofs := false) only [rX9_burnsIf_5, rX9_burnsIf_5b, rX9_burnsIf_6, rX9_burnsIf_7, rX9_burnsIf_10, rX9_burnsIf_13, rX9_burnsIf_13b, rX9_burnsIf_14, rX9_burnsIf_15, rX9_burnsIf_18, rX9_burnsIf_21, rX9_burnsIf_22, rX9_burnsIf_23, rX9_burnsIf_24, rX9_burnsIf_27, rX9_burnsIf_27b, rX9_burnsIf_28, rX9_burnsIf_29, rX9_burnsIf_32, kA_44, kB_44, ih, reduceCtorEq, decide_true, bI_t, show ¬ (1 : Int32) = 0 from by decide, e1, c2, c_mrefused, show nI 5 = 5 from rfl, show ¬ (5 : Int32) ≤ 0 from by decide, pCX9_burnsIf, pSX9_burnsIf, pOX9_burnsIf, pLX9_burnsIf, pCX9_isHouse, pSX9_isHouse, pOX9_isHouse, pLX9_isHouse, pCX9_refusesTold, pSX9_refusesTold, pOX9_refusesTold, pLX9_refusesTold, pCX9_refused, pSX9_refused, pOX9_refused, pLX9_refused, kl_I, kl_J, kl_R, kl_T, kl_N, Nat.le_refl, Nat.zero_le, List.map_nil, List.map_cons, List.sum_nil, List.sum_cons, c_I, c_J, c_R, c_T, va_rf, hI_wI, hJ_wJ, hR_wR, hI_J, hI_R, hJ_I, hJ_R, hR_I, hR_J, hN_I, hN_J, hN_R, wI_I, wJ_J, upd_at, updL_at, kR_s, Option.toList, List.append_nil, List.nil_append, List.cons_append, if_true, if_false, reduceIte, Bool.false_eq_true, not_true_eq_false, not_false_eq_true, true_and, and_true, false_and, and_false, true_or, or_true,  Nat.reduceEqDiff, Nat.reduceAdd, Nat.reduceLeDiff], kp_sx x1 (by decide)⟩
        · rw [if_neg c2]
          refine ms_of (v := 0) I (by decide) E ?_
          generalize th h = g at k v ih ⊢
          obtain ⟨h1, e1, x1, u1, a1⟩ := c_refT (d := d + 5) k v hi t3
          have k1 := mK_sx k x1 (by decide)
          have F1 := k1.1
          obtain ⟨h2, e2, x2, u2, a2⟩ := c_tells (d := d + 6) (y := (sX S).2.2) k1 u1 a1 hi t4 (by omega)
          rw [tl_no c2] at u2 a2
          have F2 := (mK_sx k1 x2 (by decide)).1
          have v9 : vp_in 9 10 := nI_vp (i := 9) (by omega) (by decide)
          have cl9 : (9 : Int32).toNatClampNeg = 9 := rfl
          have v6 : vp_in (nI j) 6 := nI_vp (by omega) (by decide)
          have cl : (nI j).toNatClampNeg = j := nI_cl (by omega)
          refine ⟨h2, fun Q => ?_, kp_tr (kp_sx x1 (by decide)) (kp_sx x2 (by decide))⟩
          simp (implicitDefEqProofs := false) only [rX9_burnsIf_5, rX9_burnsIf_5b, rX9_burnsIf_6, rX9_burnsIf_7, rX9_burnsIf_10, rX9_burnsIf_13, rX9_burnsIf_13b, rX9_burnsIf_14, rX9_burnsIf_15, rX9_burnsIf_18, rX9_burnsIf_21, rX9_burnsIf_22, rX9_burnsIf_23, rX9_burnsIf_24, rX9_burnsIf_27, rX9_burnsIf_27b, rX9_burnsIf_28, rX9_burnsIf_29, rX9_burnsIf_32, rX9_burnsIf_33, rX9_burnsIf_33b, rX9_burnsIf_34, rX9_burnsIf_35, rX9_burnsIf_35b, rX9_burnsIf_36, rX9_burnsIf_39, rX9_burnsIf_41, rX9_burnsIf_42, rX9_burnsIf_45, rX9_burnsIf_45b, rX9_burnsIf_46, rX9_burnsIf_46b, rX9_burnsIf_47, rX9_burnsIf_50, rX9_burnsIf_51, rX9_burnsIf_52, rX9_burnsIf_55, rX9_burnsIf_58, kA_44, kB_44, kA_47, kB_47, kA_50, kB_50, fin_44_5 F1, fin_44_15 F1, fin_44_16 F1, fin_44_17 F1, fin_44_18 F1, fin_44_21 F1, fin_44_23 F1, fin_44_24 F1, fin_44_25 F1, fin_44_29 F1, fin_44_33 F1, fin_44_5 F2, fin_44_15 F2, fin_44_16 F2, fin_44_17 F2, fin_44_18 F2, fin_44_21 F2, fin_44_23 F2, fin_44_24 F2, fin_44_25 F2, fin_44_29 F2, fin_44_33 F2, ih, reduceCtorEq, decide_true, bI_t, show ¬ (1 : Int32) = 0 from by decide, e1, c2, show (0 : Int32) ≤ 0 from by decide, v9, cl9, u1.2.2.2.2, e2, v6, cl, a2.1 j hj, c_orNobody (a2.2.1 j), c_mgood, show nI 0 = 0 from rfl, pCX9_burnsIf, pSX9_burnsIf, pOX9_burnsIf, pLX9_burnsIf, pCX9_isHouse, pSX9_isHouse, pOX9_isHouse, pLX9_isHouse, pCX9_refusesTold, pSX9_refusesTold, pOX9_refusesTold, pLX9_refusesTold, pCX9_tells, pSX9_tells, pOX9_tells, pLX9_tells, pCX9_orNobody, pSX9_orNobody, pOX9_orNobody, pLX9_orNobody, pCX9_good, pSX9_good, pOX9_good, pLX9_good, kl_I, kl_J, kl_R, kl_T, kl_N, Nat.le_refl, Nat.zero_le, List.map_nil, List.map_cons, List.sum_nil, List.sum_cons, c_I, c_J, c_R, c_T, va_rf, hI_wI, hJ_wJ, hR_wR, hI_J, hI_R, hJ_I, hJ_R, hR_I, hR_J, hN_I, hN_J, hN_R, wI_I, wJ_J, upd_at, updL_at, kR_s, Option.toList, List.append_nil, List.nil_append, List.cons_append, if_true, if_false, reduceIte, Bool.false_eq_true, not_true_eq_false, not_false_eq_true, true_and, and_true, false_and, and_false, true_or, or_true,  Nat.reduceEqDiff, Nat.reduceAdd, Nat.reduceLeDiff]
theorem laN_ge {f : Nat → Nat} (hf : ∀ j, f j ≤ 1000) : ∀ n, (-2 : Int32) ≤ laN f n
  | 0 => Int32.le_refl _
  | n + 1 => by
    rw [laN]
    unfold mxI
    by_cases c : laN f n < oI (shN (f n))
    · rw [if_pos c]
      exact Int32.le_trans (laN_ge hf n) (Int32.le_of_lt c)
    · rw [if_neg c]; exact laN_ge hf n
theorem l_mlast {d : Nat} {h : qH} {s : Nat} {a : aS} {q : Nat → Nat} (k : mK h s a) (t : atR h a q) {Q : Option (Option Value) → qH → Prop} : ∀ (m i : Nat), i + m = aN a → WP (d + 1) mX9_lastDay (0, 0) 27 [some (.ref (44 : Nat)), some (.int (laN q i)), some (.int (nI i))] [] h Q = Q (some (some (.int (laN q (aN a))))) (tm h 0) := by
  have hs := k.2.2.1.1
  have h6 := k.2.2.1.2.2.1.1
  have e1 := k.2.2.1.2.2.2.1.2.1
  have F := k.1
  intro m
  induction m with
  | zero =>
    intro i hi
    obtain rfl : i = aN a := by omega
    simp (implicitDefEqProofs := false) only [rX9_lastDay_27, rX9_lastDay_28, rX9_lastDay_28b, rX9_lastDay_29, rX9_lastDay_32, rX9_lastDay_35, rX9_lastDay_38, rX9_lastDay_38b, rX9_lastDay_39, rX9_lastDay_42, rX9_lastDay_43, rX9_lastDay_44, rX9_lastDay_47, rX9_lastDay_50, rX9_lastDay_50b, rX9_lastDay_51, rX9_lastDay_54, rX9_lastDay_55, rX9_lastDay_56, rX9_lastDay_57, rX9_lastDay_60, rX9_lastDay_60b, rX9_lastDay_61, rX9_lastDay_64, rX9_lastDay_65, rX9_lastDay_66, rX9_lastDay_73, rX9_lastDay_73b, rX9_lastDay_74, rX9_lastDay_75, rX9_lastDay_78, kA_44, kB_44, kA_50, kB_50, fin_44_5 F, fin_44_15 F, fin_44_16 F, fin_44_17 F, fin_44_18 F, fin_44_21 F, fin_44_23 F, fin_44_24 F, fin_44_25 F, fin_44_29 F, fin_44_33 F, kU0 hs, nU hs, k.2.1, e1, c_mgood, pCX9_lastDay, pSX9_lastDay, pOX9_lastDay, pLX9_lastDay, pCX9_good, pSX9_good, pOX9_good, pLX9_good, Int32.le_refl, kl_I, kl_J, kl_R, kl_T, kl_N, Nat.le_refl, Nat.zero_le, List.map_nil, List.map_cons, List.sum_nil, List.sum_cons, c_I, c_J, c_R, c_T, va_rf, hI_wI, hJ_wJ, hR_wR, hI_J, hI_R, hJ_I, hJ_R, hR_I, hR_J, hN_I, hN_J, hN_R, wI_I, wJ_J, upd_at, updL_at, kR_s, Option.toList, List.append_nil, List.nil_append, List.cons_append, if_true, if_false, reduceIte, Bool.false_eq_true, not_true_eq_false, not_false_eq_true, true_and, and_true, false_and, and_false, true_or, or_true,  Nat.reduceEqDiff, Nat.reduceAdd, Nat.reduceLeDiff]
  | succ m ih =>
    intro i hi
    have hlt : i < aN a := by omega
    have g1 : ¬ nI (aN a) ≤ nI i := nI_ge hlt (by omega)
    have v6 : vp_in (nI i) 6 := nI_vp (by omega) (by decide)
    have cl : (nI i).toNatClampNeg = i := nI_cl (by omega)
    have ti := t.1 i hlt
    have b1 := t.2.1 i
    have z1 := n9_b b1
    have i1 := ih (i + 1) (by omega)
    have lg := laN_ge t.2.1 i
    have q2 : (9999 ≤ nI (n9 (q i))) = (1000 ≤ q i) := by
      rw [nge (x := n9 (q i)) (k := 9999) (c := 9999) rfl (by omega) (by omega)]
      unfold n9
      apply propext
      split <;> omega
    rw [laN] at i1
    by_cases c : 1000 ≤ q i
    · have e2 : mxI (laN q i) (oI (shN (q i))) = laN q i := by
        unfold mxI
        rw [show oI (shN (q i)) = -2 from by simp [shN, c, oI], if_neg (Int32.not_lt.mpr lg)]
      rw [e2] at i1
      simp (implicitDefEqProofs := false) only [rX9_lastDay_27, rX9_lastDay_28, rX9_lastDay_28b, rX9_lastDay_29, rX9_lastDay_32, rX9_lastDay_35, rX9_lastDay_38, rX9_lastDay_38b, rX9_lastDay_39, rX9_lastDay_42, rX9_lastDay_43, rX9_lastDay_44, rX9_lastDay_47, rX9_lastDay_50, rX9_lastDay_50b, rX9_lastDay_51, rX9_lastDay_54, rX9_lastDay_55, rX9_lastDay_56, rX9_lastDay_57, rX9_lastDay_60, rX9_lastDay_60b, rX9_lastDay_61, rX9_lastDay_64, rX9_lastDay_65, rX9_lastDay_66, kA_44, kB_44, kA_50, kB_50, fin_44_5 F, fin_44_15 F, fin_44_16 F, fin_44_17 F, fin_44_18 F, fin_44_21 F, fin_44_23 F, fin_44_24 F, fin_44_25 F, fin_44_29 F, fin_44_33 F, kU0 hs, nU hs, k.2.1, e1, g1, v6, cl, ti, q2, c, pCX9_lastDay, pSX9_lastDay, pOX9_lastDay, pLX9_lastDay, kl_I, kl_J, kl_R, kl_T, kl_N, Nat.le_refl, Nat.zero_le, List.map_nil, List.map_cons, List.sum_nil, List.sum_cons, c_I, c_J, c_R, c_T, va_rf, hI_wI, hJ_wJ, hR_wR, hI_J, hI_R, hJ_I, hJ_R, hR_I, hR_J, hN_I, hN_J, hN_R, wI_I, wJ_J, upd_at, updL_at, kR_s, Option.toList, List.append_nil, List.nil_append, List.cons_append, if_true, if_false, reduceIte, Bool.false_eq_true, not_true_eq_false, not_false_eq_true, true_and, and_true, false_and, and_false, true_or, or_true,  Nat.reduceEqDiff, Nat.reduceAdd, Nat.reduceLeDiff]
      rw [rX9_lastDay_67, nI_1]
      simp (implicitDefEqProofs := false) only [rX9_lastDay_70, kl_I, kl_J, kl_R, kl_T, kl_N, Nat.le_refl, Nat.zero_le, List.map_nil, List.map_cons, List.sum_nil, List.sum_cons, c_I, c_J, c_R, c_T, va_rf, hI_wI, hJ_wJ, hR_wR, hI_J, hI_R, hJ_I, hJ_R, hR_I, hR_J, hN_I, hN_J, hN_R, wI_I, wJ_J, upd_at, updL_at, kR_s, Option.toList, List.append_nil, List.nil_append, List.cons_append, if_true, if_false, reduceIte, Bool.false_eq_true, not_true_eq_false, not_false_eq_true, true_and, and_true, false_and, and_false, true_or, or_true,  Nat.reduceEqDiff, Nat.reduceAdd, Nat.reduceLeDiff]
      exact i1
    · have e3 : n9 (q i) = q i := if_neg c
      rw [e3] at ti q2
      rw [show oI (shN (q i)) = nI (q i) from by simp [shN, c, oI]] at i1
      unfold mxI at i1
      by_cases c2 : laN q i < nI (q i)
      · have c3 : ¬ nI (q i) ≤ laN q i := Int32.not_le.mpr c2
        rw [if_pos c2] at i1
        simp (implicitDefEqProofs := false) only [rX9_lastDay_27, rX9_lastDay_28, rX9_lastDay_28b, rX9_lastDay_29, rX9_lastDay_32, rX9_lastDay_35, rX9_lastDay_38, rX9_lastDay_38b, rX9_lastDay_39, rX9_lastDay_42, rX9_lastDay_43, rX9_lastDay_44, rX9_lastDay_47, rX9_lastDay_50, rX9_lastDay_50b, rX9_lastDay_51, rX9_lastDay_54, rX9_lastDay_55, rX9_lastDay_56, rX9_lastDay_57, rX9_lastDay_60, rX9_lastDay_60b, rX9_lastDay_61, rX9_lastDay_64, rX9_lastDay_65, rX9_lastDay_66, kA_44, kB_44, kA_50, kB_50, fin_44_5 F, fin_44_15 F, fin_44_16 F, fin_44_17 F, fin_44_18 F, fin_44_21 F, fin_44_23 F, fin_44_24 F, fin_44_25 F, fin_44_29 F, fin_44_33 F, kU0 hs, nU hs, k.2.1, e1, g1, v6, cl, ti, q2, c, c3, pCX9_lastDay, pSX9_lastDay, pOX9_lastDay, pLX9_lastDay, kl_I, kl_J, kl_R, kl_T, kl_N, Nat.le_refl, Nat.zero_le, List.map_nil, List.map_cons, List.sum_nil, List.sum_cons, c_I, c_J, c_R, c_T, va_rf, hI_wI, hJ_wJ, hR_wR, hI_J, hI_R, hJ_I, hJ_R, hR_I, hR_J, hN_I, hN_J, hN_R, wI_I, wJ_J, upd_at, updL_at, kR_s, Option.toList, List.append_nil, List.nil_append, List.cons_append, if_true, if_false, reduceIte, Bool.false_eq_true, not_true_eq_false, not_false_eq_true, true_and, and_true, false_and, and_false, true_or, or_true,  Nat.reduceEqDiff, Nat.reduceAdd, Nat.reduceLeDiff]
        rw [rX9_lastDay_67, nI_1]
        simp (implicitDefEqProofs := false) only [rX9_lastDay_70, kl_I, kl_J, kl_R, kl_T, kl_N, Nat.le_refl, Nat.zero_le, List.map_nil, List.map_cons, List.sum_nil, List.sum_cons, c_I, c_J, c_R, c_T, va_rf, hI_wI, hJ_wJ, hR_wR, hI_J, hI_R, hJ_I, hJ_R, hR_I, hR_J, hN_I, hN_J, hN_R, wI_I, wJ_J, upd_at, updL_at, kR_s, Option.toList, List.append_nil, List.nil_append, List.cons_append, if_true, if_false, reduceIte, Bool.false_eq_true, not_true_eq_false, not_false_eq_true, true_and, and_true, false_and, and_false, true_or, or_true,  Nat.reduceEqDiff, Nat.reduceAdd, Nat.reduceLeDiff]
        exact i1
      · have c3 : nI (q i) ≤ laN q i := Int32.not_lt.mp c2
        rw [if_neg c2] at i1
        simp (implicitDefEqProofs := false) only [rX9_lastDay_27, rX9_lastDay_28, rX9_lastDay_28b, rX9_lastDay_29, rX9_lastDay_32, rX9_lastDay_35, rX9_lastDay_38, rX9_lastDay_38b, rX9_lastDay_39, rX9_lastDay_42, rX9_lastDay_43, rX9_lastDay_44, rX9_lastDay_47, rX9_lastDay_50, rX9_lastDay_50b, rX9_lastDay_51, rX9_lastDay_54, rX9_lastDay_55, rX9_lastDay_56, rX9_lastDay_57, rX9_lastDay_60, rX9_lastDay_60b, rX9_lastDay_61, rX9_lastDay_64, rX9_lastDay_65, rX9_lastDay_66, kA_44, kB_44, kA_50, kB_50, fin_44_5 F, fin_44_15 F, fin_44_16 F, fin_44_17 F, fin_44_18 F, fin_44_21 F, fin_44_23 F, fin_44_24 F, fin_44_25 F, fin_44_29 F, fin_44_33 F, kU0 hs, nU hs, k.2.1, e1, g1, v6, cl, ti, q2, c, c3, pCX9_lastDay, pSX9_lastDay, pOX9_lastDay, pLX9_lastDay, kl_I, kl_J, kl_R, kl_T, kl_N, Nat.le_refl, Nat.zero_le, List.map_nil, List.map_cons, List.sum_nil, List.sum_cons, c_I, c_J, c_R, c_T, va_rf, hI_wI, hJ_wJ, hR_wR, hI_J, hI_R, hJ_I, hJ_R, hR_I, hR_J, hN_I, hN_J, hN_R, wI_I, wJ_J, upd_at, updL_at, kR_s, Option.toList, List.append_nil, List.nil_append, List.cons_append, if_true, if_false, reduceIte, Bool.false_eq_true, not_true_eq_false, not_false_eq_true, true_and, and_true, false_and, and_false, true_or, or_true,  Nat.reduceEqDiff, Nat.reduceAdd, Nat.reduceLeDiff]
        rw [rX9_lastDay_67, nI_1]
        simp (implicitDefEqProofs := false) only [rX9_lastDay_70, kl_I, kl_J, kl_R, kl_T, kl_N, Nat.le_refl, Nat.zero_le, List.map_nil, List.map_cons, List.sum_nil, List.sum_cons, c_I, c_J, c_R, c_T, va_rf, hI_wI, hJ_wJ, hR_wR, hI_J, hI_R, hJ_I, hJ_R, hR_I, hR_J, hN_I, hN_J, hN_R, wI_I, wJ_J, upd_at, updL_at, kR_s, Option.toList, List.append_nil, List.nil_append, List.cons_append, if_true, if_false, reduceIte, Bool.false_eq_true, not_true_eq_false, not_false_eq_true, true_and, and_true, false_and, and_false, true_or, or_true,  Nat.reduceEqDiff, Nat.reduceAdd, Nat.reduceLeDiff]
        exact i1
theorem m_lastDay {d : Nat} {h : qH} {S : AS} (I : MI h S) : ms 0 (d + 10) mX9_lastDay [.ref (44 : Nat)] h (trS S (sLast S).1) (some (.int (sLast S).2)) := by
  have E : ∀ Q, WM (d + 10) mX9_lastDay [.ref (44 : Nat)] h Q = WP (d + 10) mX9_lastDay (0, 0) 5 [some (.ref (44 : Nat)), none, none] [] (th h) Q := fun Q => by simp (implicitDefEqProofs := false) only [eX9_lastDay, rX9_lastDay_0, rX9_lastDay_0b, rX9_lastDay_1, rX9_lastDay_2, kA_44, kB_44, pCX9_lastDay, pSX9_lastDay, pOX9_lastDay, pLX9_lastDay, th, kl_I, kl_J, kl_R, kl_T, kl_N, Nat.le_refl, Nat.zero_le, List.map_nil, List.map_cons, List.sum_nil, List.sum_cons, c_I, c_J, c_R, c_T, va_rf, hI_wI, hJ_wJ, hR_wR, hI_J, hI_R, hJ_I, hJ_R, hR_I, hR_J, hN_I, hN_J, hN_R, wI_I, wJ_J, upd_at, updL_at, kR_s, Option.toList, List.append_nil, List.nil_append, List.cons_append, if_true, if_false, reduceIte, Bool.false_eq_true, not_true_eq_false, not_false_eq_true, true_and, and_true, false_and, and_false, true_or, or_true,  Nat.reduceEqDiff, Nat.reduceAdd, Nat.reduceLeDiff]
  rw [sLast]
  by_cases c1 : aN (sA S) = 0
  · rw [if_pos c1]
    refine ms_of (v := 1) I (by decide) E ?_
    obtain ⟨F, r⟩ := MI_n (MI_th I) c1
    generalize th h = g at F r ⊢
    exact ⟨g, fun Q => by simp (implicitDefEqProofs := false) only [rX9_lastDay_5, rX9_lastDay_5b, rX9_lastDay_6, rX9_lastDay_9, rX9_lastDay_9b, rX9_lastDay_12, rX9_lastDay_12b, rX9_lastDay_13, rX9_lastDay_14, rX9_lastDay_17, kA_44, kB_44, r, c_mrefused, show nI 1 = 1 from rfl, pCX9_lastDay, pSX9_lastDay, pOX9_lastDay, pLX9_lastDay, pCX9_refused, pSX9_refused, pOX9_refused, pLX9_refused, kl_I, kl_J, kl_R, kl_T, kl_N, Nat.le_refl, Nat.zero_le, List.map_nil, List.map_cons, List.sum_nil, List.sum_cons, c_I, c_J, c_R, c_T, va_rf, hI_wI, hJ_wJ, hR_wR, hI_J, hI_R, hJ_I, hJ_R, hR_I, hR_J, hN_I, hN_J, hN_R, wI_I, wJ_J, upd_at, updL_at, kR_s, Option.toList, List.append_nil, List.nil_append, List.cons_append, if_true, if_false, reduceIte, Bool.false_eq_true, not_true_eq_false, not_false_eq_true, true_and, and_true, false_and, and_false, true_or, or_true,  Nat.reduceEqDiff, Nat.reduceAdd, Nat.reduceLeDiff], kp_refl⟩
  · rw [if_neg c1]
    refine ms_of (v := 0) I (by decide) E ?_
    have I1 := MI_th I
    obtain ⟨s, k, v, t1, t2, t3, t4, t5, ww⟩ := MI_y I1 c1
    generalize th h = g at k v ⊢
    clear E I I1
    have h6 := ww.1
    have F := k.1
    have hs := k.2.2.1.1
    have f := k.2.2.1.2.1
    obtain ⟨h1, e1, x1, u1, a1⟩ := c_finds (d := d + 6) k v
    have k1 := mK_sx k x1 (by decide)
    refine ⟨h1, fun Q => ?_, kp_sx x1 (by decide)⟩
    simp (implicitDefEqProofs := false) only [rX9_lastDay_5, rX9_lastDay_5b, rX9_lastDay_6, rX9_lastDay_9, rX9_lastDay_9b, rX9_lastDay_12, rX9_lastDay_12b, rX9_lastDay_13, rX9_lastDay_14, rX9_lastDay_17, rX9_lastDay_18, rX9_lastDay_18b, rX9_lastDay_19, rX9_lastDay_22, rX9_lastDay_24, rX9_lastDay_25, rX9_lastDay_26, kA_44, kB_44, k.2.1, e1, pCX9_lastDay, pSX9_lastDay, pOX9_lastDay, pLX9_lastDay, pCX9_finds, pSX9_finds, pOX9_finds, pLX9_finds, kl_I, kl_J, kl_R, kl_T, kl_N, Nat.le_refl, Nat.zero_le, List.map_nil, List.map_cons, List.sum_nil, List.sum_cons, c_I, c_J, c_R, c_T, va_rf, hI_wI, hJ_wJ, hR_wR, hI_J, hI_R, hJ_I, hJ_R, hR_I, hR_J, hN_I, hN_J, hN_R, wI_I, wJ_J, upd_at, updL_at, kR_s, Option.toList, List.append_nil, List.nil_append, List.cons_append, if_true, if_false, reduceIte, Bool.false_eq_true, not_true_eq_false, not_false_eq_true, true_and, and_true, false_and, and_false, true_or, or_true,  Nat.reduceEqDiff, Nat.reduceAdd, Nat.reduceLeDiff]
    exact l_mlast (d := d + 9) k1 a1 (aN (sA S)) 0 (by omega)
theorem l_mbT {d : Nat} {s : Nat} {a : aS} {x : sT} (hx : x.1 < 64) (h9 : x.2.2 ≤ 90) : ∀ (m i : Nat), i + m = aN a → ∀ (h : qH) (bo : Option Nat) (fw : Nat) (_ : mK h s a) (_ : vF (hI h 46) a x) (_ : fw ≤ evN a x.1), ∃ h1, (∀ Q, WP (d + 4) mX9_bestTold (0, 0) 32 [some (.ref (44 : Nat)), some (.int (nI fw)), some (.int (oI bo)), some (.int (nI i))] [] h Q = Q (some (some (.int (oI (btL a x.1 x.2.2 m i bo fw))))) (tm h1 0)) ∧ kp h h1 := by
  intro m
  induction m with
  | zero =>
    intro i hi h bo fw k v hf
    obtain rfl : i = aN a := by omega
    have hs := k.2.2.1.1
    refine ⟨h, fun Q => ?_, kp_refl⟩
    simp (implicitDefEqProofs := false) only [rX9_bestTold_32, rX9_bestTold_33, rX9_bestTold_33b, rX9_bestTold_34, rX9_bestTold_37, rX9_bestTold_40, rX9_bestTold_43, rX9_bestTold_43b, rX9_bestTold_44, rX9_bestTold_47, rX9_bestTold_47b, rX9_bestTold_48, rX9_bestTold_49, rX9_bestTold_49b, rX9_bestTold_50, rX9_bestTold_53, rX9_bestTold_55, rX9_bestTold_56, rX9_bestTold_59, rX9_bestTold_59b, rX9_bestTold_60, rX9_bestTold_63, rX9_bestTold_64, rX9_bestTold_67, rX9_bestTold_70, rX9_bestTold_70b, rX9_bestTold_71, rX9_bestTold_74, rX9_bestTold_75, rX9_bestTold_76, rX9_bestTold_83, rX9_bestTold_83b, rX9_bestTold_84, rX9_bestTold_85, rX9_bestTold_88, kA_44, kB_44, kU0 hs, nU hs, k.2.1, k.2.2.1.2.2.2.1.2.1, c_mgood, pCX9_bestTold, pSX9_bestTold, pOX9_bestTold, pLX9_bestTold, pCX9_good, pSX9_good, pOX9_good, pLX9_good, Int32.le_refl, btL, kl_I, kl_J, kl_R, kl_T, kl_N, Nat.le_refl, Nat.zero_le, List.map_nil, List.map_cons, List.sum_nil, List.sum_cons, c_I, c_J, c_R, c_T, va_rf, hI_wI, hJ_wJ, hR_wR, hI_J, hI_R, hJ_I, hJ_R, hR_I, hR_J, hN_I, hN_J, hN_R, wI_I, wJ_J, upd_at, updL_at, kR_s, Option.toList, List.append_nil, List.nil_append, List.cons_append, if_true, if_false, reduceIte, Bool.false_eq_true, not_true_eq_false, not_false_eq_true, true_and, and_true, false_and, and_false, true_or, or_true,  Nat.reduceEqDiff, Nat.reduceAdd, Nat.reduceLeDiff]
  | succ m ih =>
    intro i hi h bo fw k v hf
    have hs := k.2.2.1.1
    have h6 := k.2.2.1.2.2.1.1
    have hlt : i < aN a := by omega
    have g1 : ¬ nI (aN a) ≤ nI i := nI_ge hlt (by omega)
    obtain ⟨h1, e1, x1, u1, a1⟩ := c_finds (d := d) k v
    have k1 := mK_sx k x1 (by decide)
    have F1 := k1.1
    obtain ⟨h2, e2, x2, u2, a2⟩ := c_tells (d := d) (y := x.2.2) k1 u1 a1 hlt hx (by omega)
    have k2 := mK_sx k1 x2 (by decide)
    have b2 := c_everBurnt (d := d + 2) k2.1 k2.2.1 k2.2.2.1 a2
    have v9 : vp_in 9 10 := nI_vp (i := 9) (by omega) (by decide)
    have cl9 : (9 : Int32).toNatClampNeg = 9 := rfl
    have v2 : vF (hI h2 46) a x := by rw [x2.2.2.2 46 (by decide), x1.2.2.2 46 (by decide)]; exact v
    have ef : evN a (tlN a x.1 i x.2.2) ≤ 6 := popc_le _ _
    have ef2 : evN a x.1 ≤ 6 := popc_le _ _
    have q1 : (nI (evN a (tlN a x.1 i x.2.2)) < nI fw) = (evN a (tlN a x.1 i x.2.2) < fw) := propext (nI_ltI (by omega) (by omega))
    have kk : kp h h2 := kp_tr (kp_sx x1 (by decide)) (kp_sx x2 (by decide))
    rw [btL]
    have b3 : ∀ Q, WM (d + 3) mX9_everBurnt [.ref (44 : Nat)] h2 Q = Q (some (some (.int (nI (evN a (tlN a x.1 i x.2.2)))))) h2 := b2
    by_cases c : evN a (tlN a x.1 i x.2.2) < fw
    · have c2 : ¬ dayN a x.1 i ≤ x.2.2 := by
        intro q
        rw [show tlN a x.1 i x.2.2 = x.1 from if_pos q] at c
        omega
      have et := tl_no c2
      rw [et] at c q1 b3 ef
      rw [if_pos ⟨by omega, c⟩]
      obtain ⟨h3, e3, kp3⟩ := ih (i + 1) (by omega) h2 (some i) (evN a (x.1 ||| 2 ^ i)) k2 v2 (by omega)
      refine ⟨h3, fun Q => ?_, kp_tr kk kp3⟩
      have e3 := e3 Q
      simp (implicitDefEqProofs := false) only [rX9_bestTold_32, rX9_bestTold_33, rX9_bestTold_33b, rX9_bestTold_34, rX9_bestTold_37, rX9_bestTold_40, rX9_bestTold_43, rX9_bestTold_43b, rX9_bestTold_44, rX9_bestTold_47, rX9_bestTold_47b, rX9_bestTold_48, rX9_bestTold_49, rX9_bestTold_49b, rX9_bestTold_50, rX9_bestTold_53, rX9_bestTold_55, rX9_bestTold_56, rX9_bestTold_59, rX9_bestTold_59b, rX9_bestTold_60, rX9_bestTold_63, rX9_bestTold_64, rX9_bestTold_67, rX9_bestTold_70, rX9_bestTold_70b, rX9_bestTold_71, rX9_bestTold_74, rX9_bestTold_75, rX9_bestTold_76, kA_44, kB_44, kA_47, kB_47, fin_44_5 F1, fin_44_15 F1, fin_44_16 F1, fin_44_17 F1, fin_44_18 F1, fin_44_21 F1, fin_44_23 F1, fin_44_24 F1, fin_44_25 F1, fin_44_29 F1, fin_44_33 F1, kU0 hs, nU hs, k.2.1, k.2.2.1.2.2.2.1.2.1, g1, e1, v9, cl9, u1.2.2.2.2, e2, b3, q1, c, pCX9_bestTold, pSX9_bestTold, pOX9_bestTold, pLX9_bestTold, pCX9_finds, pSX9_finds, pOX9_finds, pLX9_finds, pCX9_tells, pSX9_tells, pOX9_tells, pLX9_tells, pCX9_everBurnt, pSX9_everBurnt, pOX9_everBurnt, pLX9_everBurnt, kl_I, kl_J, kl_R, kl_T, kl_N, Nat.le_refl, Nat.zero_le, List.map_nil, List.map_cons, List.sum_nil, List.sum_cons, c_I, c_J, c_R, c_T, va_rf, hI_wI, hJ_wJ, hR_wR, hI_J, hI_R, hJ_I, hJ_R, hR_I, hR_J, hN_I, hN_J, hN_R, wI_I, wJ_J, upd_at, updL_at, kR_s, Option.toList, List.append_nil, List.nil_append, List.cons_append, if_true, if_false, reduceIte, Bool.false_eq_true, not_true_eq_false, not_false_eq_true, true_and, and_true, false_and, and_false, true_or, or_true,  Nat.reduceEqDiff, Nat.reduceAdd, Nat.reduceLeDiff]
      rw [rX9_bestTold_77, nI_1]
      simp (implicitDefEqProofs := false) only [rX9_bestTold_80, kl_I, kl_J, kl_R, kl_T, kl_N, Nat.le_refl, Nat.zero_le, List.map_nil, List.map_cons, List.sum_nil, List.sum_cons, c_I, c_J, c_R, c_T, va_rf, hI_wI, hJ_wJ, hR_wR, hI_J, hI_R, hJ_I, hJ_R, hR_I, hR_J, hN_I, hN_J, hN_R, wI_I, wJ_J, upd_at, updL_at, kR_s, Option.toList, List.append_nil, List.nil_append, List.cons_append, if_true, if_false, reduceIte, Bool.false_eq_true, not_true_eq_false, not_false_eq_true, true_and, and_true, false_and, and_false, true_or, or_true,  Nat.reduceEqDiff, Nat.reduceAdd, Nat.reduceLeDiff]
      exact e3
    · rw [if_neg (fun q => c (by rw [tl_no (by omega)]; exact q.2))]
      obtain ⟨h3, e3, kp3⟩ := ih (i + 1) (by omega) h2 bo fw k2 v2 hf
      refine ⟨h3, fun Q => ?_, kp_tr kk kp3⟩
      have e3 := e3 Q
      simp (implicitDefEqProofs := false) only [rX9_bestTold_32, rX9_bestTold_33, rX9_bestTold_33b, rX9_bestTold_34, rX9_bestTold_37, rX9_bestTold_40, rX9_bestTold_43, rX9_bestTold_43b, rX9_bestTold_44, rX9_bestTold_47, rX9_bestTold_47b, rX9_bestTold_48, rX9_bestTold_49, rX9_bestTold_49b, rX9_bestTold_50, rX9_bestTold_53, rX9_bestTold_55, rX9_bestTold_56, rX9_bestTold_59, rX9_bestTold_59b, rX9_bestTold_60, rX9_bestTold_63, rX9_bestTold_64, rX9_bestTold_67, rX9_bestTold_70, rX9_bestTold_70b, rX9_bestTold_71, rX9_bestTold_74, rX9_bestTold_75, rX9_bestTold_76, kA_44, kB_44, kA_47, kB_47, fin_44_5 F1, fin_44_15 F1, fin_44_16 F1, fin_44_17 F1, fin_44_18 F1, fin_44_21 F1, fin_44_23 F1, fin_44_24 F1, fin_44_25 F1, fin_44_29 F1, fin_44_33 F1, kU0 hs, nU hs, k.2.1, k.2.2.1.2.2.2.1.2.1, g1, e1, v9, cl9, u1.2.2.2.2, e2, b3, q1, c, pCX9_bestTold, pSX9_bestTold, pOX9_bestTold, pLX9_bestTold, pCX9_finds, pSX9_finds, pOX9_finds, pLX9_finds, pCX9_tells, pSX9_tells, pOX9_tells, pLX9_tells, pCX9_everBurnt, pSX9_everBurnt, pOX9_everBurnt, pLX9_everBurnt, kl_I, kl_J, kl_R, kl_T, kl_N, Nat.le_refl, Nat.zero_le, List.map_nil, List.map_cons, List.sum_nil, List.sum_cons, c_I, c_J, c_R, c_T, va_rf, hI_wI, hJ_wJ, hR_wR, hI_J, hI_R, hJ_I, hJ_R, hR_I, hR_J, hN_I, hN_J, hN_R, wI_I, wJ_J, upd_at, updL_at, kR_s, Option.toList, List.append_nil, List.nil_append, List.cons_append, if_true, if_false, reduceIte, Bool.false_eq_true, not_true_eq_false, not_false_eq_true, true_and, and_true, false_and, and_false, true_or, or_true,  Nat.reduceEqDiff, Nat.reduceAdd, Nat.reduceLeDiff]
      rw [rX9_bestTold_77, nI_1]
      simp (implicitDefEqProofs := false) only [rX9_bestTold_80, kl_I, kl_J, kl_R, kl_T, kl_N, Nat.le_refl, Nat.zero_le, List.map_nil, List.map_cons, List.sum_nil, List.sum_cons, c_I, c_J, c_R, c_T, va_rf, hI_wI, hJ_wJ, hR_wR, hI_J, hI_R, hJ_I, hJ_R, hR_I, hR_J, hN_I, hN_J, hN_R, wI_I, wJ_J, upd_at, updL_at, kR_s, Option.toList, List.append_nil, List.nil_append, List.cons_append, if_true, if_false, reduceIte, Bool.false_eq_true, not_true_eq_false, not_false_eq_true, true_and, and_true, false_and, and_false, true_or, or_true,  Nat.reduceEqDiff, Nat.reduceAdd, Nat.reduceLeDiff]
      exact e3
theorem m_bestTold {d : Nat} {h : qH} {S : AS} (I : MI h S) : ms 0 (d + 10) mX9_bestTold [.ref (44 : Nat)] h (trS S (sBestTold S).1) (some (.int (sBestTold S).2)) := by
  have E : ∀ Q, WM (d + 10) mX9_bestTold [.ref (44 : Nat)] h Q = WP (d + 10) mX9_bestTold (0, 0) 5 [some (.ref (44 : Nat)), none, none, none] [] (th h) Q := fun Q => by simp (implicitDefEqProofs := false) only [eX9_bestTold, rX9_bestTold_0, rX9_bestTold_0b, rX9_bestTold_1, rX9_bestTold_2, kA_44, kB_44, pCX9_bestTold, pSX9_bestTold, pOX9_bestTold, pLX9_bestTold, th, kl_I, kl_J, kl_R, kl_T, kl_N, Nat.le_refl, Nat.zero_le, List.map_nil, List.map_cons, List.sum_nil, List.sum_cons, c_I, c_J, c_R, c_T, va_rf, hI_wI, hJ_wJ, hR_wR, hI_J, hI_R, hJ_I, hJ_R, hR_I, hR_J, hN_I, hN_J, hN_R, wI_I, wJ_J, upd_at, updL_at, kR_s, Option.toList, List.append_nil, List.nil_append, List.cons_append, if_true, if_false, reduceIte, Bool.false_eq_true, not_true_eq_false, not_false_eq_true, true_and, and_true, false_and, and_false, true_or, or_true,  Nat.reduceEqDiff, Nat.reduceAdd, Nat.reduceLeDiff]
  rw [sBestTold]
  by_cases c1 : aN (sA S) = 0
  · rw [if_pos c1]
    refine ms_of (v := 1) I (by decide) E ?_
    obtain ⟨F, r⟩ := MI_n (MI_th I) c1
    generalize th h = g at F r ⊢
    exact ⟨g, fun Q => by simp (implicitDefEqProofs := false) only [rX9_bestTold_5, rX9_bestTold_5b, rX9_bestTold_6, rX9_bestTold_9, rX9_bestTold_9b, rX9_bestTold_12, rX9_bestTold_12b, rX9_bestTold_13, rX9_bestTold_14, rX9_bestTold_17, kA_44, kB_44, r, c_mrefused, show nI 1 = 1 from rfl, pCX9_bestTold, pSX9_bestTold, pOX9_bestTold, pLX9_bestTold, pCX9_refused, pSX9_refused, pOX9_refused, pLX9_refused, kl_I, kl_J, kl_R, kl_T, kl_N, Nat.le_refl, Nat.zero_le, List.map_nil, List.map_cons, List.sum_nil, List.sum_cons, c_I, c_J, c_R, c_T, va_rf, hI_wI, hJ_wJ, hR_wR, hI_J, hI_R, hJ_I, hJ_R, hR_I, hR_J, hN_I, hN_J, hN_R, wI_I, wJ_J, upd_at, updL_at, kR_s, Option.toList, List.append_nil, List.nil_append, List.cons_append, if_true, if_false, reduceIte, Bool.false_eq_true, not_true_eq_false, not_false_eq_true, true_and, and_true, false_and, and_false, true_or, or_true,  Nat.reduceEqDiff, Nat.reduceAdd, Nat.reduceLeDiff], kp_refl⟩
  · rw [if_neg c1]
    refine ms_of (v := 0) I (by decide) E ?_
    have I1 := MI_th I
    obtain ⟨s, k, v, t1, t2, t3, t4, t5, ww⟩ := MI_y I1 c1
    generalize th h = g at k v ⊢
    clear E I I1
    have h6 := ww.1
    have F := k.1
    have hs := k.2.2.1.1
    have f := k.2.2.1.2.1
    obtain ⟨h1, e1, x1, u1, a1⟩ := c_finds (d := d + 6) k v
    have k1 := mK_sx k x1 (by decide)
    have b1 : ∀ Q, WM (d + 9) mX9_everBurnt [.ref (44 : Nat)] h1 Q = Q (some (some (.int (nI (evN (sA S) (sX S).1))))) h1 := c_everBurnt (d := d + 8) k1.1 k1.2.1 k1.2.2.1 a1
    obtain ⟨h2, e2, k2⟩ := l_mbT (d := d + 6) (x := sX S) t4 t3 (aN (sA S)) 0 (by omega) h1 none (evN (sA S) (sX S).1) k1 (by rw [x1.2.2.2 46 (by decide)]; exact v) (Nat.le_refl _)
    refine ⟨h2, fun Q => ?_, kp_tr (kp_sx x1 (by decide)) k2⟩
    simp (implicitDefEqProofs := false) only [rX9_bestTold_5, rX9_bestTold_5b, rX9_bestTold_6, rX9_bestTold_9, rX9_bestTold_9b, rX9_bestTold_12, rX9_bestTold_12b, rX9_bestTold_13, rX9_bestTold_14, rX9_bestTold_17, rX9_bestTold_18, rX9_bestTold_18b, rX9_bestTold_19, rX9_bestTold_22, rX9_bestTold_22b, rX9_bestTold_23, rX9_bestTold_26, rX9_bestTold_27, rX9_bestTold_29, rX9_bestTold_30, rX9_bestTold_31, kA_44, kB_44, k.2.1, e1, b1, pCX9_bestTold, pSX9_bestTold, pOX9_bestTold, pLX9_bestTold, pCX9_finds, pSX9_finds, pOX9_finds, pLX9_finds, pCX9_everBurnt, pSX9_everBurnt, pOX9_everBurnt, pLX9_everBurnt, kl_I, kl_J, kl_R, kl_T, kl_N, Nat.le_refl, Nat.zero_le, List.map_nil, List.map_cons, List.sum_nil, List.sum_cons, c_I, c_J, c_R, c_T, va_rf, hI_wI, hJ_wJ, hR_wR, hI_J, hI_R, hJ_I, hJ_R, hR_I, hR_J, hN_I, hN_J, hN_R, wI_I, wJ_J, upd_at, updL_at, kR_s, Option.toList, List.append_nil, List.nil_append, List.cons_append, if_true, if_false, reduceIte, Bool.false_eq_true, not_true_eq_false, not_false_eq_true, true_and, and_true, false_and, and_false, true_or, or_true,  Nat.reduceEqDiff, Nat.reduceAdd, Nat.reduceLeDiff]
    exact e2 Q
theorem l_mdumb {d : Nat} {s : Nat} {a : aS} {x : sT} (hx : x.1 < 2 ^ aN a) (hw : x.2.1 < 64) : ∀ (m i : Nat), i + m = 91 → ∀ (h : qH) (_ : mK h s a) (_ : vF (hI h 47) a x) (_ : atR h a (dayN a x.1)), ∃ h1, (∀ Q, WP (d + 5) mX9_dumbDay (0, 0) 30 [some (.ref (44 : Nat)), some (.int (nI i))] [] h Q = Q (some (some (.int (oI (duL a x.1 x.2.1 m i))))) (tm h1 0)) ∧ kp h h1 := by
  intro m
  induction m with
  | zero =>
    intro i hi h k v t
    obtain rfl : i = 91 := by omega
    refine ⟨h, fun Q => ?_, kp_refl⟩
    simp (implicitDefEqProofs := false) only [rX9_dumbDay_30, rX9_dumbDay_31, rX9_dumbDay_33, rX9_dumbDay_36, rX9_dumbDay_36b, rX9_dumbDay_37, rX9_dumbDay_38, rX9_dumbDay_41, rX9_dumbDay_43, rX9_dumbDay_46, rX9_dumbDay_46b, rX9_dumbDay_47, rX9_dumbDay_48, rX9_dumbDay_51, rX9_dumbDay_54, rX9_dumbDay_54b, rX9_dumbDay_55, rX9_dumbDay_56, rX9_dumbDay_59, rX9_dumbDay_66, rX9_dumbDay_66b, rX9_dumbDay_67, rX9_dumbDay_69, rX9_dumbDay_72, kA_44, kB_44, show (90 : Int32) < nI 91 from by decide, c_mgood, duL, oI_no, pCX9_dumbDay, pSX9_dumbDay, pOX9_dumbDay, pLX9_dumbDay, pCX9_good, pSX9_good, pOX9_good, pLX9_good, kl_I, kl_J, kl_R, kl_T, kl_N, Nat.le_refl, Nat.zero_le, List.map_nil, List.map_cons, List.sum_nil, List.sum_cons, c_I, c_J, c_R, c_T, va_rf, hI_wI, hJ_wJ, hR_wR, hI_J, hI_R, hJ_I, hJ_R, hR_I, hR_J, hN_I, hN_J, hN_R, wI_I, wJ_J, upd_at, updL_at, kR_s, Option.toList, List.append_nil, List.nil_append, List.cons_append, if_true, if_false, reduceIte, Bool.false_eq_true, not_true_eq_false, not_false_eq_true, true_and, and_true, false_and, and_false, true_or, or_true,  Nat.reduceEqDiff, Nat.reduceAdd, Nat.reduceLeDiff]
  | succ m ih =>
    intro i hi h k v t
    have h6 := k.2.2.1.2.2.1.1
    have p := p6 h6
    have nx : ∀ Q, WM (d + 4) mX9_nextOn [.ref (44 : Nat), .int (nI i)] h Q = Q (some (some (.int (oI (nxN a x.1 x.2.1 i))))) h := c_nextOn (d := d + 3) (y := i) k.1 k.2.1 k.2.2.1 t hw (by omega) v.2.2.2.1
    have q1 := oI_none (o := nxN a x.1 x.2.1 i) (fun z hz => by have := nxN_lt hz; omega)
    have q9 : ((90 : Int32) < nI i) = (90 < i) := ngt (x := i) (k := 90) (c := 90) rfl (by omega) (by omega)
    rw [duL]
    by_cases c1 : nxN a x.1 x.2.1 i = none
    · rw [if_neg (fun q => q.1 c1)]
      obtain ⟨h3, e3, kp3⟩ := ih (i + 1) (by omega) h k v t
      refine ⟨h3, fun Q => ?_, kp3⟩
      have e3 := e3 Q
      simp (implicitDefEqProofs := false) only [rX9_dumbDay_30, rX9_dumbDay_31, rX9_dumbDay_33, rX9_dumbDay_36, rX9_dumbDay_36b, rX9_dumbDay_37, rX9_dumbDay_38, rX9_dumbDay_41, rX9_dumbDay_43, rX9_dumbDay_46, rX9_dumbDay_46b, rX9_dumbDay_47, rX9_dumbDay_48, rX9_dumbDay_51, rX9_dumbDay_54, rX9_dumbDay_54b, rX9_dumbDay_55, rX9_dumbDay_56, rX9_dumbDay_59, kA_44, kB_44, q9, show ¬ 90 < i from by omega, nx, c1, oI_no, pCX9_dumbDay, pSX9_dumbDay, pOX9_dumbDay, pLX9_dumbDay, pCX9_nextOn, pSX9_nextOn, pOX9_nextOn, pLX9_nextOn, kl_I, kl_J, kl_R, kl_T, kl_N, Nat.le_refl, Nat.zero_le, List.map_nil, List.map_cons, List.sum_nil, List.sum_cons, c_I, c_J, c_R, c_T, va_rf, hI_wI, hJ_wJ, hR_wR, hI_J, hI_R, hJ_I, hJ_R, hR_I, hR_J, hN_I, hN_J, hN_R, wI_I, wJ_J, upd_at, updL_at, kR_s, Option.toList, List.append_nil, List.nil_append, List.cons_append, if_true, if_false, reduceIte, Bool.false_eq_true, not_true_eq_false, not_false_eq_true, true_and, and_true, false_and, and_false, true_or, or_true,  Nat.reduceEqDiff, Nat.reduceAdd, Nat.reduceLeDiff]
      rw [rX9_dumbDay_60, nI_1]
      simp (implicitDefEqProofs := false) only [rX9_dumbDay_63, kl_I, kl_J, kl_R, kl_T, kl_N, Nat.le_refl, Nat.zero_le, List.map_nil, List.map_cons, List.sum_nil, List.sum_cons, c_I, c_J, c_R, c_T, va_rf, hI_wI, hJ_wJ, hR_wR, hI_J, hI_R, hJ_I, hJ_R, hR_I, hR_J, hN_I, hN_J, hN_R, wI_I, wJ_J, upd_at, updL_at, kR_s, Option.toList, List.append_nil, List.nil_append, List.cons_append, if_true, if_false, reduceIte, Bool.false_eq_true, not_true_eq_false, not_false_eq_true, true_and, and_true, false_and, and_false, true_or, or_true,  Nat.reduceEqDiff, Nat.reduceAdd, Nat.reduceLeDiff]
      exact e3
    · obtain ⟨h2, e2, x2, u2, a2⟩ := c_magreeing (d := d) (y := i) k v t hx hw (by omega)
      have ag := agN_lt k.2.2.1.2.2.1 (t := x.1) (wi := x.2.1) (y := i)
      have q2 : (nI (agN a x.1 x.2.1 i) = 0) = (agN a x.1 x.2.1 i = 0) := nq (x := agN a x.1 x.2.1 i) (k := 0) (c := 0) rfl (by omega) (by omega)
      by_cases c2 : agN a x.1 x.2.1 i = 0
      · rw [if_pos ⟨c1, c2⟩]
        refine ⟨h2, fun Q => ?_, kp_sx x2 (by decide)⟩
        simp (implicitDefEqProofs := false) only [rX9_dumbDay_30, rX9_dumbDay_31, rX9_dumbDay_33, rX9_dumbDay_36, rX9_dumbDay_36b, rX9_dumbDay_37, rX9_dumbDay_38, rX9_dumbDay_41, rX9_dumbDay_43, rX9_dumbDay_46, rX9_dumbDay_46b, rX9_dumbDay_47, rX9_dumbDay_48, rX9_dumbDay_51, rX9_dumbDay_54, rX9_dumbDay_54b, rX9_dumbDay_55, rX9_dumbDay_56, rX9_dumbDay_59, kA_44, kB_44, q9, show ¬ 90 < i from by omega, nx, q1, c1, e2, q2, c2, nI_0, c_mgood, oI_so, pCX9_dumbDay, pSX9_dumbDay, pOX9_dumbDay, pLX9_dumbDay, pCX9_nextOn, pSX9_nextOn, pOX9_nextOn, pLX9_nextOn, pCX9_agreeing, pSX9_agreeing, pOX9_agreeing, pLX9_agreeing, pCX9_good, pSX9_good, pOX9_good, pLX9_good, kl_I, kl_J, kl_R, kl_T, kl_N, Nat.le_refl, Nat.zero_le, List.map_nil, List.map_cons, List.sum_nil, List.sum_cons, c_I, c_J, c_R, c_T, va_rf, hI_wI, hJ_wJ, hR_wR, hI_J, hI_R, hJ_I, hJ_R, hR_I, hR_J, hN_I, hN_J, hN_R, wI_I, wJ_J, upd_at, updL_at, kR_s, Option.toList, List.append_nil, List.nil_append, List.cons_append, if_true, if_false, reduceIte, Bool.false_eq_true, not_true_eq_false, not_false_eq_true, true_and, and_true, false_and, and_false, true_or, or_true,  Nat.reduceEqDiff, Nat.reduceAdd, Nat.reduceLeDiff]
      · rw [if_neg (fun q => c2 q.2)]
        obtain ⟨h3, e3, kp3⟩ := ih (i + 1) (by omega) h2 (mK_sx k x2 (by decide)) u2 a2
        refine ⟨h3, fun Q => ?_, kp_tr (kp_sx x2 (by decide)) kp3⟩
        have e3 := e3 Q
        simp (implicitDefEqProofs := false) only [rX9_dumbDay_30, rX9_dumbDay_31, rX9_dumbDay_33, rX9_dumbDay_36, rX9_dumbDay_36b, rX9_dumbDay_37, rX9_dumbDay_38, rX9_dumbDay_41, rX9_dumbDay_43, rX9_dumbDay_46, rX9_dumbDay_46b, rX9_dumbDay_47, rX9_dumbDay_48, rX9_dumbDay_51, rX9_dumbDay_54, rX9_dumbDay_54b, rX9_dumbDay_55, rX9_dumbDay_56, rX9_dumbDay_59, kA_44, kB_44, q9, show ¬ 90 < i from by omega, nx, q1, c1, e2, q2, c2, pCX9_dumbDay, pSX9_dumbDay, pOX9_dumbDay, pLX9_dumbDay, pCX9_nextOn, pSX9_nextOn, pOX9_nextOn, pLX9_nextOn, pCX9_agreeing, pSX9_agreeing, pOX9_agreeing, pLX9_agreeing, kl_I, kl_J, kl_R, kl_T, kl_N, Nat.le_refl, Nat.zero_le, List.map_nil, List.map_cons, List.sum_nil, List.sum_cons, c_I, c_J, c_R, c_T, va_rf, hI_wI, hJ_wJ, hR_wR, hI_J, hI_R, hJ_I, hJ_R, hR_I, hR_J, hN_I, hN_J, hN_R, wI_I, wJ_J, upd_at, updL_at, kR_s, Option.toList, List.append_nil, List.nil_append, List.cons_append, if_true, if_false, reduceIte, Bool.false_eq_true, not_true_eq_false, not_false_eq_true, true_and, and_true, false_and, and_false, true_or, or_true,  Nat.reduceEqDiff, Nat.reduceAdd, Nat.reduceLeDiff]
        rw [rX9_dumbDay_60, nI_1]
        simp (implicitDefEqProofs := false) only [rX9_dumbDay_63, kl_I, kl_J, kl_R, kl_T, kl_N, Nat.le_refl, Nat.zero_le, List.map_nil, List.map_cons, List.sum_nil, List.sum_cons, c_I, c_J, c_R, c_T, va_rf, hI_wI, hJ_wJ, hR_wR, hI_J, hI_R, hJ_I, hJ_R, hR_I, hR_J, hN_I, hN_J, hN_R, wI_I, wJ_J, upd_at, updL_at, kR_s, Option.toList, List.append_nil, List.nil_append, List.cons_append, if_true, if_false, reduceIte, Bool.false_eq_true, not_true_eq_false, not_false_eq_true, true_and, and_true, false_and, and_false, true_or, or_true,  Nat.reduceEqDiff, Nat.reduceAdd, Nat.reduceLeDiff]
        exact e3
theorem m_dumbDay {d : Nat} {h : qH} {S : AS} (I : MI h S) : ms 0 (d + 10) mX9_dumbDay [.ref (44 : Nat)] h (trS S (sDumb S).1) (some (.int (sDumb S).2)) := by
  have E : ∀ Q, WM (d + 10) mX9_dumbDay [.ref (44 : Nat)] h Q = WP (d + 10) mX9_dumbDay (0, 0) 5 [some (.ref (44 : Nat)), none] [] (th h) Q := fun Q => by simp (implicitDefEqProofs := false) only [eX9_dumbDay, rX9_dumbDay_0, rX9_dumbDay_0b, rX9_dumbDay_1, rX9_dumbDay_2, kA_44, kB_44, pCX9_dumbDay, pSX9_dumbDay, pOX9_dumbDay, pLX9_dumbDay, th, kl_I, kl_J, kl_R, kl_T, kl_N, Nat.le_refl, Nat.zero_le, List.map_nil, List.map_cons, List.sum_nil, List.sum_cons, c_I, c_J, c_R, c_T, va_rf, hI_wI, hJ_wJ, hR_wR, hI_J, hI_R, hJ_I, hJ_R, hR_I, hR_J, hN_I, hN_J, hN_R, wI_I, wJ_J, upd_at, updL_at, kR_s, Option.toList, List.append_nil, List.nil_append, List.cons_append, if_true, if_false, reduceIte, Bool.false_eq_true, not_true_eq_false, not_false_eq_true, true_and, and_true, false_and, and_false, true_or, or_true,  Nat.reduceEqDiff, Nat.reduceAdd, Nat.reduceLeDiff]
  rw [sDumb]
  by_cases c1 : aN (sA S) = 0
  · rw [if_pos c1]
    refine ms_of (v := 1) I (by decide) E ?_
    obtain ⟨F, r⟩ := MI_n (MI_th I) c1
    generalize th h = g at F r ⊢
    exact ⟨g, fun Q => by simp (implicitDefEqProofs := false) only [rX9_dumbDay_5, rX9_dumbDay_5b, rX9_dumbDay_6, rX9_dumbDay_9, rX9_dumbDay_9b, rX9_dumbDay_12, rX9_dumbDay_12b, rX9_dumbDay_13, rX9_dumbDay_14, rX9_dumbDay_17, kA_44, kB_44, r, c_mrefused, show nI 1 = 1 from rfl, pCX9_dumbDay, pSX9_dumbDay, pOX9_dumbDay, pLX9_dumbDay, pCX9_refused, pSX9_refused, pOX9_refused, pLX9_refused, kl_I, kl_J, kl_R, kl_T, kl_N, Nat.le_refl, Nat.zero_le, List.map_nil, List.map_cons, List.sum_nil, List.sum_cons, c_I, c_J, c_R, c_T, va_rf, hI_wI, hJ_wJ, hR_wR, hI_J, hI_R, hJ_I, hJ_R, hR_I, hR_J, hN_I, hN_J, hN_R, wI_I, wJ_J, upd_at, updL_at, kR_s, Option.toList, List.append_nil, List.nil_append, List.cons_append, if_true, if_false, reduceIte, Bool.false_eq_true, not_true_eq_false, not_false_eq_true, true_and, and_true, false_and, and_false, true_or, or_true,  Nat.reduceEqDiff, Nat.reduceAdd, Nat.reduceLeDiff], kp_refl⟩
  · rw [if_neg c1]
    refine ms_of (v := 0) I (by decide) E ?_
    have I1 := MI_th I
    obtain ⟨s, k, v, t1, t2, t3, t4, t5, ww⟩ := MI_y I1 c1
    generalize th h = g at k v ⊢
    clear E I I1
    have h6 := ww.1
    have F := k.1
    have hs := k.2.2.1.1
    have f := k.2.2.1.2.1
    obtain ⟨h1, e1, x1, u1, a1⟩ := c_finds (d := d + 6) k v
    have k1 := mK_sx k x1 (by decide)
    have F1 := k1.1
    obtain ⟨h2, e2, k2⟩ := l_mdumb (d := d + 5) (x := sX S) t1 t5 (91 - (sX S).2.2) (sX S).2.2 (by omega) h1 k1 u1 a1
    have v1 : hI h1 46 9 = nI (sX S).2.2 := by rw [x1.2.2.2 46 (by decide)]; exact v.2.2.2.2
    have v9 : vp_in 9 10 := nI_vp (i := 9) (by omega) (by decide)
    have cl9 : (9 : Int32).toNatClampNeg = 9 := rfl
    refine ⟨h2, fun Q => ?_, kp_tr (kp_sx x1 (by decide)) k2⟩
    simp (implicitDefEqProofs := false) only [rX9_dumbDay_5, rX9_dumbDay_5b, rX9_dumbDay_6, rX9_dumbDay_9, rX9_dumbDay_9b, rX9_dumbDay_12, rX9_dumbDay_12b, rX9_dumbDay_13, rX9_dumbDay_14, rX9_dumbDay_17, rX9_dumbDay_18, rX9_dumbDay_18b, rX9_dumbDay_19, rX9_dumbDay_22, rX9_dumbDay_22b, rX9_dumbDay_23, rX9_dumbDay_26, rX9_dumbDay_28, rX9_dumbDay_29, kA_44, kB_44, kA_46, kB_46, fin_44_5 F1, fin_44_15 F1, fin_44_16 F1, fin_44_17 F1, fin_44_18 F1, fin_44_21 F1, fin_44_23 F1, fin_44_24 F1, fin_44_25 F1, fin_44_29 F1, fin_44_33 F1, k.2.1, e1, v9, cl9, v1, pCX9_dumbDay, pSX9_dumbDay, pOX9_dumbDay, pLX9_dumbDay, pCX9_finds, pSX9_finds, pOX9_finds, pLX9_finds, kl_I, kl_J, kl_R, kl_T, kl_N, Nat.le_refl, Nat.zero_le, List.map_nil, List.map_cons, List.sum_nil, List.sum_cons, c_I, c_J, c_R, c_T, va_rf, hI_wI, hJ_wJ, hR_wR, hI_J, hI_R, hJ_I, hJ_R, hR_I, hR_J, hN_I, hN_J, hN_R, wI_I, wJ_J, upd_at, updL_at, kR_s, Option.toList, List.append_nil, List.nil_append, List.cons_append, if_true, if_false, reduceIte, Bool.false_eq_true, not_true_eq_false, not_false_eq_true, true_and, and_true, false_and, and_false, true_or, or_true,  Nat.reduceEqDiff, Nat.reduceAdd, Nat.reduceLeDiff]
    exact e2 Q
theorem m_house {d : Nat} {h : qH} {S : AS} {y z : Int32} (I : MI h S) : ms 0 (d + 10) mX9_house [.ref (44 : Nat), .int y, .int z] h (trS S (sHouse S y z).1) (some (.int (sHouse S y z).2)) := by
  have E : ∀ Q, WM (d + 10) mX9_house [.ref (44 : Nat), .int y, .int z] h Q = WP (d + 10) mX9_house (0, 0) 5 [some (.ref (44 : Nat)), some (.int y), some (.int z)] [] (th h) Q := fun Q => by simp (implicitDefEqProofs := false) only [eX9_house, rX9_house_0, rX9_house_0b, rX9_house_1, rX9_house_2, kA_44, kB_44, pCX9_house, pSX9_house, pOX9_house, pLX9_house, th, kl_I, kl_J, kl_R, kl_T, kl_N, Nat.le_refl, Nat.zero_le, List.map_nil, List.map_cons, List.sum_nil, List.sum_cons, c_I, c_J, c_R, c_T, va_rf, hI_wI, hJ_wJ, hR_wR, hI_J, hI_R, hJ_I, hJ_R, hR_I, hR_J, hN_I, hN_J, hN_R, wI_I, wJ_J, upd_at, updL_at, kR_s, Option.toList, List.append_nil, List.nil_append, List.cons_append, if_true, if_false, reduceIte, Bool.false_eq_true, not_true_eq_false, not_false_eq_true, true_and, and_true, false_and, and_false, true_or, or_true,  Nat.reduceEqDiff, Nat.reduceAdd, Nat.reduceLeDiff]
  rw [sHouse]
  by_cases c1 : aN (sA S) = 0
  · rw [c1, ix0]
    refine ms_of (v := 1) I (by decide) E ?_
    obtain ⟨F, r⟩ := MI_n (MI_th I) c1
    generalize th h = g at F r ⊢
    exact ⟨g, fun Q => by simp (implicitDefEqProofs := false) only [rX9_house_5, rX9_house_5b, rX9_house_6, rX9_house_7, rX9_house_10, rX9_house_13, rX9_house_14, rX9_house_15, rX9_house_16, rX9_house_19, rX9_house_22, rX9_house_22b, rX9_house_23, rX9_house_24, rX9_house_27, kA_44, kB_44, c_isHouse0 r, c_mrefused, show nI 1 = 1 from rfl, pCX9_house, pSX9_house, pOX9_house, pLX9_house, pCX9_isHouse, pSX9_isHouse, pOX9_isHouse, pLX9_isHouse, pCX9_refused, pSX9_refused, pOX9_refused, pLX9_refused, kl_I, kl_J, kl_R, kl_T, kl_N, Nat.le_refl, Nat.zero_le, List.map_nil, List.map_cons, List.sum_nil, List.sum_cons, c_I, c_J, c_R, c_T, va_rf, hI_wI, hJ_wJ, hR_wR, hI_J, hI_R, hJ_I, hJ_R, hR_I, hR_J, hN_I, hN_J, hN_R, wI_I, wJ_J, upd_at, updL_at, kR_s, Option.toList, List.append_nil, List.nil_append, List.cons_append, if_true, if_false, reduceIte, Bool.false_eq_true, not_true_eq_false, not_false_eq_true, true_and, and_true, false_and, and_false, true_or, or_true,  Nat.reduceEqDiff, Nat.reduceAdd, Nat.reduceLeDiff], kp_refl⟩
  · have I1 := MI_th I
    obtain ⟨s, k, v, t1, t2, t3, t4, t5, ww⟩ := MI_y I1 c1
    have h6 := ww.1
    have ih := c_isHouse (d := d + 9) (y := y) k.2.1 k.2.2.1
    cases hy : ix y (aN (sA S)) with
    | none =>
      rw [hy] at ih
      refine ms_of (v := 1) I (by decide) E ?_
      generalize th h = g at k ih ⊢
      exact ⟨g, fun Q => by simp (implicitDefEqProofs := false) only [rX9_house_5, rX9_house_5b, rX9_house_6, rX9_house_7, rX9_house_10, rX9_house_13, rX9_house_14, rX9_house_15, rX9_house_16, rX9_house_19, rX9_house_22, rX9_house_22b, rX9_house_23, rX9_house_24, rX9_house_27, kA_44, kB_44, ih, decide_false, bI_f, c_mrefused, show nI 1 = 1 from rfl, pCX9_house, pSX9_house, pOX9_house, pLX9_house, pCX9_isHouse, pSX9_isHouse, pOX9_isHouse, pLX9_isHouse, pCX9_refused, pSX9_refused, pOX9_refused, pLX9_refused, kl_I, kl_J, kl_R, kl_T, kl_N, Nat.le_refl, Nat.zero_le, List.map_nil, List.map_cons, List.sum_nil, List.sum_cons, c_I, c_J, c_R, c_T, va_rf, hI_wI, hJ_wJ, hR_wR, hI_J, hI_R, hJ_I, hJ_R, hR_I, hR_J, hN_I, hN_J, hN_R, wI_I, wJ_J, upd_at, updL_at, kR_s, Option.toList, List.append_nil, List.nil_append, List.cons_append, if_true, if_false, reduceIte, Bool.false_eq_true, not_true_eq_false, not_false_eq_true, true_and, and_true, false_and, and_false, true_or, or_true,  Nat.reduceEqDiff, Nat.reduceAdd, Nat.reduceLeDiff], kp_refl⟩
    | some i =>
      rw [hy] at ih
      obtain ⟨rfl, hi⟩ := ix_s (by omega) hy
      simp only
      have ci := fun hh => c_in (d := d + 9) (h := hh) (v := z) (lo := 0) (hi := 5)
      have hs := k.2.2.1.1
      have v6 : vp_in (nI i) 6 := nI_vp (by omega) (by decide)
      have v10 : vp_in (nI i) 10 := nI_vp (by omega) (by decide)
      have cl : (nI i).toNatClampNeg = i := nI_cl (by omega)
      have v7 : vp_in 7 10 := nI_vp (i := 7) (by omega) (by decide)
      have cl7 : (7 : Int32).toNatClampNeg = 7 := rfl
      have v8 : vp_in 8 10 := nI_vp (i := 8) (by omega) (by decide)
      have cl8 : (8 : Int32).toNatClampNeg = 8 := rfl
      have mb7 := fun hh => c_mbit (d := d + 9) (h := hh) (t := (sX S).1) (j := i) (by omega) (by omega)
      have mb8 := fun hh => c_mbit (d := d + 9) (h := hh) (t := (sX S).2.1) (j := i) (by omega) (by omega)
      by_cases zz : z < 0 ∨ 5 < z
      · have z0 : ¬ z = 0 ∧ ¬ z = 1 ∧ ¬ z = 2 ∧ ¬ z = 3 ∧ ¬ z = 4 ∧ ¬ z = 5 := by
          refine ⟨?_, ?_, ?_, ?_, ?_, ?_⟩ <;> (rintro rfl; revert zz; decide)
        rw [if_neg z0.1, if_neg z0.2.1, if_neg z0.2.2.1, if_neg z0.2.2.2.1, if_neg z0.2.2.2.2.1, if_neg z0.2.2.2.2.2]
        refine ms_of (v := 1) I (by decide) E ?_
        generalize th h = g at k ih ⊢
        exact ⟨g, fun Q => by simp (implicitDefEqProofs := false) only [rX9_house_5, rX9_house_5b, rX9_house_6, rX9_house_7, rX9_house_10, rX9_house_13, rX9_house_14, rX9_house_15, rX9_house_16, rX9_house_19, rX9_house_22, rX9_house_22b, rX9_house_23, rX9_house_24, rX9_house_27, kA_44, kB_44, ih, reduceCtorEq, decide_true, bI_t, show ¬ (1 : Int32) = 0 from by decide, ci, zz, decide_false, bI_f, c_mrefused, show nI 1 = 1 from rfl, pCX9_house, pSX9_house, pOX9_house, pLX9_house, pCX9_isHouse, pSX9_isHouse, pOX9_isHouse, pLX9_isHouse, pCX9_in, pSX9_in, pOX9_in, pLX9_in, pCX9_refused, pSX9_refused, pOX9_refused, pLX9_refused, kl_I, kl_J, kl_R, kl_T, kl_N, Nat.le_refl, Nat.zero_le, List.map_nil, List.map_cons, List.sum_nil, List.sum_cons, c_I, c_J, c_R, c_T, va_rf, hI_wI, hJ_wJ, hR_wR, hI_J, hI_R, hJ_I, hJ_R, hR_I, hR_J, hN_I, hN_J, hN_R, wI_I, wJ_J, upd_at, updL_at, kR_s, Option.toList, List.append_nil, List.nil_append, List.cons_append, if_true, if_false, reduceIte, Bool.false_eq_true, not_true_eq_false, not_false_eq_true, true_and, and_true, false_and, and_false, true_or, or_true,  Nat.reduceEqDiff, Nat.reduceAdd, Nat.reduceLeDiff], kp_refl⟩
      · have zk : z = 0 ∨ z = 1 ∨ z = 2 ∨ z = 3 ∨ z = 4 ∨ z = 5 := by
          obtain ⟨n, hn, rfl⟩ := nI_of2 (x := z) (M := 5) (n := 5) rfl (fun q => zz (.inl q)) (Int32.not_lt.mp (fun q => zz (.inr q)))
          rcases (show n = 0 ∨ n = 1 ∨ n = 2 ∨ n = 3 ∨ n = 4 ∨ n = 5 by omega) with rfl | rfl | rfl | rfl | rfl | rfl <;> decide
        rcases zk with rfl | rfl | rfl | rfl | rfl | rfl
        · rw [if_pos rfl]
          refine ms_of (v := 0) I (by decide) E ?_
          generalize th h = g at k ih v ⊢
          have F := k.1
          have f := k.2.2.1.2.1
          have q5 := k.2.2.1.2.2.2.2.1 i hi
          exact ⟨g, fun Q => by simp (implicitDefEqProofs := false) only [rX9_house_5, rX9_house_5b, rX9_house_6, rX9_house_7, rX9_house_10, rX9_house_13, rX9_house_14, rX9_house_15, rX9_house_16, rX9_house_19, rX9_house_28, rX9_house_29, rX9_house_64, rX9_house_64b, rX9_house_65, rX9_house_65b, rX9_house_66, rX9_house_69, rX9_house_72, rX9_house_73, rX9_house_74, rX9_house_77, rX9_house_78, rX9_house_78b, rX9_house_79, rX9_house_79b, rX9_house_80, rX9_house_83, rX9_house_84, rX9_house_85, rX9_house_88, rX9_house_89, rX9_house_89b, rX9_house_90, rX9_house_90b, rX9_house_91, rX9_house_94, rX9_house_97, rX9_house_98, rX9_house_99, rX9_house_102, rX9_house_103, rX9_house_103b, rX9_house_104, rX9_house_104b, rX9_house_105, rX9_house_108, rX9_house_111, rX9_house_112, rX9_house_113, rX9_house_116, rX9_house_117, rX9_house_117b, rX9_house_118, rX9_house_118b, rX9_house_119, rX9_house_122, rX9_house_124, rX9_house_125, rX9_house_126, rX9_house_129, rX9_house_132, rX9_house_133, rX9_house_136, rX9_house_137, rX9_house_140, rX9_house_141, rX9_house_141b, rX9_house_142, rX9_house_142b, rX9_house_143, rX9_house_146, rX9_house_148, rX9_house_149, rX9_house_150, rX9_house_153, rX9_house_156, rX9_house_157, rX9_house_160, rX9_house_161, rX9_house_164, kA_44, kB_44, kA_46, kB_46, fin_44_5 F, fin_44_15 F, fin_44_16 F, fin_44_17 F, fin_44_18 F, fin_44_21 F, fin_44_23 F, fin_44_24 F, fin_44_25 F, fin_44_29 F, fin_44_33 F, kU0 hs, kU1 hs, kV1 hs, fU1 f, kU2 hs, kV2 hs, fU2 f, kU3 hs, kV3 hs, fU3 f, kU4 hs, kV4 hs, fU4 f, kU5 hs, kV5 hs, fU5 f, kU6 hs, kV6 hs, fU6 f, kU7 hs, kV7 hs, fU7 f, kU8 hs, kV8 hs, fU8 f, kU9 hs, kV9 hs, fU9 f, kU10 hs, kV10 hs, fU10 f, kU11 hs, kV11 hs, fU11 f, kU12 hs, kV12 hs, fU12 f, nU hs, nUk hs, k.2.1, ih, reduceCtorEq, decide_true, bI_t, show ¬ (1 : Int32) = 0 from by decide, ci, show ¬ ((0 : Int32) < 0 ∨ (5 : Int32) < 0) from by decide, swT, Int32.reduceAdd, v6, v10, cl, q5.1, c_mgood, show nI 0 = 0 from rfl, pCX9_house, pSX9_house, pOX9_house, pLX9_house, pCX9_isHouse, pSX9_isHouse, pOX9_isHouse, pLX9_isHouse, pCX9_in, pSX9_in, pOX9_in, pLX9_in, pCX9_good, pSX9_good, pOX9_good, pLX9_good, kl_I, kl_J, kl_R, kl_T, kl_N, Nat.le_refl, Nat.zero_le, List.map_nil, List.map_cons, List.sum_nil, List.sum_cons, c_I, c_J, c_R, c_T, va_rf, hI_wI, hJ_wJ, hR_wR, hI_J, hI_R, hJ_I, hJ_R, hR_I, hR_J, hN_I, hN_J, hN_R, wI_I, wJ_J, upd_at, updL_at, kR_s, Option.toList, List.append_nil, List.nil_append, List.cons_append, if_true, if_false, reduceIte, Bool.false_eq_true, not_true_eq_false, not_false_eq_true, true_and, and_true, false_and, and_false, true_or, or_true,  Nat.reduceEqDiff, Nat.reduceAdd, Nat.reduceLeDiff], kp_refl⟩
        · rw [if_neg (by decide)]; rw [if_pos rfl]
          refine ms_of (v := 0) I (by decide) E ?_
          generalize th h = g at k ih v ⊢
          have F := k.1
          have f := k.2.2.1.2.1
          have q5 := k.2.2.1.2.2.2.2.1 i hi
          exact ⟨g, fun Q => by simp (implicitDefEqProofs := false) only [rX9_house_5, rX9_house_5b, rX9_house_6, rX9_house_7, rX9_house_10, rX9_house_13, rX9_house_14, rX9_house_15, rX9_house_16, rX9_house_19, rX9_house_28, rX9_house_29, rX9_house_64, rX9_house_64b, rX9_house_65, rX9_house_65b, rX9_house_66, rX9_house_69, rX9_house_72, rX9_house_73, rX9_house_74, rX9_house_77, rX9_house_78, rX9_house_78b, rX9_house_79, rX9_house_79b, rX9_house_80, rX9_house_83, rX9_house_84, rX9_house_85, rX9_house_88, rX9_house_89, rX9_house_89b, rX9_house_90, rX9_house_90b, rX9_house_91, rX9_house_94, rX9_house_97, rX9_house_98, rX9_house_99, rX9_house_102, rX9_house_103, rX9_house_103b, rX9_house_104, rX9_house_104b, rX9_house_105, rX9_house_108, rX9_house_111, rX9_house_112, rX9_house_113, rX9_house_116, rX9_house_117, rX9_house_117b, rX9_house_118, rX9_house_118b, rX9_house_119, rX9_house_122, rX9_house_124, rX9_house_125, rX9_house_126, rX9_house_129, rX9_house_132, rX9_house_133, rX9_house_136, rX9_house_137, rX9_house_140, rX9_house_141, rX9_house_141b, rX9_house_142, rX9_house_142b, rX9_house_143, rX9_house_146, rX9_house_148, rX9_house_149, rX9_house_150, rX9_house_153, rX9_house_156, rX9_house_157, rX9_house_160, rX9_house_161, rX9_house_164, kA_44, kB_44, kA_46, kB_46, fin_44_5 F, fin_44_15 F, fin_44_16 F, fin_44_17 F, fin_44_18 F, fin_44_21 F, fin_44_23 F, fin_44_24 F, fin_44_25 F, fin_44_29 F, fin_44_33 F, kU0 hs, kU1 hs, kV1 hs, fU1 f, kU2 hs, kV2 hs, fU2 f, kU3 hs, kV3 hs, fU3 f, kU4 hs, kV4 hs, fU4 f, kU5 hs, kV5 hs, fU5 f, kU6 hs, kV6 hs, fU6 f, kU7 hs, kV7 hs, fU7 f, kU8 hs, kV8 hs, fU8 f, kU9 hs, kV9 hs, fU9 f, kU10 hs, kV10 hs, fU10 f, kU11 hs, kV11 hs, fU11 f, kU12 hs, kV12 hs, fU12 f, nU hs, nUk hs, k.2.1, ih, reduceCtorEq, decide_true, bI_t, show ¬ (1 : Int32) = 0 from by decide, ci, show ¬ ((1 : Int32) < 0 ∨ (5 : Int32) < 1) from by decide, swT, Int32.reduceAdd, show ¬ (1 : Int32) = 0 from by decide, v6, v10, cl, v.1 i hi, c_mgood, show nI 0 = 0 from rfl, pCX9_house, pSX9_house, pOX9_house, pLX9_house, pCX9_isHouse, pSX9_isHouse, pOX9_isHouse, pLX9_isHouse, pCX9_in, pSX9_in, pOX9_in, pLX9_in, pCX9_good, pSX9_good, pOX9_good, pLX9_good, kl_I, kl_J, kl_R, kl_T, kl_N, Nat.le_refl, Nat.zero_le, List.map_nil, List.map_cons, List.sum_nil, List.sum_cons, c_I, c_J, c_R, c_T, va_rf, hI_wI, hJ_wJ, hR_wR, hI_J, hI_R, hJ_I, hJ_R, hR_I, hR_J, hN_I, hN_J, hN_R, wI_I, wJ_J, upd_at, updL_at, kR_s, Option.toList, List.append_nil, List.nil_append, List.cons_append, if_true, if_false, reduceIte, Bool.false_eq_true, not_true_eq_false, not_false_eq_true, true_and, and_true, false_and, and_false, true_or, or_true,  Nat.reduceEqDiff, Nat.reduceAdd, Nat.reduceLeDiff], kp_refl⟩
        · rw [if_neg (by decide)]; rw [if_neg (by decide)]; rw [if_pos rfl]
          refine ms_of (v := 0) I (by decide) E ?_
          generalize th h = g at k ih v ⊢
          have F := k.1
          have f := k.2.2.1.2.1
          have q5 := k.2.2.1.2.2.2.2.1 i hi
          exact ⟨g, fun Q => by simp (implicitDefEqProofs := false) only [rX9_house_5, rX9_house_5b, rX9_house_6, rX9_house_7, rX9_house_10, rX9_house_13, rX9_house_14, rX9_house_15, rX9_house_16, rX9_house_19, rX9_house_28, rX9_house_29, rX9_house_64, rX9_house_64b, rX9_house_65, rX9_house_65b, rX9_house_66, rX9_house_69, rX9_house_72, rX9_house_73, rX9_house_74, rX9_house_77, rX9_house_78, rX9_house_78b, rX9_house_79, rX9_house_79b, rX9_house_80, rX9_house_83, rX9_house_84, rX9_house_85, rX9_house_88, rX9_house_89, rX9_house_89b, rX9_house_90, rX9_house_90b, rX9_house_91, rX9_house_94, rX9_house_97, rX9_house_98, rX9_house_99, rX9_house_102, rX9_house_103, rX9_house_103b, rX9_house_104, rX9_house_104b, rX9_house_105, rX9_house_108, rX9_house_111, rX9_house_112, rX9_house_113, rX9_house_116, rX9_house_117, rX9_house_117b, rX9_house_118, rX9_house_118b, rX9_house_119, rX9_house_122, rX9_house_124, rX9_house_125, rX9_house_126, rX9_house_129, rX9_house_132, rX9_house_133, rX9_house_136, rX9_house_137, rX9_house_140, rX9_house_141, rX9_house_141b, rX9_house_142, rX9_house_142b, rX9_house_143, rX9_house_146, rX9_house_148, rX9_house_149, rX9_house_150, rX9_house_153, rX9_house_156, rX9_house_157, rX9_house_160, rX9_house_161, rX9_house_164, kA_44, kB_44, kA_46, kB_46, fin_44_5 F, fin_44_15 F, fin_44_16 F, fin_44_17 F, fin_44_18 F, fin_44_21 F, fin_44_23 F, fin_44_24 F, fin_44_25 F, fin_44_29 F, fin_44_33 F, kU0 hs, kU1 hs, kV1 hs, fU1 f, kU2 hs, kV2 hs, fU2 f, kU3 hs, kV3 hs, fU3 f, kU4 hs, kV4 hs, fU4 f, kU5 hs, kV5 hs, fU5 f, kU6 hs, kV6 hs, fU6 f, kU7 hs, kV7 hs, fU7 f, kU8 hs, kV8 hs, fU8 f, kU9 hs, kV9 hs, fU9 f, kU10 hs, kV10 hs, fU10 f, kU11 hs, kV11 hs, fU11 f, kU12 hs, kV12 hs, fU12 f, nU hs, nUk hs, k.2.1, ih, reduceCtorEq, decide_true, bI_t, show ¬ (1 : Int32) = 0 from by decide, ci, show ¬ ((2 : Int32) < 0 ∨ (5 : Int32) < 2) from by decide, swT, Int32.reduceAdd, show ¬ (2 : Int32) = 0 from by decide, show ¬ (2 : Int32) = 1 from by decide, v6, v10, cl, q5.2.2.1, c_mgood, show nI 0 = 0 from rfl, pCX9_house, pSX9_house, pOX9_house, pLX9_house, pCX9_isHouse, pSX9_isHouse, pOX9_isHouse, pLX9_isHouse, pCX9_in, pSX9_in, pOX9_in, pLX9_in, pCX9_good, pSX9_good, pOX9_good, pLX9_good, kl_I, kl_J, kl_R, kl_T, kl_N, Nat.le_refl, Nat.zero_le, List.map_nil, List.map_cons, List.sum_nil, List.sum_cons, c_I, c_J, c_R, c_T, va_rf, hI_wI, hJ_wJ, hR_wR, hI_J, hI_R, hJ_I, hJ_R, hR_I, hR_J, hN_I, hN_J, hN_R, wI_I, wJ_J, upd_at, updL_at, kR_s, Option.toList, List.append_nil, List.nil_append, List.cons_append, if_true, if_false, reduceIte, Bool.false_eq_true, not_true_eq_false, not_false_eq_true, true_and, and_true, false_and, and_false, true_or, or_true,  Nat.reduceEqDiff, Nat.reduceAdd, Nat.reduceLeDiff], kp_refl⟩
        · rw [if_neg (by decide)]; rw [if_neg (by decide)]; rw [if_neg (by decide)]; rw [if_pos rfl]
          refine ms_of (v := 0) I (by decide) E ?_
          generalize th h = g at k ih v ⊢
          have F := k.1
          have f := k.2.2.1.2.1
          have q5 := k.2.2.1.2.2.2.2.1 i hi
          exact ⟨g, fun Q => by simp (implicitDefEqProofs := false) only [rX9_house_5, rX9_house_5b, rX9_house_6, rX9_house_7, rX9_house_10, rX9_house_13, rX9_house_14, rX9_house_15, rX9_house_16, rX9_house_19, rX9_house_28, rX9_house_29, rX9_house_64, rX9_house_64b, rX9_house_65, rX9_house_65b, rX9_house_66, rX9_house_69, rX9_house_72, rX9_house_73, rX9_house_74, rX9_house_77, rX9_house_78, rX9_house_78b, rX9_house_79, rX9_house_79b, rX9_house_80, rX9_house_83, rX9_house_84, rX9_house_85, rX9_house_88, rX9_house_89, rX9_house_89b, rX9_house_90, rX9_house_90b, rX9_house_91, rX9_house_94, rX9_house_97, rX9_house_98, rX9_house_99, rX9_house_102, rX9_house_103, rX9_house_103b, rX9_house_104, rX9_house_104b, rX9_house_105, rX9_house_108, rX9_house_111, rX9_house_112, rX9_house_113, rX9_house_116, rX9_house_117, rX9_house_117b, rX9_house_118, rX9_house_118b, rX9_house_119, rX9_house_122, rX9_house_124, rX9_house_125, rX9_house_126, rX9_house_129, rX9_house_132, rX9_house_133, rX9_house_136, rX9_house_137, rX9_house_140, rX9_house_141, rX9_house_141b, rX9_house_142, rX9_house_142b, rX9_house_143, rX9_house_146, rX9_house_148, rX9_house_149, rX9_house_150, rX9_house_153, rX9_house_156, rX9_house_157, rX9_house_160, rX9_house_161, rX9_house_164, kA_44, kB_44, kA_46, kB_46, fin_44_5 F, fin_44_15 F, fin_44_16 F, fin_44_17 F, fin_44_18 F, fin_44_21 F, fin_44_23 F, fin_44_24 F, fin_44_25 F, fin_44_29 F, fin_44_33 F, kU0 hs, kU1 hs, kV1 hs, fU1 f, kU2 hs, kV2 hs, fU2 f, kU3 hs, kV3 hs, fU3 f, kU4 hs, kV4 hs, fU4 f, kU5 hs, kV5 hs, fU5 f, kU6 hs, kV6 hs, fU6 f, kU7 hs, kV7 hs, fU7 f, kU8 hs, kV8 hs, fU8 f, kU9 hs, kV9 hs, fU9 f, kU10 hs, kV10 hs, fU10 f, kU11 hs, kV11 hs, fU11 f, kU12 hs, kV12 hs, fU12 f, nU hs, nUk hs, k.2.1, ih, reduceCtorEq, decide_true, bI_t, show ¬ (1 : Int32) = 0 from by decide, ci, show ¬ ((3 : Int32) < 0 ∨ (5 : Int32) < 3) from by decide, swT, Int32.reduceAdd, show ¬ (3 : Int32) = 0 from by decide, show ¬ (3 : Int32) = 1 from by decide, show ¬ (3 : Int32) = 2 from by decide, v6, v10, cl, q5.2.2.2, c_mgood, show nI 0 = 0 from rfl, pCX9_house, pSX9_house, pOX9_house, pLX9_house, pCX9_isHouse, pSX9_isHouse, pOX9_isHouse, pLX9_isHouse, pCX9_in, pSX9_in, pOX9_in, pLX9_in, pCX9_good, pSX9_good, pOX9_good, pLX9_good, kl_I, kl_J, kl_R, kl_T, kl_N, Nat.le_refl, Nat.zero_le, List.map_nil, List.map_cons, List.sum_nil, List.sum_cons, c_I, c_J, c_R, c_T, va_rf, hI_wI, hJ_wJ, hR_wR, hI_J, hI_R, hJ_I, hJ_R, hR_I, hR_J, hN_I, hN_J, hN_R, wI_I, wJ_J, upd_at, updL_at, kR_s, Option.toList, List.append_nil, List.nil_append, List.cons_append, if_true, if_false, reduceIte, Bool.false_eq_true, not_true_eq_false, not_false_eq_true, true_and, and_true, false_and, and_false, true_or, or_true,  Nat.reduceEqDiff, Nat.reduceAdd, Nat.reduceLeDiff], kp_refl⟩
        · rw [if_neg (by decide)]; rw [if_neg (by decide)]; rw [if_neg (by decide)]; rw [if_neg (by decide)]; rw [if_pos rfl]
          refine ms_of (v := 0) I (by decide) E ?_
          generalize th h = g at k ih v ⊢
          have F := k.1
          have f := k.2.2.1.2.1
          have q5 := k.2.2.1.2.2.2.2.1 i hi
          cases hb : (sX S).1.testBit i with
          | false =>
            have mbb := mb7 g
            rw [hb] at mbb
            exact ⟨g, fun Q => by simp (implicitDefEqProofs := false) only [rX9_house_5, rX9_house_5b, rX9_house_6, rX9_house_7, rX9_house_10, rX9_house_13, rX9_house_14, rX9_house_15, rX9_house_16, rX9_house_19, rX9_house_28, rX9_house_29, rX9_house_64, rX9_house_64b, rX9_house_65, rX9_house_65b, rX9_house_66, rX9_house_69, rX9_house_72, rX9_house_73, rX9_house_74, rX9_house_77, rX9_house_78, rX9_house_78b, rX9_house_79, rX9_house_79b, rX9_house_80, rX9_house_83, rX9_house_84, rX9_house_85, rX9_house_88, rX9_house_89, rX9_house_89b, rX9_house_90, rX9_house_90b, rX9_house_91, rX9_house_94, rX9_house_97, rX9_house_98, rX9_house_99, rX9_house_102, rX9_house_103, rX9_house_103b, rX9_house_104, rX9_house_104b, rX9_house_105, rX9_house_108, rX9_house_111, rX9_house_112, rX9_house_113, rX9_house_116, rX9_house_117, rX9_house_117b, rX9_house_118, rX9_house_118b, rX9_house_119, rX9_house_122, rX9_house_124, rX9_house_125, rX9_house_126, rX9_house_129, rX9_house_132, rX9_house_133, rX9_house_136, rX9_house_137, rX9_house_140, rX9_house_141, rX9_house_141b, rX9_house_142, rX9_house_142b, rX9_house_143, rX9_house_146, rX9_house_148, rX9_house_149, rX9_house_150, rX9_house_153, rX9_house_156, rX9_house_157, rX9_house_160, rX9_house_161, rX9_house_164, kA_44, kB_44, kA_46, kB_46, fin_44_5 F, fin_44_15 F, fin_44_16 F, fin_44_17 F, fin_44_18 F, fin_44_21 F, fin_44_23 F, fin_44_24 F, fin_44_25 F, fin_44_29 F, fin_44_33 F, kU0 hs, kU1 hs, kV1 hs, fU1 f, kU2 hs, kV2 hs, fU2 f, kU3 hs, kV3 hs, fU3 f, kU4 hs, kV4 hs, fU4 f, kU5 hs, kV5 hs, fU5 f, kU6 hs, kV6 hs, fU6 f, kU7 hs, kV7 hs, fU7 f, kU8 hs, kV8 hs, fU8 f, kU9 hs, kV9 hs, fU9 f, kU10 hs, kV10 hs, fU10 f, kU11 hs, kV11 hs, fU11 f, kU12 hs, kV12 hs, fU12 f, nU hs, nUk hs, k.2.1, ih, reduceCtorEq, decide_true, bI_t, bI_f, show ¬ (1 : Int32) = 0 from by decide, ci, show ¬ ((4 : Int32) < 0 ∨ (5 : Int32) < 4) from by decide, swT, Int32.reduceAdd, show ¬ (4 : Int32) = 0 from by decide, show ¬ (4 : Int32) = 1 from by decide, show ¬ (4 : Int32) = 2 from by decide, show ¬ (4 : Int32) = 3 from by decide, v6, v10, cl, v.2.2.1, v7, cl7, mbb, c_mgood, show nI 0 = 0 from rfl, pCX9_house, pSX9_house, pOX9_house, pLX9_house, pCX9_isHouse, pSX9_isHouse, pOX9_isHouse, pLX9_isHouse, pCX9_in, pSX9_in, pOX9_in, pLX9_in, pCX9_bit, pSX9_bit, pOX9_bit, pLX9_bit, pCX9_good, pSX9_good, pOX9_good, pLX9_good, kl_I, kl_J, kl_R, kl_T, kl_N, Nat.le_refl, Nat.zero_le, List.map_nil, List.map_cons, List.sum_nil, List.sum_cons, c_I, c_J, c_R, c_T, va_rf, hI_wI, hJ_wJ, hR_wR, hI_J, hI_R, hJ_I, hJ_R, hR_I, hR_J, hN_I, hN_J, hN_R, wI_I, wJ_J, upd_at, updL_at, kR_s, Option.toList, List.append_nil, List.nil_append, List.cons_append, if_true, if_false, reduceIte, Bool.false_eq_true, not_true_eq_false, not_false_eq_true, true_and, and_true, false_and, and_false, true_or, or_true,  Nat.reduceEqDiff, Nat.reduceAdd, Nat.reduceLeDiff], kp_refl⟩
          | true =>
            have mbb := mb7 g
            rw [hb] at mbb
            exact ⟨g, fun Q => by simp (implicitDefEqProofs := false) only [rX9_house_5, rX9_house_5b, rX9_house_6, rX9_house_7, rX9_house_10, rX9_house_13, rX9_house_14, rX9_house_15, rX9_house_16, rX9_house_19, rX9_house_28, rX9_house_29, rX9_house_64, rX9_house_64b, rX9_house_65, rX9_house_65b, rX9_house_66, rX9_house_69, rX9_house_72, rX9_house_73, rX9_house_74, rX9_house_77, rX9_house_78, rX9_house_78b, rX9_house_79, rX9_house_79b, rX9_house_80, rX9_house_83, rX9_house_84, rX9_house_85, rX9_house_88, rX9_house_89, rX9_house_89b, rX9_house_90, rX9_house_90b, rX9_house_91, rX9_house_94, rX9_house_97, rX9_house_98, rX9_house_99, rX9_house_102, rX9_house_103, rX9_house_103b, rX9_house_104, rX9_house_104b, rX9_house_105, rX9_house_108, rX9_house_111, rX9_house_112, rX9_house_113, rX9_house_116, rX9_house_117, rX9_house_117b, rX9_house_118, rX9_house_118b, rX9_house_119, rX9_house_122, rX9_house_124, rX9_house_125, rX9_house_126, rX9_house_129, rX9_house_132, rX9_house_133, rX9_house_136, rX9_house_137, rX9_house_140, rX9_house_141, rX9_house_141b, rX9_house_142, rX9_house_142b, rX9_house_143, rX9_house_146, rX9_house_148, rX9_house_149, rX9_house_150, rX9_house_153, rX9_house_156, rX9_house_157, rX9_house_160, rX9_house_161, rX9_house_164, kA_44, kB_44, kA_46, kB_46, fin_44_5 F, fin_44_15 F, fin_44_16 F, fin_44_17 F, fin_44_18 F, fin_44_21 F, fin_44_23 F, fin_44_24 F, fin_44_25 F, fin_44_29 F, fin_44_33 F, kU0 hs, kU1 hs, kV1 hs, fU1 f, kU2 hs, kV2 hs, fU2 f, kU3 hs, kV3 hs, fU3 f, kU4 hs, kV4 hs, fU4 f, kU5 hs, kV5 hs, fU5 f, kU6 hs, kV6 hs, fU6 f, kU7 hs, kV7 hs, fU7 f, kU8 hs, kV8 hs, fU8 f, kU9 hs, kV9 hs, fU9 f, kU10 hs, kV10 hs, fU10 f, kU11 hs, kV11 hs, fU11 f, kU12 hs, kV12 hs, fU12 f, nU hs, nUk hs, k.2.1, ih, reduceCtorEq, decide_true, bI_t, bI_f, show ¬ (1 : Int32) = 0 from by decide, ci, show ¬ ((4 : Int32) < 0 ∨ (5 : Int32) < 4) from by decide, swT, Int32.reduceAdd, show ¬ (4 : Int32) = 0 from by decide, show ¬ (4 : Int32) = 1 from by decide, show ¬ (4 : Int32) = 2 from by decide, show ¬ (4 : Int32) = 3 from by decide, v6, v10, cl, v.2.2.1, v7, cl7, mbb, c_mgood, show nI 0 = 0 from rfl, pCX9_house, pSX9_house, pOX9_house, pLX9_house, pCX9_isHouse, pSX9_isHouse, pOX9_isHouse, pLX9_isHouse, pCX9_in, pSX9_in, pOX9_in, pLX9_in, pCX9_bit, pSX9_bit, pOX9_bit, pLX9_bit, pCX9_good, pSX9_good, pOX9_good, pLX9_good, kl_I, kl_J, kl_R, kl_T, kl_N, Nat.le_refl, Nat.zero_le, List.map_nil, List.map_cons, List.sum_nil, List.sum_cons, c_I, c_J, c_R, c_T, va_rf, hI_wI, hJ_wJ, hR_wR, hI_J, hI_R, hJ_I, hJ_R, hR_I, hR_J, hN_I, hN_J, hN_R, wI_I, wJ_J, upd_at, updL_at, kR_s, Option.toList, List.append_nil, List.nil_append, List.cons_append, if_true, if_false, reduceIte, Bool.false_eq_true, not_true_eq_false, not_false_eq_true, true_and, and_true, false_and, and_false, true_or, or_true,  Nat.reduceEqDiff, Nat.reduceAdd, Nat.reduceLeDiff], kp_refl⟩
        · rw [if_neg (by decide)]; rw [if_neg (by decide)]; rw [if_neg (by decide)]; rw [if_neg (by decide)]; rw [if_neg (by decide)]; rw [if_pos rfl]
          refine ms_of (v := 0) I (by decide) E ?_
          generalize th h = g at k ih v ⊢
          have F := k.1
          have f := k.2.2.1.2.1
          have q5 := k.2.2.1.2.2.2.2.1 i hi
          cases hb : (sX S).2.1.testBit i with
          | false =>
            have mbb := mb8 g
            rw [hb] at mbb
            exact ⟨g, fun Q => by simp (implicitDefEqProofs := false) only [rX9_house_5, rX9_house_5b, rX9_house_6, rX9_house_7, rX9_house_10, rX9_house_13, rX9_house_14, rX9_house_15, rX9_house_16, rX9_house_19, rX9_house_28, rX9_house_29, rX9_house_64, rX9_house_64b, rX9_house_65, rX9_house_65b, rX9_house_66, rX9_house_69, rX9_house_72, rX9_house_73, rX9_house_74, rX9_house_77, rX9_house_78, rX9_house_78b, rX9_house_79, rX9_house_79b, rX9_house_80, rX9_house_83, rX9_house_84, rX9_house_85, rX9_house_88, rX9_house_89, rX9_house_89b, rX9_house_90, rX9_house_90b, rX9_house_91, rX9_house_94, rX9_house_97, rX9_house_98, rX9_house_99, rX9_house_102, rX9_house_103, rX9_house_103b, rX9_house_104, rX9_house_104b, rX9_house_105, rX9_house_108, rX9_house_111, rX9_house_112, rX9_house_113, rX9_house_116, rX9_house_117, rX9_house_117b, rX9_house_118, rX9_house_118b, rX9_house_119, rX9_house_122, rX9_house_124, rX9_house_125, rX9_house_126, rX9_house_129, rX9_house_132, rX9_house_133, rX9_house_136, rX9_house_137, rX9_house_140, rX9_house_141, rX9_house_141b, rX9_house_142, rX9_house_142b, rX9_house_143, rX9_house_146, rX9_house_148, rX9_house_149, rX9_house_150, rX9_house_153, rX9_house_156, rX9_house_157, rX9_house_160, rX9_house_161, rX9_house_164, kA_44, kB_44, kA_46, kB_46, fin_44_5 F, fin_44_15 F, fin_44_16 F, fin_44_17 F, fin_44_18 F, fin_44_21 F, fin_44_23 F, fin_44_24 F, fin_44_25 F, fin_44_29 F, fin_44_33 F, kU0 hs, kU1 hs, kV1 hs, fU1 f, kU2 hs, kV2 hs, fU2 f, kU3 hs, kV3 hs, fU3 f, kU4 hs, kV4 hs, fU4 f, kU5 hs, kV5 hs, fU5 f, kU6 hs, kV6 hs, fU6 f, kU7 hs, kV7 hs, fU7 f, kU8 hs, kV8 hs, fU8 f, kU9 hs, kV9 hs, fU9 f, kU10 hs, kV10 hs, fU10 f, kU11 hs, kV11 hs, fU11 f, kU12 hs, kV12 hs, fU12 f, nU hs, nUk hs, k.2.1, ih, reduceCtorEq, decide_true, bI_t, bI_f, show ¬ (1 : Int32) = 0 from by decide, ci, show ¬ ((5 : Int32) < 0 ∨ (5 : Int32) < 5) from by decide, swT, Int32.reduceAdd, show ¬ (5 : Int32) = 0 from by decide, show ¬ (5 : Int32) = 1 from by decide, show ¬ (5 : Int32) = 2 from by decide, show ¬ (5 : Int32) = 3 from by decide, show ¬ (5 : Int32) = 4 from by decide, v6, v10, cl, v.2.2.2.1, v8, cl8, mbb, c_mgood, show nI 0 = 0 from rfl, pCX9_house, pSX9_house, pOX9_house, pLX9_house, pCX9_isHouse, pSX9_isHouse, pOX9_isHouse, pLX9_isHouse, pCX9_in, pSX9_in, pOX9_in, pLX9_in, pCX9_bit, pSX9_bit, pOX9_bit, pLX9_bit, pCX9_good, pSX9_good, pOX9_good, pLX9_good, kl_I, kl_J, kl_R, kl_T, kl_N, Nat.le_refl, Nat.zero_le, List.map_nil, List.map_cons, List.sum_nil, List.sum_cons, c_I, c_J, c_R, c_T, va_rf, hI_wI, hJ_wJ, hR_wR, hI_J, hI_R, hJ_I, hJ_R, hR_I, hR_J, hN_I, hN_J, hN_R, wI_I, wJ_J, upd_at, updL_at, kR_s, Option.toList, List.append_nil, List.nil_append, List.cons_append, if_true, if_false, reduceIte, Bool.false_eq_true, not_true_eq_false, not_false_eq_true, true_and, and_true, false_and, and_false, true_or, or_true,  Nat.reduceEqDiff, Nat.reduceAdd, Nat.reduceLeDiff], kp_refl⟩
          | true =>
            have mbb := mb8 g
            rw [hb] at mbb
            exact ⟨g, fun Q => by simp (implicitDefEqProofs := false) only [rX9_house_5, rX9_house_5b, rX9_house_6, rX9_house_7, rX9_house_10, rX9_house_13, rX9_house_14, rX9_house_15, rX9_house_16, rX9_house_19, rX9_house_28, rX9_house_29, rX9_house_64, rX9_house_64b, rX9_house_65, rX9_house_65b, rX9_house_66, rX9_house_69, rX9_house_72, rX9_house_73, rX9_house_74, rX9_house_77, rX9_house_78, rX9_house_78b, rX9_house_79, rX9_house_79b, rX9_house_80, rX9_house_83, rX9_house_84, rX9_house_85, rX9_house_88, rX9_house_89, rX9_house_89b, rX9_house_90, rX9_house_90b, rX9_house_91, rX9_house_94, rX9_house_97, rX9_house_98, rX9_house_99, rX9_house_102, rX9_house_103, rX9_house_103b, rX9_house_104, rX9_house_104b, rX9_house_105, rX9_house_108, rX9_house_111, rX9_house_112, rX9_house_113, rX9_house_116, rX9_house_117, rX9_house_117b, rX9_house_118, rX9_house_118b, rX9_house_119, rX9_house_122, rX9_house_124, rX9_house_125, rX9_house_126, rX9_house_129, rX9_house_132, rX9_house_133, rX9_house_136, rX9_house_137, rX9_house_140, rX9_house_141, rX9_house_141b, rX9_house_142, rX9_house_142b, rX9_house_143, rX9_house_146, rX9_house_148, rX9_house_149, rX9_house_150, rX9_house_153, rX9_house_156, rX9_house_157, rX9_house_160, rX9_house_161, rX9_house_164, kA_44, kB_44, kA_46, kB_46, fin_44_5 F, fin_44_15 F, fin_44_16 F, fin_44_17 F, fin_44_18 F, fin_44_21 F, fin_44_23 F, fin_44_24 F, fin_44_25 F, fin_44_29 F, fin_44_33 F, kU0 hs, kU1 hs, kV1 hs, fU1 f, kU2 hs, kV2 hs, fU2 f, kU3 hs, kV3 hs, fU3 f, kU4 hs, kV4 hs, fU4 f, kU5 hs, kV5 hs, fU5 f, kU6 hs, kV6 hs, fU6 f, kU7 hs, kV7 hs, fU7 f, kU8 hs, kV8 hs, fU8 f, kU9 hs, kV9 hs, fU9 f, kU10 hs, kV10 hs, fU10 f, kU11 hs, kV11 hs, fU11 f, kU12 hs, kV12 hs, fU12 f, nU hs, nUk hs, k.2.1, ih, reduceCtorEq, decide_true, bI_t, bI_f, show ¬ (1 : Int32) = 0 from by decide, ci, show ¬ ((5 : Int32) < 0 ∨ (5 : Int32) < 5) from by decide, swT, Int32.reduceAdd, show ¬ (5 : Int32) = 0 from by decide, show ¬ (5 : Int32) = 1 from by decide, show ¬ (5 : Int32) = 2 from by decide, show ¬ (5 : Int32) = 3 from by decide, show ¬ (5 : Int32) = 4 from by decide, v6, v10, cl, v.2.2.2.1, v8, cl8, mbb, c_mgood, show nI 0 = 0 from rfl, pCX9_house, pSX9_house, pOX9_house, pLX9_house, pCX9_isHouse, pSX9_isHouse, pOX9_isHouse, pLX9_isHouse, pCX9_in, pSX9_in, pOX9_in, pLX9_in, pCX9_bit, pSX9_bit, pOX9_bit, pLX9_bit, pCX9_good, pSX9_good, pOX9_good, pLX9_good, kl_I, kl_J, kl_R, kl_T, kl_N, Nat.le_refl, Nat.zero_le, List.map_nil, List.map_cons, List.sum_nil, List.sum_cons, c_I, c_J, c_R, c_T, va_rf, hI_wI, hJ_wJ, hR_wR, hI_J, hI_R, hJ_I, hJ_R, hR_I, hR_J, hN_I, hN_J, hN_R, wI_I, wJ_J, upd_at, updL_at, kR_s, Option.toList, List.append_nil, List.nil_append, List.cons_append, if_true, if_false, reduceIte, Bool.false_eq_true, not_true_eq_false, not_false_eq_true, true_and, and_true, false_and, and_false, true_or, or_true,  Nat.reduceEqDiff, Nat.reduceAdd, Nat.reduceLeDiff], kp_refl⟩
