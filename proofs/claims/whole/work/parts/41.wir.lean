/-! ===== wires, days, undoing, images, the tape ===== -/
noncomputable def sTurn (S : AS) (y : Int32) (p : Bool) : AS × Bool := match ix y (aN (sA S)) with
  | none => (trS S 1, false)
  | some i => if (sX S).2.1.testBit i = p then (trS S 5, false) else (stS S ((sX S).1, (sX S).2.1 ^^^ 2 ^ i, (sX S).2.2) ((sX S :: sP S).take 16) (sM S) 0, true)
theorem q_turnWire {d : Nat} {h : qH} {S : AS} {y : Int32} {p : Bool} (I : CI h S) : qs (d + 10) mX7_turnWire [.ref (0 : Nat), .int y, .int (bI p)] h (sTurn S y p).1 (some (.int (bI (sTurn S y p).2))) := by
  obtain ⟨s, tu, F, ⟨r0, r1, r2⟩, w, b, k, st, wc, gc, ⟨tbx, tbp, tbm⟩, tp, e8, e9, ep⟩ := id I
  obtain ⟨e0, e1, e2, e4, e5, e7⟩ := st.2.1
  have hs := w.1
  have ww := w.2.1
  have w3 := w.2.2.1
  have n6 := ww.1
  have p64 := p6 n6
  have bx := st.1
  have F1 : Fin0 (hR (tr h 0)) := F
  have w1 : cS (tr h 0) s (sA S) := cS_tr w
  have b1 : bT (tr h 0) (sA S) := bT_sx b tr_sx (by simp)
  have hf1 : hR (tr h 0) 32 0 = some s := r2
  have ns := c_noStreet (d := d + 8) r0 w
  have nh := c_noHouse (d := d + 8) (y := y) r0 w
  rw [sTurn]
  cases c1 : ix y (aN (sA S)) with
  | none => exact qs_tr (v := 1) I (by decide) (fun Q => by
      simp (implicitDefEqProofs := false) only [eX7_turnWire, rX7_turnWire_0, rX7_turnWire_0b, rX7_turnWire_1, rX7_turnWire_2, rX7_turnWire_5, rX7_turnWire_8, rX7_turnWire_8b, rX7_turnWire_9, rX7_turnWire_9b, rX7_turnWire_10, rX7_turnWire_13, rX7_turnWire_16, rX7_turnWire_17, rX7_turnWire_18, rX7_turnWire_19, rX7_turnWire_20, rX7_turnWire_21, rX7_turnWire_24, rX7_turnWire_25, rX7_turnWire_28, rX7_turnWire_29, rX7_turnWire_30, rX7_turnWire_33, rX7_turnWire_36, rX7_turnWire_37, kS0 hs, kS1 hs, kT1 hs, fS1 hs F, kS2 hs, kT2 hs, fS2 hs F, kS3 hs, kT3 hs, fS3 hs F, kS4 hs, kT4 hs, fS4 hs F, kS5 hs, kT5 hs, fS5 hs F, kS6 hs, kT6 hs, fS6 hs F, kS7 hs, kT7 hs, fS7 hs F, kS8 hs, kT8 hs, fS8 hs F, kS9 hs, kT9 hs, fS9 hs F, kS10 hs, kT10 hs, fS10 hs F, kS11 hs, kT11 hs, fS11 hs F, nS hs, nSs hs, fin_0_2 F, fin_0_3 F, fin_0_4 F, fin_0_5 F, fin_0_6 F, fin_0_7 F, kA_0, kB_0, r0, r2, e0, e1, e2, pCX7_turnWire, pSX7_turnWire, pOX7_turnWire, pLX7_turnWire, pCX7_noStreet, pSX7_noStreet, pOX7_noStreet, pLX7_noStreet, pCX7_noHouse, pSX7_noHouse, pOX7_noHouse, pLX7_noHouse, pCX7_outside, pSX7_outside, pOX7_outside, pLX7_outside, pCX7_refuse, pSX7_refuse, pOX7_refuse, pLX7_refuse, nh, c1, show nI 1 = 1 from rfl, nI_0, decide_true, decide_false, bI_t, bI_f, reduceCtorEq, or_self, show ¬ (1 : Int32) = 0 from by decide, tr_R, tr_tr, tr_25, tr_26, tr_27, tr_28, tr_29, tr_30, tr_31, tr_32, tr_33, tr_34, tr_35, tr_36, tr_37, tr_38, tr_39, tr_40, tr_41, tr_42, tr_43, tr_s hs, tr_s1 hs, tr_s2 hs, tr_s3 hs, tr_s4 hs, tr_s5 hs, tr_s6 hs, tr_s7 hs, tr_s8 hs, tr_s9 hs, tr_s10 hs, tr_s11 hs, kl_I, kl_J, kl_R, kl_T, kl_N, Nat.le_refl, Nat.zero_le, List.map_nil, List.map_cons, List.sum_nil, List.sum_cons, c_I, c_J, c_R, c_T, va_rf, hI_wI, hJ_wJ, hR_wR, hI_J, hI_R, hJ_I, hJ_R, hR_I, hR_J, hN_I, hN_J, hN_R, wI_I, wJ_J, upd_at, updL_at, kR_s, Option.toList, List.append_nil, List.nil_append, List.cons_append, if_true, if_false, reduceIte, Bool.false_eq_true, not_true_eq_false, not_false_eq_true, true_and, and_true, false_and, and_false, true_or, or_true,  Nat.reduceEqDiff, Nat.reduceAdd, Nat.reduceLeDiff])
  | some i =>
    simp only
    obtain ⟨rfl, hi⟩ := ix_s (by omega) c1
    have b64 := bx.2.1
    have bt := bt_t (t := (sX S).2.1) (j := i) (by omega) (by omega)
    have bt' : (if (sX S).2.1.testBit i = true then (1 : Int32) else 0) = bI ((sX S).2.1.testBit i) := rfl
    rw [bt'] at bt
    have bj : (bI ((sX S).2.1.testBit i) = bI p) = ((sX S).2.1.testBit i = p) := by cases (sX S).2.1.testBit i <;> cases p <;> simp [bI]
    have rt := c_refusedIf (d := d + 9) (h := tr h 0) (b := true) (v := 5)
    have rf := c_refusedIf (d := d + 9) (h := tr h 0) (b := false) (v := 5)
    rw [bI_t] at rt
    rw [bI_f] at rf
    by_cases c2 : (sX S).2.1.testBit i = p
    · rw [if_pos c2]
      have bj' : bI ((sX S).2.1.testBit i) = bI p := bj.mpr c2
      exact qs_tr (v := 5) I (by decide) (fun Q => by
        simp (implicitDefEqProofs := false) only [eX7_turnWire, rX7_turnWire_0, rX7_turnWire_0b, rX7_turnWire_1, rX7_turnWire_2, rX7_turnWire_5, rX7_turnWire_8, rX7_turnWire_8b, rX7_turnWire_9, rX7_turnWire_9b, rX7_turnWire_10, rX7_turnWire_13, rX7_turnWire_16, rX7_turnWire_17, rX7_turnWire_18, rX7_turnWire_19, rX7_turnWire_20, rX7_turnWire_21, rX7_turnWire_24, rX7_turnWire_25, rX7_turnWire_28, rX7_turnWire_29, rX7_turnWire_30, rX7_turnWire_33, rX7_turnWire_36, rX7_turnWire_37, kS0 hs, kS1 hs, kT1 hs, fS1 hs F, kS2 hs, kT2 hs, fS2 hs F, kS3 hs, kT3 hs, fS3 hs F, kS4 hs, kT4 hs, fS4 hs F, kS5 hs, kT5 hs, fS5 hs F, kS6 hs, kT6 hs, fS6 hs F, kS7 hs, kT7 hs, fS7 hs F, kS8 hs, kT8 hs, fS8 hs F, kS9 hs, kT9 hs, fS9 hs F, kS10 hs, kT10 hs, fS10 hs F, kS11 hs, kT11 hs, fS11 hs F, nS hs, nSs hs, fin_0_2 F, fin_0_3 F, fin_0_4 F, fin_0_5 F, fin_0_6 F, fin_0_7 F, kA_0, kB_0, kA_29, kB_29, r0, r2, e0, e1, e2, pCX7_turnWire, pSX7_turnWire, pOX7_turnWire, pLX7_turnWire, pCX7_noStreet, pSX7_noStreet, pOX7_noStreet, pLX7_noStreet, pCX7_noHouse, pSX7_noHouse, pOX7_noHouse, pLX7_noHouse, pCX7_outside, pSX7_outside, pOX7_outside, pLX7_outside, pCX7_refuse, pSX7_refuse, pOX7_refuse, pLX7_refuse, pCX7_refusedIf, pSX7_refusedIf, pOX7_refusedIf, pLX7_refusedIf, nh, c1, bt, bj', rt, show nI 5 = 5 from rfl, nI_0, decide_true, decide_false, bI_t, bI_f, reduceCtorEq, or_self, show ¬ (1 : Int32) = 0 from by decide, tr_R, tr_tr, tr_25, tr_26, tr_27, tr_28, tr_29, tr_30, tr_31, tr_32, tr_33, tr_34, tr_35, tr_36, tr_37, tr_38, tr_39, tr_40, tr_41, tr_42, tr_43, tr_s hs, tr_s1 hs, tr_s2 hs, tr_s3 hs, tr_s4 hs, tr_s5 hs, tr_s6 hs, tr_s7 hs, tr_s8 hs, tr_s9 hs, tr_s10 hs, tr_s11 hs, kl_I, kl_J, kl_R, kl_T, kl_N, Nat.le_refl, Nat.zero_le, List.map_nil, List.map_cons, List.sum_nil, List.sum_cons, c_I, c_J, c_R, c_T, va_rf, hI_wI, hJ_wJ, hR_wR, hI_J, hI_R, hJ_I, hJ_R, hR_I, hR_J, hN_I, hN_J, hN_R, wI_I, wJ_J, upd_at, updL_at, kR_s, Option.toList, List.append_nil, List.nil_append, List.cons_append, if_true, if_false, reduceIte, Bool.false_eq_true, not_true_eq_false, not_false_eq_true, true_and, and_true, false_and, and_false, true_or, or_true,  Nat.reduceEqDiff, Nat.reduceAdd, Nat.reduceLeDiff])
    · rw [if_neg c2]
      have bj' : ¬ bI ((sX S).2.1.testBit i) = bI p := fun q => c2 (bj.mp q)
      obtain ⟨h1, m1, m2, m3⟩ := c_keep (d := d + 8) F1 (St_sx st tr_sx (by simp) (by simp) (by simp))
      have FF : Fin0 (hR h1) := Fin_sx F1 m2
      have t9 : hI h1 0 9 = nI 0 := by rw [m2.2.2.2 0 (by simp), tr, hI_wI, if_pos rfl, upd_at, if_pos rfl]; rfl
      have t8 : hI h1 0 8 = hI h 0 8 := by rw [m2.2.2.2 0 (by simp), tr, hI_wI, if_pos rfl, upd_at, if_neg (by decide)]
      have q1 : sx [0, 29, 30, 31] h h1 := sx_trans (sx_mono tr_sx (by simp)) (sx_mono m2 (by simp))
      obtain ⟨n0, n1, n2, n4, n5, n7⟩ := m3.2.1
      have rh2 : hR h1 32 0 = some s := by rw [m2.1]; exact r2
      have p2 : 2 ^ i < 2 ^ aN (sA S) := Nat.pow_lt_pow_right (by omega) hi
      have tl : (sX S).2.1 ^^^ 2 ^ i < 2 ^ aN (sA S) := Nat.xor_lt_two_pow tbx.2 p2
      have q2 : sx [0, 29, 30, 31] h (wI h1 29 (upd (hI h1 29) 1 (nI ((sX S).2.1 ^^^ 2 ^ i)))) := sx_w q1 (by simp)
      refine qs_st (v := 0) I (fun Q => ?_) q2 (by rw [hI_wI, if_neg (by decide)]; exact t8) (by rw [hI_wI, if_neg (by decide)]; exact t9) (by decide) ⟨_, St_1 m3 (by omega)⟩ ⟨⟨tbx.1, tl⟩, take_tb tbx tbp, tbm⟩
      simp (implicitDefEqProofs := false) only [eX7_turnWire, rX7_turnWire_0, rX7_turnWire_0b, rX7_turnWire_1, rX7_turnWire_2, rX7_turnWire_5, rX7_turnWire_8, rX7_turnWire_8b, rX7_turnWire_9, rX7_turnWire_9b, rX7_turnWire_10, rX7_turnWire_13, rX7_turnWire_16, rX7_turnWire_17, rX7_turnWire_18, rX7_turnWire_19, rX7_turnWire_20, rX7_turnWire_21, rX7_turnWire_24, rX7_turnWire_25, rX7_turnWire_28, rX7_turnWire_29, rX7_turnWire_30, rX7_turnWire_33, rX7_turnWire_36, rX7_turnWire_37, rX7_turnWire_38, rX7_turnWire_38b, rX7_turnWire_39, rX7_turnWire_42, rX7_turnWire_45, rX7_turnWire_45b, rX7_turnWire_46, rX7_turnWire_49, rX7_turnWire_49b, rX7_turnWire_50, rX7_turnWire_53, rX7_turnWire_54, rX7_turnWire_55, rX7_turnWire_56, rX7_turnWire_57, rX7_turnWire_60, rX7_turnWire_61, kS0 hs, kS1 hs, kT1 hs, fS1 hs F, kS2 hs, kT2 hs, fS2 hs F, kS3 hs, kT3 hs, fS3 hs F, kS4 hs, kT4 hs, fS4 hs F, kS5 hs, kT5 hs, fS5 hs F, kS6 hs, kT6 hs, fS6 hs F, kS7 hs, kT7 hs, fS7 hs F, kS8 hs, kT8 hs, fS8 hs F, kS9 hs, kT9 hs, fS9 hs F, kS10 hs, kT10 hs, fS10 hs F, kS11 hs, kT11 hs, fS11 hs F, nS hs, nSs hs, fin_0_2 F, fin_0_3 F, fin_0_4 F, fin_0_5 F, fin_0_6 F, fin_0_7 F, fin_0_2 FF, fin_0_3 FF, fin_0_4 FF, fin_0_5 FF, fin_0_6 FF, fin_0_7 FF, kA_0, kB_0, kA_29, kB_29, r0, r2, pCX7_turnWire, pSX7_turnWire, pOX7_turnWire, pLX7_turnWire, pCX7_noStreet, pSX7_noStreet, pOX7_noStreet, pLX7_noStreet, pCX7_noHouse, pSX7_noHouse, pOX7_noHouse, pLX7_noHouse, pCX7_outside, pSX7_outside, pOX7_outside, pLX7_outside, pCX7_refuse, pSX7_refuse, pOX7_refuse, pLX7_refuse, pCX7_refusedIf, pSX7_refusedIf, pOX7_refusedIf, pLX7_refusedIf, pCX3_keep, pSX3_keep, pOX3_keep, pLX3_keep, nh, c1, e1, bt, bj', rf, m1, n1, bt_shl (j := i) (by omega), bt_xor, nI_0, decide_true, decide_false, bI_t, bI_f, reduceCtorEq, or_self, show ¬ (1 : Int32) = 0 from by decide, tr_R, tr_tr, tr_25, tr_26, tr_27, tr_28, tr_29, tr_30, tr_31, tr_32, tr_33, tr_34, tr_35, tr_36, tr_37, tr_38, tr_39, tr_40, tr_41, tr_42, tr_43, tr_s hs, tr_s1 hs, tr_s2 hs, tr_s3 hs, tr_s4 hs, tr_s5 hs, tr_s6 hs, tr_s7 hs, tr_s8 hs, tr_s9 hs, tr_s10 hs, tr_s11 hs, kl_I, kl_J, kl_R, kl_T, kl_N, Nat.le_refl, Nat.zero_le, List.map_nil, List.map_cons, List.sum_nil, List.sum_cons, c_I, c_J, c_R, c_T, va_rf, hI_wI, hJ_wJ, hR_wR, hI_J, hI_R, hJ_I, hJ_R, hR_I, hR_J, hN_I, hN_J, hN_R, wI_I, wJ_J, upd_at, updL_at, kR_s, Option.toList, List.append_nil, List.nil_append, List.cons_append, if_true, if_false, reduceIte, Bool.false_eq_true, not_true_eq_false, not_false_eq_true, true_and, and_true, false_and, and_false, true_or, or_true,  Nat.reduceEqDiff, Nat.reduceAdd, Nat.reduceLeDiff]
theorem q_pull {d : Nat} {h : qH} {S : AS} {y : Int32} (I : CI h S) : qs (d + 11) mX7_pull [.ref (0 : Nat), .int y] h (sTurn S y true).1 (some (.int (bI (sTurn S y true).2))) := by
  obtain ⟨h', k1, k2, k3⟩ := q_turnWire (d := d) (y := y) (p := true) I
  rw [bI_t] at k1
  refine ⟨h', fun Q => ?_, k2, k3⟩
  cases hr : (sTurn S y true).2 with
  | true => rw [hr, bI_t] at k1; simp (implicitDefEqProofs := false) only [eX7_pull, rX7_pull_0, rX7_pull_0b, rX7_pull_1, rX7_pull_2, rX7_pull_3, rX7_pull_6, kA_0, kB_0, pCX7_pull, pSX7_pull, pOX7_pull, pLX7_pull, pCX7_turnWire, pSX7_turnWire, pOX7_turnWire, pLX7_turnWire, k1, bI_t, kl_I, kl_J, kl_R, kl_T, kl_N, Nat.le_refl, Nat.zero_le, List.map_nil, List.map_cons, List.sum_nil, List.sum_cons, c_I, c_J, c_R, c_T, va_rf, hI_wI, hJ_wJ, hR_wR, hI_J, hI_R, hJ_I, hJ_R, hR_I, hR_J, hN_I, hN_J, hN_R, wI_I, wJ_J, upd_at, updL_at, kR_s, Option.toList, List.append_nil, List.nil_append, List.cons_append, if_true, if_false, reduceIte, Bool.false_eq_true, not_true_eq_false, not_false_eq_true, true_and, and_true, false_and, and_false, true_or, or_true,  Nat.reduceEqDiff, Nat.reduceAdd, Nat.reduceLeDiff]
  | false => rw [hr, bI_f] at k1; simp (implicitDefEqProofs := false) only [eX7_pull, rX7_pull_0, rX7_pull_0b, rX7_pull_1, rX7_pull_2, rX7_pull_3, rX7_pull_6, kA_0, kB_0, pCX7_pull, pSX7_pull, pOX7_pull, pLX7_pull, pCX7_turnWire, pSX7_turnWire, pOX7_turnWire, pLX7_turnWire, k1, bI_f, kl_I, kl_J, kl_R, kl_T, kl_N, Nat.le_refl, Nat.zero_le, List.map_nil, List.map_cons, List.sum_nil, List.sum_cons, c_I, c_J, c_R, c_T, va_rf, hI_wI, hJ_wJ, hR_wR, hI_J, hI_R, hJ_I, hJ_R, hR_I, hR_J, hN_I, hN_J, hN_R, wI_I, wJ_J, upd_at, updL_at, kR_s, Option.toList, List.append_nil, List.nil_append, List.cons_append, if_true, if_false, reduceIte, Bool.false_eq_true, not_true_eq_false, not_false_eq_true, true_and, and_true, false_and, and_false, true_or, or_true,  Nat.reduceEqDiff, Nat.reduceAdd, Nat.reduceLeDiff]
theorem q_mend {d : Nat} {h : qH} {S : AS} {y : Int32} (I : CI h S) : qs (d + 11) mX7_mend [.ref (0 : Nat), .int y] h (sTurn S y false).1 (some (.int (bI (sTurn S y false).2))) := by
  obtain ⟨h', k1, k2, k3⟩ := q_turnWire (d := d) (y := y) (p := false) I
  rw [bI_f] at k1
  refine ⟨h', fun Q => ?_, k2, k3⟩
  cases hr : (sTurn S y false).2 with
  | true => rw [hr, bI_t] at k1; simp (implicitDefEqProofs := false) only [eX7_mend, rX7_mend_0, rX7_mend_0b, rX7_mend_1, rX7_mend_2, rX7_mend_3, rX7_mend_6, kA_0, kB_0, pCX7_mend, pSX7_mend, pOX7_mend, pLX7_mend, pCX7_turnWire, pSX7_turnWire, pOX7_turnWire, pLX7_turnWire, k1, bI_t, kl_I, kl_J, kl_R, kl_T, kl_N, Nat.le_refl, Nat.zero_le, List.map_nil, List.map_cons, List.sum_nil, List.sum_cons, c_I, c_J, c_R, c_T, va_rf, hI_wI, hJ_wJ, hR_wR, hI_J, hI_R, hJ_I, hJ_R, hR_I, hR_J, hN_I, hN_J, hN_R, wI_I, wJ_J, upd_at, updL_at, kR_s, Option.toList, List.append_nil, List.nil_append, List.cons_append, if_true, if_false, reduceIte, Bool.false_eq_true, not_true_eq_false, not_false_eq_true, true_and, and_true, false_and, and_false, true_or, or_true,  Nat.reduceEqDiff, Nat.reduceAdd, Nat.reduceLeDiff]
  | false => rw [hr, bI_f] at k1; simp (implicitDefEqProofs := false) only [eX7_mend, rX7_mend_0, rX7_mend_0b, rX7_mend_1, rX7_mend_2, rX7_mend_3, rX7_mend_6, kA_0, kB_0, pCX7_mend, pSX7_mend, pOX7_mend, pLX7_mend, pCX7_turnWire, pSX7_turnWire, pOX7_turnWire, pLX7_turnWire, k1, bI_f, kl_I, kl_J, kl_R, kl_T, kl_N, Nat.le_refl, Nat.zero_le, List.map_nil, List.map_cons, List.sum_nil, List.sum_cons, c_I, c_J, c_R, c_T, va_rf, hI_wI, hJ_wJ, hR_wR, hI_J, hI_R, hJ_I, hJ_R, hR_I, hR_J, hN_I, hN_J, hN_R, wI_I, wJ_J, upd_at, updL_at, kR_s, Option.toList, List.append_nil, List.nil_append, List.cons_append, if_true, if_false, reduceIte, Bool.false_eq_true, not_true_eq_false, not_false_eq_true, true_and, and_true, false_and, and_false, true_or, or_true,  Nat.reduceEqDiff, Nat.reduceAdd, Nat.reduceLeDiff]
noncomputable def sDay (S : AS) : AS × Int32 := if aN (sA S) = 0 then (trS S 1, -1) else if 90 ≤ (sX S).2.2 then (trS S 3, -1) else (stS S ((sX S).1, (sX S).2.1, (sX S).2.2 + 1) ((sX S :: sP S).take 16) (sM S) 0, nI (bbN (sA S) (sX S).1 ((sX S).2.2 + 1)) &&& (nI (bbN (sA S) (sX S).1 (sX S).2.2) ^^^ -1))
theorem q_day {d : Nat} {h : qH} {S : AS} (I : CI h S) : qs (d + 10) mX7_day [.ref (0 : Nat)] h (sDay S).1 (some (.int (sDay S).2)) := by
  obtain ⟨s, tu, F, ⟨r0, r1, r2⟩, w, b, k, st, wc, gc, ⟨tbx, tbp, tbm⟩, tp, e8, e9, ep⟩ := id I
  obtain ⟨e0, e1, e2, e4, e5, e7⟩ := st.2.1
  have hs := w.1
  have ww := w.2.1
  have w3 := w.2.2.1
  have n6 := ww.1
  have p64 := p6 n6
  have bx := st.1
  have F1 : Fin0 (hR (tr h 0)) := F
  have w1 : cS (tr h 0) s (sA S) := cS_tr w
  have b1 : bT (tr h 0) (sA S) := bT_sx b tr_sx (by simp)
  have hf1 : hR (tr h 0) 32 0 = some s := r2
  have ns := c_noStreet (d := d + 8) r0 w
  rw [sDay]
  by_cases c1 : aN (sA S) = 0
  · rw [if_pos c1]
    exact qs_tr (v := 1) I (by decide) (fun Q => by
      simp (implicitDefEqProofs := false) only [eX7_day, rX7_day_0, rX7_day_0b, rX7_day_1, rX7_day_4, rX7_day_7, rX7_day_8, kS0 hs, kS1 hs, kT1 hs, fS1 hs F, kS2 hs, kT2 hs, fS2 hs F, kS3 hs, kT3 hs, fS3 hs F, kS4 hs, kT4 hs, fS4 hs F, kS5 hs, kT5 hs, fS5 hs F, kS6 hs, kT6 hs, fS6 hs F, kS7 hs, kT7 hs, fS7 hs F, kS8 hs, kT8 hs, fS8 hs F, kS9 hs, kT9 hs, fS9 hs F, kS10 hs, kT10 hs, fS10 hs F, kS11 hs, kT11 hs, fS11 hs F, nS hs, nSs hs, fin_0_2 F, fin_0_3 F, fin_0_4 F, fin_0_5 F, fin_0_6 F, fin_0_7 F, kA_0, kB_0, r0, r2, e0, e1, e2, pCX7_day, pSX7_day, pOX7_day, pLX7_day, pCX7_noStreet, pSX7_noStreet, pOX7_noStreet, pLX7_noStreet, pCX7_noHouse, pSX7_noHouse, pOX7_noHouse, pLX7_noHouse, pCX7_outside, pSX7_outside, pOX7_outside, pLX7_outside, pCX7_refuse, pSX7_refuse, pOX7_refuse, pLX7_refuse, ns, c1, show nI 1 = 1 from rfl, nI_0, decide_true, decide_false, bI_t, bI_f, reduceCtorEq, or_self, show ¬ (1 : Int32) = 0 from by decide, tr_R, tr_tr, tr_25, tr_26, tr_27, tr_28, tr_29, tr_30, tr_31, tr_32, tr_33, tr_34, tr_35, tr_36, tr_37, tr_38, tr_39, tr_40, tr_41, tr_42, tr_43, tr_s hs, tr_s1 hs, tr_s2 hs, tr_s3 hs, tr_s4 hs, tr_s5 hs, tr_s6 hs, tr_s7 hs, tr_s8 hs, tr_s9 hs, tr_s10 hs, tr_s11 hs, kl_I, kl_J, kl_R, kl_T, kl_N, Nat.le_refl, Nat.zero_le, List.map_nil, List.map_cons, List.sum_nil, List.sum_cons, c_I, c_J, c_R, c_T, va_rf, hI_wI, hJ_wJ, hR_wR, hI_J, hI_R, hJ_I, hJ_R, hR_I, hR_J, hN_I, hN_J, hN_R, wI_I, wJ_J, upd_at, updL_at, kR_s, Option.toList, List.append_nil, List.nil_append, List.cons_append, if_true, if_false, reduceIte, Bool.false_eq_true, not_true_eq_false, not_false_eq_true, true_and, and_true, false_and, and_false, true_or, or_true,  Nat.reduceEqDiff, Nat.reduceAdd, Nat.reduceLeDiff])
  · rw [if_neg c1]
    have l90 := bx.2.2
    have q : (nI (sX S).2.2 < 90) = ((sX S).2.2 < 90) := nlt (x := (sX S).2.2) (k := 90) (c := 90) rfl (by omega) (by omega)
    have rf := c_refuse (d := d + 9) (h := tr h 0) (v := 3)
    by_cases c2 : 90 ≤ (sX S).2.2
    · rw [if_pos c2]
      exact qs_tr (v := 3) I (by decide) (fun Q => by
        simp (implicitDefEqProofs := false) only [eX7_day, rX7_day_0, rX7_day_0b, rX7_day_1, rX7_day_4, rX7_day_7, rX7_day_8, rX7_day_9, rX7_day_9b, rX7_day_10, rX7_day_13, rX7_day_16, rX7_day_18, rX7_day_21, rX7_day_21b, rX7_day_22, rX7_day_23, rX7_day_26, kS0 hs, kS1 hs, kT1 hs, fS1 hs F, kS2 hs, kT2 hs, fS2 hs F, kS3 hs, kT3 hs, fS3 hs F, kS4 hs, kT4 hs, fS4 hs F, kS5 hs, kT5 hs, fS5 hs F, kS6 hs, kT6 hs, fS6 hs F, kS7 hs, kT7 hs, fS7 hs F, kS8 hs, kT8 hs, fS8 hs F, kS9 hs, kT9 hs, fS9 hs F, kS10 hs, kT10 hs, fS10 hs F, kS11 hs, kT11 hs, fS11 hs F, nS hs, nSs hs, fin_0_2 F, fin_0_3 F, fin_0_4 F, fin_0_5 F, fin_0_6 F, fin_0_7 F, kA_0, kB_0, kA_29, kB_29, r0, r2, e0, e1, e2, pCX7_day, pSX7_day, pOX7_day, pLX7_day, pCX7_noStreet, pSX7_noStreet, pOX7_noStreet, pLX7_noStreet, pCX7_noHouse, pSX7_noHouse, pOX7_noHouse, pLX7_noHouse, pCX7_outside, pSX7_outside, pOX7_outside, pLX7_outside, pCX7_refuse, pSX7_refuse, pOX7_refuse, pLX7_refuse, ns, c1, q, show ¬ (sX S).2.2 < 90 from by omega, rf, show nI 3 = 3 from rfl, nI_0, decide_true, decide_false, bI_t, bI_f, reduceCtorEq, or_self, show ¬ (1 : Int32) = 0 from by decide, tr_R, tr_tr, tr_25, tr_26, tr_27, tr_28, tr_29, tr_30, tr_31, tr_32, tr_33, tr_34, tr_35, tr_36, tr_37, tr_38, tr_39, tr_40, tr_41, tr_42, tr_43, tr_s hs, tr_s1 hs, tr_s2 hs, tr_s3 hs, tr_s4 hs, tr_s5 hs, tr_s6 hs, tr_s7 hs, tr_s8 hs, tr_s9 hs, tr_s10 hs, tr_s11 hs, kl_I, kl_J, kl_R, kl_T, kl_N, Nat.le_refl, Nat.zero_le, List.map_nil, List.map_cons, List.sum_nil, List.sum_cons, c_I, c_J, c_R, c_T, va_rf, hI_wI, hJ_wJ, hR_wR, hI_J, hI_R, hJ_I, hJ_R, hR_I, hR_J, hN_I, hN_J, hN_R, wI_I, wJ_J, upd_at, updL_at, kR_s, Option.toList, List.append_nil, List.nil_append, List.cons_append, if_true, if_false, reduceIte, Bool.false_eq_true, not_true_eq_false, not_false_eq_true, true_and, and_true, false_and, and_false, true_or, or_true,  Nat.reduceEqDiff, Nat.reduceAdd, Nat.reduceLeDiff])
    · rw [if_neg c2]
      obtain ⟨h1, m1, m2, m3⟩ := c_keep (d := d + 8) F1 (St_sx st tr_sx (by simp) (by simp) (by simp))
      have FF : Fin0 (hR h1) := Fin_sx F1 m2
      have t9 : hI h1 0 9 = nI 0 := by rw [m2.2.2.2 0 (by simp), tr, hI_wI, if_pos rfl, upd_at, if_pos rfl]; rfl
      have t8 : hI h1 0 8 = hI h 0 8 := by rw [m2.2.2.2 0 (by simp), tr, hI_wI, if_pos rfl, upd_at, if_neg (by decide)]
      have q1 : sx [0, 29, 30, 31] h h1 := sx_trans (sx_mono tr_sx (by simp)) (sx_mono m2 (by simp))
      obtain ⟨n0, n1, n2, n4, n5, n7⟩ := m3.2.1
      have rh2 : hR h1 32 0 = some s := by rw [m2.1]; exact r2
      have q2 : sx [0, 29, 30, 31] h (wI h1 29 (upd (hI h1 29) 2 (nI ((sX S).2.2 + 1)))) := sx_w q1 (by simp)
      have q3 : sx [29, 30] (tr h 0) (wI h1 29 (upd (hI h1 29) 2 (nI ((sX S).2.2 + 1)))) := sx_w m2 (by simp)
      have bb1 := c_burntBy (d := d + 8) (h := wI h1 29 (upd (hI h1 29) 2 (nI ((sX S).2.2 + 1)))) FF rh2 (cS_sx w1 q3 (by simp)) (bT_sx b1 q3 (by simp)) tbx.1 (y := (sX S).2.2 + 1) (by omega)
      have bb2 := c_burntBy (d := d + 8) (h := wI h1 29 (upd (hI h1 29) 2 (nI ((sX S).2.2 + 1)))) FF rh2 (cS_sx w1 q3 (by simp)) (bT_sx b1 q3 (by simp)) tbx.1 (y := (sX S).2.2) (by omega)
      refine qs_st (v := 0) I (fun Q => ?_) q2 (by rw [hI_wI, if_neg (by decide)]; exact t8) (by rw [hI_wI, if_neg (by decide)]; exact t9) (by decide) ⟨_, St_2 m3 (by omega)⟩ ⟨tbx, take_tb tbx tbp, tbm⟩
      simp (implicitDefEqProofs := false) only [eX7_day, rX7_day_0, rX7_day_0b, rX7_day_1, rX7_day_4, rX7_day_7, rX7_day_8, rX7_day_9, rX7_day_9b, rX7_day_10, rX7_day_13, rX7_day_16, rX7_day_18, rX7_day_21, rX7_day_21b, rX7_day_22, rX7_day_23, rX7_day_26, rX7_day_27, rX7_day_27b, rX7_day_28, rX7_day_31, rX7_day_34, rX7_day_34b, rX7_day_35, rX7_day_38, rX7_day_38b, rX7_day_39, rX7_day_42, rX7_day_43, rX7_day_44, rX7_day_47, rX7_day_47b, rX7_day_48, rX7_day_51, rX7_day_51b, rX7_day_52, rX7_day_55, rX7_day_58, rX7_day_58b, rX7_day_59, rX7_day_62, rX7_day_65, rX7_day_68, rX7_day_68b, rX7_day_69, rX7_day_72, rX7_day_72b, rX7_day_73, rX7_day_76, rX7_day_79, rX7_day_79b, rX7_day_80, rX7_day_83, rX7_day_86, rX7_day_87, rX7_day_88, rX7_day_91, rX7_day_92, rX7_day_93, rX7_day_94, kS0 hs, kS1 hs, kT1 hs, fS1 hs F, kS2 hs, kT2 hs, fS2 hs F, kS3 hs, kT3 hs, fS3 hs F, kS4 hs, kT4 hs, fS4 hs F, kS5 hs, kT5 hs, fS5 hs F, kS6 hs, kT6 hs, fS6 hs F, kS7 hs, kT7 hs, fS7 hs F, kS8 hs, kT8 hs, fS8 hs F, kS9 hs, kT9 hs, fS9 hs F, kS10 hs, kT10 hs, fS10 hs F, kS11 hs, kT11 hs, fS11 hs F, nS hs, nSs hs, fin_0_2 F, fin_0_3 F, fin_0_4 F, fin_0_5 F, fin_0_6 F, fin_0_7 F, fin_0_2 FF, fin_0_3 FF, fin_0_4 FF, fin_0_5 FF, fin_0_6 FF, fin_0_7 FF, kA_0, kB_0, kA_29, kB_29, kA_32, kB_32, r0, r2, pCX7_day, pSX7_day, pOX7_day, pLX7_day, pCX7_noStreet, pSX7_noStreet, pOX7_noStreet, pLX7_noStreet, pCX7_noHouse, pSX7_noHouse, pOX7_noHouse, pLX7_noHouse, pCX7_outside, pSX7_outside, pOX7_outside, pLX7_outside, pCX7_refuse, pSX7_refuse, pOX7_refuse, pLX7_refuse, pCX3_keep, pSX3_keep, pOX3_keep, pLX3_keep, pCX0_burntBy, pSX0_burntBy, pOX0_burntBy, pLX0_burntBy, ns, c1, e2, q, show (sX S).2.2 < 90 from by omega, m1, n0, n2, nI_1, nI_pred, bb1, bb2, nI_0, decide_true, decide_false, bI_t, bI_f, reduceCtorEq, or_self, show ¬ (1 : Int32) = 0 from by decide, tr_R, tr_tr, tr_25, tr_26, tr_27, tr_28, tr_29, tr_30, tr_31, tr_32, tr_33, tr_34, tr_35, tr_36, tr_37, tr_38, tr_39, tr_40, tr_41, tr_42, tr_43, tr_s hs, tr_s1 hs, tr_s2 hs, tr_s3 hs, tr_s4 hs, tr_s5 hs, tr_s6 hs, tr_s7 hs, tr_s8 hs, tr_s9 hs, tr_s10 hs, tr_s11 hs, kl_I, kl_J, kl_R, kl_T, kl_N, Nat.le_refl, Nat.zero_le, List.map_nil, List.map_cons, List.sum_nil, List.sum_cons, c_I, c_J, c_R, c_T, va_rf, hI_wI, hJ_wJ, hR_wR, hI_J, hI_R, hJ_I, hJ_R, hR_I, hR_J, hN_I, hN_J, hN_R, wI_I, wJ_J, upd_at, updL_at, kR_s, Option.toList, List.append_nil, List.nil_append, List.cons_append, if_true, if_false, reduceIte, Bool.false_eq_true, not_true_eq_false, not_false_eq_true, true_and, and_true, false_and, and_false, true_or, or_true,  Nat.reduceEqDiff, Nat.reduceAdd, Nat.reduceLeDiff]
def sUndo (S : AS) : AS × Bool := match sP S with
  | [] => (stS S (sX S) [] (sM S) 6, false)
  | p :: ps => (stS S p ps (sM S) 0, true)
theorem q_undo {d : Nat} {h : qH} {S : AS} (I : CI h S) : qs (d + 10) mX7_undo [.ref (0 : Nat)] h (sUndo S).1 (some (.int (bI (sUndo S).2))) := by
  obtain ⟨s, tu, F, ⟨r0, r1, r2⟩, w, b, k, st, wc, gc, ⟨tbx, tbp, tbm⟩, tp, e8, e9, ep⟩ := id I
  obtain ⟨e0, e1, e2, e4, e5, e7⟩ := st.2.1
  have hs := w.1
  have ww := w.2.1
  have w3 := w.2.2.1
  have n6 := ww.1
  have p64 := p6 n6
  have bx := st.1
  have F1 : Fin0 (hR (tr h 0)) := F
  have w1 : cS (tr h 0) s (sA S) := cS_tr w
  have b1 : bT (tr h 0) (sA S) := bT_sx b tr_sx (by simp)
  have hf1 : hR (tr h 0) 32 0 = some s := r2
  have ns := c_noStreet (d := d + 8) r0 w
  obtain ⟨h1, m1, m2, tu', m3⟩ := c_takeBack (d := d + 8) F st
  have FF : Fin0 (hR h1) := Fin_sx F m2
  have z8 : hI h1 0 = hI h 0 := m2.2.2.2 0 (by simp)
  rw [sUndo]
  cases hp : sP S with
  | nil =>
    rw [hp] at m1 m3
    rw [if_pos rfl] at m1
    refine qs_st (v := 6) (h' := tr h1 6) I (fun Q => ?_) (sx_trans (sx_mono m2 (by simp)) (sx_mono tr_sx (by simp))) (by rw [tr, hI_wI, if_pos rfl, upd_at, if_neg (by decide), z8]) (by rw [tr, hI_wI, if_pos rfl, upd_at, if_pos rfl]; rfl) (by decide) ⟨_, St_sx m3 tr_sx (by simp) (by simp) (by simp)⟩ ⟨tbx, by simp, tbm⟩
    simp (implicitDefEqProofs := false) only [eX7_undo, rX7_undo_0, rX7_undo_0b, rX7_undo_1, rX7_undo_4, rX7_undo_7, rX7_undo_8, rX7_undo_8b, rX7_undo_9, rX7_undo_10, rX7_undo_13, rX7_undo_14, rX7_undo_17, rX7_undo_19, rX7_undo_22, rX7_undo_23, fin_0_2 F, fin_0_3 F, fin_0_4 F, fin_0_5 F, fin_0_6 F, fin_0_7 F, fin_0_2 FF, fin_0_3 FF, fin_0_4 FF, fin_0_5 FF, fin_0_6 FF, fin_0_7 FF, kA_0, kB_0, kA_29, kB_29, pCX7_undo, pSX7_undo, pOX7_undo, pLX7_undo, pCX3_takeBack, pSX3_takeBack, pOX3_takeBack, pLX3_takeBack, m1, bI_f, tr, kl_I, kl_J, kl_R, kl_T, kl_N, Nat.le_refl, Nat.zero_le, List.map_nil, List.map_cons, List.sum_nil, List.sum_cons, c_I, c_J, c_R, c_T, va_rf, hI_wI, hJ_wJ, hR_wR, hI_J, hI_R, hJ_I, hJ_R, hR_I, hR_J, hN_I, hN_J, hN_R, wI_I, wJ_J, upd_at, updL_at, kR_s, Option.toList, List.append_nil, List.nil_append, List.cons_append, if_true, if_false, reduceIte, Bool.false_eq_true, not_true_eq_false, not_false_eq_true, true_and, and_true, false_and, and_false, true_or, or_true,  Nat.reduceEqDiff, Nat.reduceAdd, Nat.reduceLeDiff]
  | cons p ps =>
    rw [hp] at m1 m3
    rw [if_neg (by simp)] at m1
    refine qs_st (v := 0) (h' := tr h1 0) I (fun Q => ?_) (sx_trans (sx_mono m2 (by simp)) (sx_mono tr_sx (by simp))) (by rw [tr, hI_wI, if_pos rfl, upd_at, if_neg (by decide), z8]) (by rw [tr, hI_wI, if_pos rfl, upd_at, if_pos rfl]; rfl) (by decide) ⟨_, St_sx m3 tr_sx (by simp) (by simp) (by simp)⟩ ⟨tbp p (by rw [hp]; simp), fun q hq => tbp q (by rw [hp]; simp; exact .inr hq), tbm⟩
    simp (implicitDefEqProofs := false) only [eX7_undo, rX7_undo_0, rX7_undo_0b, rX7_undo_1, rX7_undo_4, rX7_undo_7, rX7_undo_8, rX7_undo_8b, rX7_undo_9, rX7_undo_10, rX7_undo_13, rX7_undo_14, rX7_undo_17, rX7_undo_19, rX7_undo_22, rX7_undo_23, fin_0_2 F, fin_0_3 F, fin_0_4 F, fin_0_5 F, fin_0_6 F, fin_0_7 F, fin_0_2 FF, fin_0_3 FF, fin_0_4 FF, fin_0_5 FF, fin_0_6 FF, fin_0_7 FF, kA_0, kB_0, kA_29, kB_29, pCX7_undo, pSX7_undo, pOX7_undo, pLX7_undo, pCX3_takeBack, pSX3_takeBack, pOX3_takeBack, pLX3_takeBack, m1, bI_t, show ¬ (1 : Int32) = 0 from by decide, tr, kl_I, kl_J, kl_R, kl_T, kl_N, Nat.le_refl, Nat.zero_le, List.map_nil, List.map_cons, List.sum_nil, List.sum_cons, c_I, c_J, c_R, c_T, va_rf, hI_wI, hJ_wJ, hR_wR, hI_J, hI_R, hJ_I, hJ_R, hR_I, hR_J, hN_I, hN_J, hN_R, wI_I, wJ_J, upd_at, updL_at, kR_s, Option.toList, List.append_nil, List.nil_append, List.cons_append, if_true, if_false, reduceIte, Bool.false_eq_true, not_true_eq_false, not_false_eq_true, true_and, and_true, false_and, and_false, true_or, or_true,  Nat.reduceEqDiff, Nat.reduceAdd, Nat.reduceLeDiff]
def sImage (S : AS) : AS × Int32 := if aN (sA S) = 0 then (trS S 1, -1) else if (sM S).length < 3 then (stS S (sX S) (sP S) (sM S ++ [sX S]) 0, nI (sM S).length) else (stS S (sX S) (sP S) (sM S) 3, -1)
theorem q_image {d : Nat} {h : qH} {S : AS} (I : CI h S) : qs (d + 10) mX7_image [.ref (0 : Nat)] h (sImage S).1 (some (.int (sImage S).2)) := by
  obtain ⟨s, tu, F, ⟨r0, r1, r2⟩, w, b, k, st, wc, gc, ⟨tbx, tbp, tbm⟩, tp, e8, e9, ep⟩ := id I
  obtain ⟨e0, e1, e2, e4, e5, e7⟩ := st.2.1
  have hs := w.1
  have ww := w.2.1
  have w3 := w.2.2.1
  have n6 := ww.1
  have p64 := p6 n6
  have bx := st.1
  have F1 : Fin0 (hR (tr h 0)) := F
  have w1 : cS (tr h 0) s (sA S) := cS_tr w
  have b1 : bT (tr h 0) (sA S) := bT_sx b tr_sx (by simp)
  have hf1 : hR (tr h 0) 32 0 = some s := r2
  have ns := c_noStreet (d := d + 8) r0 w
  rw [sImage]
  by_cases c1 : aN (sA S) = 0
  · rw [if_pos c1]
    exact qs_tr (v := 1) I (by decide) (fun Q => by
      simp (implicitDefEqProofs := false) only [eX7_image, rX7_image_0, rX7_image_0b, rX7_image_1, rX7_image_4, rX7_image_7, rX7_image_8, kS0 hs, kS1 hs, kT1 hs, fS1 hs F, kS2 hs, kT2 hs, fS2 hs F, kS3 hs, kT3 hs, fS3 hs F, kS4 hs, kT4 hs, fS4 hs F, kS5 hs, kT5 hs, fS5 hs F, kS6 hs, kT6 hs, fS6 hs F, kS7 hs, kT7 hs, fS7 hs F, kS8 hs, kT8 hs, fS8 hs F, kS9 hs, kT9 hs, fS9 hs F, kS10 hs, kT10 hs, fS10 hs F, kS11 hs, kT11 hs, fS11 hs F, nS hs, nSs hs, fin_0_2 F, fin_0_3 F, fin_0_4 F, fin_0_5 F, fin_0_6 F, fin_0_7 F, kA_0, kB_0, r0, r2, e0, e1, e2, pCX7_image, pSX7_image, pOX7_image, pLX7_image, pCX7_noStreet, pSX7_noStreet, pOX7_noStreet, pLX7_noStreet, pCX7_noHouse, pSX7_noHouse, pOX7_noHouse, pLX7_noHouse, pCX7_outside, pSX7_outside, pOX7_outside, pLX7_outside, pCX7_refuse, pSX7_refuse, pOX7_refuse, pLX7_refuse, ns, c1, show nI 1 = 1 from rfl, nI_0, decide_true, decide_false, bI_t, bI_f, reduceCtorEq, or_self, show ¬ (1 : Int32) = 0 from by decide, tr_R, tr_tr, tr_25, tr_26, tr_27, tr_28, tr_29, tr_30, tr_31, tr_32, tr_33, tr_34, tr_35, tr_36, tr_37, tr_38, tr_39, tr_40, tr_41, tr_42, tr_43, tr_s hs, tr_s1 hs, tr_s2 hs, tr_s3 hs, tr_s4 hs, tr_s5 hs, tr_s6 hs, tr_s7 hs, tr_s8 hs, tr_s9 hs, tr_s10 hs, tr_s11 hs, kl_I, kl_J, kl_R, kl_T, kl_N, Nat.le_refl, Nat.zero_le, List.map_nil, List.map_cons, List.sum_nil, List.sum_cons, c_I, c_J, c_R, c_T, va_rf, hI_wI, hJ_wJ, hR_wR, hI_J, hI_R, hJ_I, hJ_R, hR_I, hR_J, hN_I, hN_J, hN_R, wI_I, wJ_J, upd_at, updL_at, kR_s, Option.toList, List.append_nil, List.nil_append, List.cons_append, if_true, if_false, reduceIte, Bool.false_eq_true, not_true_eq_false, not_false_eq_true, true_and, and_true, false_and, and_false, true_or, or_true,  Nat.reduceEqDiff, Nat.reduceAdd, Nat.reduceLeDiff])
  · rw [if_neg c1]
    obtain ⟨h1, m1, m2, m3⟩ := c_keepImage (d := d + 8) F1 (St_sx st tr_sx (by simp) (by simp) (by simp))
    have FF : Fin0 (hR h1) := Fin_sx F1 m2
    have t9 : hI h1 0 9 = nI 0 := by rw [m2.2.2.2 0 (by simp), tr, hI_wI, if_pos rfl, upd_at, if_pos rfl]; rfl
    have t8 : hI h1 0 8 = hI h 0 8 := by rw [m2.2.2.2 0 (by simp), tr, hI_wI, if_pos rfl, upd_at, if_neg (by decide)]
    have q1 : sx [0, 29, 30, 31] h h1 := sx_trans (sx_mono tr_sx (by simp)) (sx_mono m2 (by simp))
    have rf := c_refuse (d := d + 9) (h := h1) (v := 3)
    by_cases c2 : (sM S).length < 3
    · rw [if_pos c2]
      rw [if_pos c2] at m1 m3
      have ne : ¬ nI (sM S).length = -1 := by
        rcases (show (sM S).length = 0 ∨ (sM S).length = 1 ∨ (sM S).length = 2 by omega) with e | e | e <;> rw [e] <;> decide
      refine qs_st (v := 0) I (fun Q => ?_) q1 t8 t9 (by decide) ⟨_, m3⟩ ⟨tbx, tbp, fun p hp => ?_⟩
      · simp (implicitDefEqProofs := false) only [eX7_image, rX7_image_0, rX7_image_0b, rX7_image_1, rX7_image_4, rX7_image_7, rX7_image_8, rX7_image_9, rX7_image_9b, rX7_image_10, rX7_image_13, rX7_image_16, rX7_image_17, rX7_image_18, rX7_image_19, rX7_image_22, rX7_image_22b, rX7_image_23, rX7_image_24, rX7_image_27, rX7_image_30, rX7_image_31, kS0 hs, kS1 hs, kT1 hs, fS1 hs F, kS2 hs, kT2 hs, fS2 hs F, kS3 hs, kT3 hs, fS3 hs F, kS4 hs, kT4 hs, fS4 hs F, kS5 hs, kT5 hs, fS5 hs F, kS6 hs, kT6 hs, fS6 hs F, kS7 hs, kT7 hs, fS7 hs F, kS8 hs, kT8 hs, fS8 hs F, kS9 hs, kT9 hs, fS9 hs F, kS10 hs, kT10 hs, fS10 hs F, kS11 hs, kT11 hs, fS11 hs F, nS hs, nSs hs, fin_0_2 F, fin_0_3 F, fin_0_4 F, fin_0_5 F, fin_0_6 F, fin_0_7 F, fin_0_2 FF, fin_0_3 FF, fin_0_4 FF, fin_0_5 FF, fin_0_6 FF, fin_0_7 FF, kA_0, kB_0, kA_29, kB_29, r0, r2, pCX7_image, pSX7_image, pOX7_image, pLX7_image, pCX7_noStreet, pSX7_noStreet, pOX7_noStreet, pLX7_noStreet, pCX7_noHouse, pSX7_noHouse, pOX7_noHouse, pLX7_noHouse, pCX7_outside, pSX7_outside, pOX7_outside, pLX7_outside, pCX7_refuse, pSX7_refuse, pOX7_refuse, pLX7_refuse, pCX3_keepImage, pSX3_keepImage, pOX3_keepImage, pLX3_keepImage, ns, c1, m1, ne, nI_0, decide_true, decide_false, bI_t, bI_f, reduceCtorEq, or_self, show ¬ (1 : Int32) = 0 from by decide, tr_R, tr_tr, tr_25, tr_26, tr_27, tr_28, tr_29, tr_30, tr_31, tr_32, tr_33, tr_34, tr_35, tr_36, tr_37, tr_38, tr_39, tr_40, tr_41, tr_42, tr_43, tr_s hs, tr_s1 hs, tr_s2 hs, tr_s3 hs, tr_s4 hs, tr_s5 hs, tr_s6 hs, tr_s7 hs, tr_s8 hs, tr_s9 hs, tr_s10 hs, tr_s11 hs, kl_I, kl_J, kl_R, kl_T, kl_N, Nat.le_refl, Nat.zero_le, List.map_nil, List.map_cons, List.sum_nil, List.sum_cons, c_I, c_J, c_R, c_T, va_rf, hI_wI, hJ_wJ, hR_wR, hI_J, hI_R, hJ_I, hJ_R, hR_I, hR_J, hN_I, hN_J, hN_R, wI_I, wJ_J, upd_at, updL_at, kR_s, Option.toList, List.append_nil, List.nil_append, List.cons_append, if_true, if_false, reduceIte, Bool.false_eq_true, not_true_eq_false, not_false_eq_true, true_and, and_true, false_and, and_false, true_or, or_true,  Nat.reduceEqDiff, Nat.reduceAdd, Nat.reduceLeDiff]
      · rcases List.mem_append.mp hp with q | q
        · exact tbm p q
        · rw [List.mem_singleton.mp q]; exact tbx
    · rw [if_neg c2]
      rw [if_neg c2] at m1 m3
      refine qs_st (v := 3) (h' := tr h1 3) I (fun Q => ?_) (sx_trans q1 (sx_mono tr_sx (by simp))) (by rw [tr, hI_wI, if_pos rfl, upd_at, if_neg (by decide), t8]) (by rw [tr, hI_wI, if_pos rfl, upd_at, if_pos rfl]; rfl) (by decide) ⟨_, St_sx m3 tr_sx (by simp) (by simp) (by simp)⟩ ⟨tbx, tbp, tbm⟩
      simp (implicitDefEqProofs := false) only [eX7_image, rX7_image_0, rX7_image_0b, rX7_image_1, rX7_image_4, rX7_image_7, rX7_image_8, rX7_image_9, rX7_image_9b, rX7_image_10, rX7_image_13, rX7_image_16, rX7_image_17, rX7_image_18, rX7_image_19, rX7_image_22, rX7_image_22b, rX7_image_23, rX7_image_24, rX7_image_27, rX7_image_30, rX7_image_31, kS0 hs, kS1 hs, kT1 hs, fS1 hs F, kS2 hs, kT2 hs, fS2 hs F, kS3 hs, kT3 hs, fS3 hs F, kS4 hs, kT4 hs, fS4 hs F, kS5 hs, kT5 hs, fS5 hs F, kS6 hs, kT6 hs, fS6 hs F, kS7 hs, kT7 hs, fS7 hs F, kS8 hs, kT8 hs, fS8 hs F, kS9 hs, kT9 hs, fS9 hs F, kS10 hs, kT10 hs, fS10 hs F, kS11 hs, kT11 hs, fS11 hs F, nS hs, nSs hs, fin_0_2 F, fin_0_3 F, fin_0_4 F, fin_0_5 F, fin_0_6 F, fin_0_7 F, fin_0_2 FF, fin_0_3 FF, fin_0_4 FF, fin_0_5 FF, fin_0_6 FF, fin_0_7 FF, kA_0, kB_0, kA_29, kB_29, r0, r2, pCX7_image, pSX7_image, pOX7_image, pLX7_image, pCX7_noStreet, pSX7_noStreet, pOX7_noStreet, pLX7_noStreet, pCX7_noHouse, pSX7_noHouse, pOX7_noHouse, pLX7_noHouse, pCX7_outside, pSX7_outside, pOX7_outside, pLX7_outside, pCX7_refuse, pSX7_refuse, pOX7_refuse, pLX7_refuse, pCX3_keepImage, pSX3_keepImage, pOX3_keepImage, pLX3_keepImage, ns, c1, m1, rf, nI_0, decide_true, decide_false, bI_t, bI_f, reduceCtorEq, or_self, show ¬ (1 : Int32) = 0 from by decide, tr_R, tr_tr, tr_25, tr_26, tr_27, tr_28, tr_29, tr_30, tr_31, tr_32, tr_33, tr_34, tr_35, tr_36, tr_37, tr_38, tr_39, tr_40, tr_41, tr_42, tr_43, tr_s hs, tr_s1 hs, tr_s2 hs, tr_s3 hs, tr_s4 hs, tr_s5 hs, tr_s6 hs, tr_s7 hs, tr_s8 hs, tr_s9 hs, tr_s10 hs, tr_s11 hs, kl_I, kl_J, kl_R, kl_T, kl_N, Nat.le_refl, Nat.zero_le, List.map_nil, List.map_cons, List.sum_nil, List.sum_cons, c_I, c_J, c_R, c_T, va_rf, hI_wI, hJ_wJ, hR_wR, hI_J, hI_R, hJ_I, hJ_R, hR_I, hR_J, hN_I, hN_J, hN_R, wI_I, wJ_J, upd_at, updL_at, kR_s, Option.toList, List.append_nil, List.nil_append, List.cons_append, if_true, if_false, reduceIte, Bool.false_eq_true, not_true_eq_false, not_false_eq_true, true_and, and_true, false_and, and_false, true_or, or_true,  Nat.reduceEqDiff, Nat.reduceAdd, Nat.reduceLeDiff]
def sBack (S : AS) (y : Int32) : AS × Bool := match ix y (sM S).length with
  | none => (stS S (sX S) (sP S) (sM S) 1, false)
  | some i => (stS S ((sM S).getD i (0, 0, 0)) [] (sM S) 0, true)
theorem q_back {d : Nat} {h : qH} {S : AS} {y : Int32} (I : CI h S) : qs (d + 10) mX7_back [.ref (0 : Nat), .int y] h (sBack S y).1 (some (.int (bI (sBack S y).2))) := by
  obtain ⟨s, tu, F, ⟨r0, r1, r2⟩, w, b, k, st, wc, gc, ⟨tbx, tbp, tbm⟩, tp, e8, e9, ep⟩ := id I
  obtain ⟨e0, e1, e2, e4, e5, e7⟩ := st.2.1
  have hs := w.1
  have ww := w.2.1
  have w3 := w.2.2.1
  have n6 := ww.1
  have p64 := p6 n6
  have bx := st.1
  have F1 : Fin0 (hR (tr h 0)) := F
  have w1 : cS (tr h 0) s (sA S) := cS_tr w
  have b1 : bT (tr h 0) (sA S) := bT_sx b tr_sx (by simp)
  have hf1 : hR (tr h 0) 32 0 = some s := r2
  have ns := c_noStreet (d := d + 8) r0 w
  obtain ⟨h1, m1, m2, m3⟩ := c_goBack (d := d + 8) (y := y) F st
  have FF : Fin0 (hR h1) := Fin_sx F m2
  have z8 : hI h1 0 = hI h 0 := m2.2.2.2 0 (by simp)
  have l3 := st.2.2.2.2.1
  rw [sBack]
  cases c1 : ix y (sM S).length with
  | none =>
    rw [c1] at m1 m3
    rw [if_pos rfl] at m1
    refine qs_st (v := 1) (h' := tr h1 1) I (fun Q => ?_) (sx_trans (sx_mono m2 (by simp)) (sx_mono tr_sx (by simp))) (by rw [tr, hI_wI, if_pos rfl, upd_at, if_neg (by decide), z8]) (by rw [tr, hI_wI, if_pos rfl, upd_at, if_pos rfl]; rfl) (by decide) ⟨_, St_sx m3 tr_sx (by simp) (by simp) (by simp)⟩ ⟨tbx, tbp, tbm⟩
    simp (implicitDefEqProofs := false) only [eX7_back, rX7_back_0, rX7_back_0b, rX7_back_1, rX7_back_4, rX7_back_5, rX7_back_8, rX7_back_9, rX7_back_9b, rX7_back_10, rX7_back_11, rX7_back_14, rX7_back_15, rX7_back_18, rX7_back_19, rX7_back_22, rX7_back_23, fin_0_2 F, fin_0_3 F, fin_0_4 F, fin_0_5 F, fin_0_6 F, fin_0_7 F, fin_0_2 FF, fin_0_3 FF, fin_0_4 FF, fin_0_5 FF, fin_0_6 FF, fin_0_7 FF, kA_0, kB_0, kA_29, kB_29, pCX7_back, pSX7_back, pOX7_back, pLX7_back, pCX3_goBack, pSX3_goBack, pOX3_goBack, pLX3_goBack, m1, bI_f, tr, kl_I, kl_J, kl_R, kl_T, kl_N, Nat.le_refl, Nat.zero_le, List.map_nil, List.map_cons, List.sum_nil, List.sum_cons, c_I, c_J, c_R, c_T, va_rf, hI_wI, hJ_wJ, hR_wR, hI_J, hI_R, hJ_I, hJ_R, hR_I, hR_J, hN_I, hN_J, hN_R, wI_I, wJ_J, upd_at, updL_at, kR_s, Option.toList, List.append_nil, List.nil_append, List.cons_append, if_true, if_false, reduceIte, Bool.false_eq_true, not_true_eq_false, not_false_eq_true, true_and, and_true, false_and, and_false, true_or, or_true,  Nat.reduceEqDiff, Nat.reduceAdd, Nat.reduceLeDiff]
  | some i =>
    rw [c1] at m1 m3
    rw [if_neg (by simp)] at m1
    obtain ⟨-, hi⟩ := ix_s (by omega) c1
    refine qs_st (v := 0) (h' := tr h1 0) I (fun Q => ?_) (sx_trans (sx_mono m2 (by simp)) (sx_mono tr_sx (by simp))) (by rw [tr, hI_wI, if_pos rfl, upd_at, if_neg (by decide), z8]) (by rw [tr, hI_wI, if_pos rfl, upd_at, if_pos rfl]; rfl) (by decide) ⟨_, St_sx m3 tr_sx (by simp) (by simp) (by simp)⟩ ⟨tbm _ (getD_in hi), by simp, tbm⟩
    simp (implicitDefEqProofs := false) only [eX7_back, rX7_back_0, rX7_back_0b, rX7_back_1, rX7_back_4, rX7_back_5, rX7_back_8, rX7_back_9, rX7_back_9b, rX7_back_10, rX7_back_11, rX7_back_14, rX7_back_15, rX7_back_18, rX7_back_19, rX7_back_22, rX7_back_23, fin_0_2 F, fin_0_3 F, fin_0_4 F, fin_0_5 F, fin_0_6 F, fin_0_7 F, fin_0_2 FF, fin_0_3 FF, fin_0_4 FF, fin_0_5 FF, fin_0_6 FF, fin_0_7 FF, kA_0, kB_0, kA_29, kB_29, pCX7_back, pSX7_back, pOX7_back, pLX7_back, pCX3_goBack, pSX3_goBack, pOX3_goBack, pLX3_goBack, m1, bI_t, show ¬ (1 : Int32) = 0 from by decide, tr, kl_I, kl_J, kl_R, kl_T, kl_N, Nat.le_refl, Nat.zero_le, List.map_nil, List.map_cons, List.sum_nil, List.sum_cons, c_I, c_J, c_R, c_T, va_rf, hI_wI, hJ_wJ, hR_wR, hI_J, hI_R, hJ_I, hJ_R, hR_I, hR_J, hN_I, hN_J, hN_R, wI_I, wJ_J, upd_at, updL_at, kR_s, Option.toList, List.append_nil, List.nil_append, List.cons_append, if_true, if_false, reduceIte, Bool.false_eq_true, not_true_eq_false, not_false_eq_true, true_and, and_true, false_and, and_false, true_or, or_true,  Nat.reduceEqDiff, Nat.reduceAdd, Nat.reduceLeDiff]
