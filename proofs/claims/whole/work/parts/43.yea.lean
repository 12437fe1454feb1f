/-! ===== odds, years, the tape ===== -/
noncomputable def sOdds (S : AS) (y z : Int32) (lo : Bool) : Nat × Int64 := match ix y (aN (sA S)) with
  | none => (1, -1)
  | some i => if z < 0 ∨ 90 < z then (2, -1) else (0, chN S 0 i z.toNatClampNeg lo)
theorem q_odds {d : Nat} {h : qH} {S : AS} {y z : Int32} {lo : Bool} (I : CI h S) : qy (d + 10) mX7_odds [.ref (0 : Nat), .int y, .int z, .int (bI lo)] h S (sOdds S y z lo).1 (some (.long (sOdds S y z lo).2)) := by
  obtain ⟨s, tu, F, ⟨r0, r1, r2⟩, w, b, k, st, wc, gc, ⟨tbx, tbp, tbm⟩, tp, e8, e9, ep⟩ := id I
  obtain ⟨e0, e1, e2, e4, e5, e7⟩ := st.2.1
  have hs := w.1
  have ww := w.2.1
  have w3 := w.2.2.1
  have n6 := ww.1
  have p64 := p6 n6
  have bx := st.1
  have F1 : Fin0 (hR (tr h 0)) := F
  have w1 : cS (tr h 0) s (sA S) := cS_tr w
  have b1 : bT (tr h 0) (sA S) := bT_sx b tr_sx (by simp)
  have hf1 : hR (tr h 0) 32 0 = some s := r2
  have ns := c_noStreet (d := d + 8) r0 w
  have nh := c_noHouse (d := d + 8) (y := y) r0 w
  have ou := fun v => c_outside (d := d + 8) (h := tr h v) (y := z) (lo := 0) (hi := 90)
  rw [sOdds]
  cases c1 : ix y (aN (sA S)) with
  | none => exact qy_tr (v := 1) I (by decide) (fun Q => by
      simp (implicitDefEqProofs := false) only [eX7_odds, rX7_odds_0, rX7_odds_0b, rX7_odds_1, rX7_odds_2, rX7_odds_5, rX7_odds_8, rX7_odds_8b, rX7_odds_9, rX7_odds_10, rX7_odds_11, rX7_odds_13, rX7_odds_16, rX7_odds_19, rX7_odds_22, kS0 hs, kS1 hs, kT1 hs, fS1 hs F, kS2 hs, kT2 hs, fS2 hs F, kS3 hs, kT3 hs, fS3 hs F, kS4 hs, kT4 hs, fS4 hs F, kS5 hs, kT5 hs, fS5 hs F, kS6 hs, kT6 hs, fS6 hs F, kS7 hs, kT7 hs, fS7 hs F, kS8 hs, kT8 hs, fS8 hs F, kS9 hs, kT9 hs, fS9 hs F, kS10 hs, kT10 hs, fS10 hs F, kS11 hs, kT11 hs, fS11 hs F, nS hs, nSs hs, fin_0_2 F, fin_0_3 F, fin_0_4 F, fin_0_5 F, fin_0_6 F, fin_0_7 F, kA_0, kB_0, r0, r2, e0, e1, e2, pCX7_odds, pSX7_odds, pOX7_odds, pLX7_odds, pCX7_noStreet, pSX7_noStreet, pOX7_noStreet, pLX7_noStreet, pCX7_noHouse, pSX7_noHouse, pOX7_noHouse, pLX7_noHouse, pCX7_outside, pSX7_outside, pOX7_outside, pLX7_outside, pCX7_refuse, pSX7_refuse, pOX7_refuse, pLX7_refuse, nh, c1, show nI 1 = 1 from rfl, nI_0, decide_true, decide_false, bI_t, bI_f, reduceCtorEq, or_self, show ¬ (1 : Int32) = 0 from by decide, tr_R, tr_tr, tr_25, tr_26, tr_27, tr_28, tr_29, tr_30, tr_31, tr_32, tr_33, tr_34, tr_35, tr_36, tr_37, tr_38, tr_39, tr_40, tr_41, tr_42, tr_43, tr_s hs, tr_s1 hs, tr_s2 hs, tr_s3 hs, tr_s4 hs, tr_s5 hs, tr_s6 hs, tr_s7 hs, tr_s8 hs, tr_s9 hs, tr_s10 hs, tr_s11 hs, kl_I, kl_J, kl_R, kl_T, kl_N, Nat.le_refl, Nat.zero_le, List.map_nil, List.map_cons, List.sum_nil, List.sum_cons, c_I, c_J, c_R, c_T, va_rf, hI_wI, hJ_wJ, hR_wR, hI_J, hI_R, hJ_I, hJ_R, hR_I, hR_J, hN_I, hN_J, hN_R, wI_I, wJ_J, upd_at, updL_at, kR_s, Option.toList, List.append_nil, List.nil_append, List.cons_append, if_true, if_false, reduceIte, Bool.false_eq_true, not_true_eq_false, not_false_eq_true, true_and, and_true, false_and, and_false, true_or, or_true,  Nat.reduceEqDiff, Nat.reduceAdd, Nat.reduceLeDiff])
  | some i =>
    simp only
    by_cases c2 : z < 0 ∨ 90 < z
    · rw [if_pos c2]
      exact qy_tr (v := 2) I (by decide) (fun Q => by
        simp (implicitDefEqProofs := false) only [eX7_odds, rX7_odds_0, rX7_odds_0b, rX7_odds_1, rX7_odds_2, rX7_odds_5, rX7_odds_8, rX7_odds_8b, rX7_odds_9, rX7_odds_10, rX7_odds_11, rX7_odds_13, rX7_odds_16, rX7_odds_19, rX7_odds_22, kS0 hs, kS1 hs, kT1 hs, fS1 hs F, kS2 hs, kT2 hs, fS2 hs F, kS3 hs, kT3 hs, fS3 hs F, kS4 hs, kT4 hs, fS4 hs F, kS5 hs, kT5 hs, fS5 hs F, kS6 hs, kT6 hs, fS6 hs F, kS7 hs, kT7 hs, fS7 hs F, kS8 hs, kT8 hs, fS8 hs F, kS9 hs, kT9 hs, fS9 hs F, kS10 hs, kT10 hs, fS10 hs F, kS11 hs, kT11 hs, fS11 hs F, nS hs, nSs hs, fin_0_2 F, fin_0_3 F, fin_0_4 F, fin_0_5 F, fin_0_6 F, fin_0_7 F, kA_0, kB_0, r0, r2, e0, e1, e2, pCX7_odds, pSX7_odds, pOX7_odds, pLX7_odds, pCX7_noStreet, pSX7_noStreet, pOX7_noStreet, pLX7_noStreet, pCX7_noHouse, pSX7_noHouse, pOX7_noHouse, pLX7_noHouse, pCX7_outside, pSX7_outside, pOX7_outside, pLX7_outside, pCX7_refuse, pSX7_refuse, pOX7_refuse, pLX7_refuse, nh, c1, ou, c2, show nI 2 = 2 from rfl, nI_0, decide_true, decide_false, bI_t, bI_f, reduceCtorEq, or_self, show ¬ (1 : Int32) = 0 from by decide, tr_R, tr_tr, tr_25, tr_26, tr_27, tr_28, tr_29, tr_30, tr_31, tr_32, tr_33, tr_34, tr_35, tr_36, tr_37, tr_38, tr_39, tr_40, tr_41, tr_42, tr_43, tr_s hs, tr_s1 hs, tr_s2 hs, tr_s3 hs, tr_s4 hs, tr_s5 hs, tr_s6 hs, tr_s7 hs, tr_s8 hs, tr_s9 hs, tr_s10 hs, tr_s11 hs, kl_I, kl_J, kl_R, kl_T, kl_N, Nat.le_refl, Nat.zero_le, List.map_nil, List.map_cons, List.sum_nil, List.sum_cons, c_I, c_J, c_R, c_T, va_rf, hI_wI, hJ_wJ, hR_wR, hI_J, hI_R, hJ_I, hJ_R, hR_I, hR_J, hN_I, hN_J, hN_R, wI_I, wJ_J, upd_at, updL_at, kR_s, Option.toList, List.append_nil, List.nil_append, List.cons_append, if_true, if_false, reduceIte, Bool.false_eq_true, not_true_eq_false, not_false_eq_true, true_and, and_true, false_and, and_false, true_or, or_true,  Nat.reduceEqDiff, Nat.reduceAdd, Nat.reduceLeDiff])
    · rw [if_neg c2]
      obtain ⟨rfl, hi⟩ := ix_s (by omega) c1
      obtain ⟨j, hj, rfl⟩ := dy c2
      obtain ⟨h1, m1, m2, m3⟩ := c_overAll (d := d + 4) (S := S) (so := 0) (x := i) (y := j) (lo := lo) F1 hf1 w1 (cC_sx k tr_sx (by simp) (by simp)) (by rw [tr_29]; exact e0) tbx.1 hj (by omega) (by omega)
      rw [nI_0] at m1
      exact qy_m0 I (fun Q => by
        simp (implicitDefEqProofs := false) only [eX7_odds, rX7_odds_0, rX7_odds_0b, rX7_odds_1, rX7_odds_2, rX7_odds_5, rX7_odds_8, rX7_odds_8b, rX7_odds_9, rX7_odds_10, rX7_odds_11, rX7_odds_13, rX7_odds_16, rX7_odds_19, rX7_odds_22, rX7_odds_23, rX7_odds_23b, rX7_odds_24, rX7_odds_25, rX7_odds_26, rX7_odds_27, rX7_odds_28, rX7_odds_31, kS0 hs, kS1 hs, kT1 hs, fS1 hs F, kS2 hs, kT2 hs, fS2 hs F, kS3 hs, kT3 hs, fS3 hs F, kS4 hs, kT4 hs, fS4 hs F, kS5 hs, kT5 hs, fS5 hs F, kS6 hs, kT6 hs, fS6 hs F, kS7 hs, kT7 hs, fS7 hs F, kS8 hs, kT8 hs, fS8 hs F, kS9 hs, kT9 hs, fS9 hs F, kS10 hs, kT10 hs, fS10 hs F, kS11 hs, kT11 hs, fS11 hs F, nS hs, nSs hs, fin_0_2 F, fin_0_3 F, fin_0_4 F, fin_0_5 F, fin_0_6 F, fin_0_7 F, kA_0, kB_0, r0, r2, e0, e1, e2, pCX7_odds, pSX7_odds, pOX7_odds, pLX7_odds, pCX7_noStreet, pSX7_noStreet, pOX7_noStreet, pLX7_noStreet, pCX7_noHouse, pSX7_noHouse, pOX7_noHouse, pLX7_noHouse, pCX7_outside, pSX7_outside, pOX7_outside, pLX7_outside, pCX7_refuse, pSX7_refuse, pOX7_refuse, pLX7_refuse, pCX7_overAll, pSX7_overAll, pOX7_overAll, pLX7_overAll, nh, c1, ou, c2, m1, nI_cl (n := j) (by omega), nI_0, decide_true, decide_false, bI_t, bI_f, reduceCtorEq, or_self, show ¬ (1 : Int32) = 0 from by decide, tr_R, tr_tr, tr_25, tr_26, tr_27, tr_28, tr_29, tr_30, tr_31, tr_32, tr_33, tr_34, tr_35, tr_36, tr_37, tr_38, tr_39, tr_40, tr_41, tr_42, tr_43, tr_s hs, tr_s1 hs, tr_s2 hs, tr_s3 hs, tr_s4 hs, tr_s5 hs, tr_s6 hs, tr_s7 hs, tr_s8 hs, tr_s9 hs, tr_s10 hs, tr_s11 hs, kl_I, kl_J, kl_R, kl_T, kl_N, Nat.le_refl, Nat.zero_le, List.map_nil, List.map_cons, List.sum_nil, List.sum_cons, c_I, c_J, c_R, c_T, va_rf, hI_wI, hJ_wJ, hR_wR, hI_J, hI_R, hJ_I, hJ_R, hR_I, hR_J, hN_I, hN_J, hN_R, wI_I, wJ_J, upd_at, updL_at, kR_s, Option.toList, List.append_nil, List.nil_append, List.cons_append, if_true, if_false, reduceIte, Bool.false_eq_true, not_true_eq_false, not_false_eq_true, true_and, and_true, false_and, and_false, true_or, or_true,  Nat.reduceEqDiff, Nat.reduceAdd, Nat.reduceLeDiff]) m2 (by simp) m3 (wC_sx (wC_sx wc tr_sx (by simp) (by simp)) m2 (by simp) (by simp)) (gC_sx (gC_sx gc tr_sx (by simp) (by simp) (by simp)) m2 (by simp) (by simp) (by simp))
noncomputable def sQuiet (S : AS) (y : Int32) (lo : Bool) : Nat × Int64 := if aN (sA S) = 0 then (1, -1) else if y < 0 ∨ 90 < y then (2, -1) else (0, chN S 1 0 y.toNatClampNeg lo)
theorem q_quiet {d : Nat} {h : qH} {S : AS} {y : Int32} {lo : Bool} (I : CI h S) : qy (d + 10) mX7_quiet [.ref (0 : Nat), .int y, .int (bI lo)] h S (sQuiet S y lo).1 (some (.long (sQuiet S y lo).2)) := by
  obtain ⟨s, tu, F, ⟨r0, r1, r2⟩, w, b, k, st, wc, gc, ⟨tbx, tbp, tbm⟩, tp, e8, e9, ep⟩ := id I
  obtain ⟨e0, e1, e2, e4, e5, e7⟩ := st.2.1
  have hs := w.1
  have ww := w.2.1
  have w3 := w.2.2.1
  have n6 := ww.1
  have p64 := p6 n6
  have bx := st.1
  have F1 : Fin0 (hR (tr h 0)) := F
  have w1 : cS (tr h 0) s (sA S) := cS_tr w
  have b1 : bT (tr h 0) (sA S) := bT_sx b tr_sx (by simp)
  have hf1 : hR (tr h 0) 32 0 = some s := r2
  have ns := c_noStreet (d := d + 8) r0 w
  have ou := fun v => c_outside (d := d + 8) (h := tr h v) (y := y) (lo := 0) (hi := 90)
  rw [sQuiet]
  by_cases c1 : aN (sA S) = 0
  · rw [if_pos c1]
    exact qy_tr (v := 1) I (by decide) (fun Q => by
      simp (implicitDefEqProofs := false) only [eX7_quiet, rX7_quiet_0, rX7_quiet_0b, rX7_quiet_1, rX7_quiet_4, rX7_quiet_7, rX7_quiet_7b, rX7_quiet_8, rX7_quiet_9, rX7_quiet_10, rX7_quiet_12, rX7_quiet_15, rX7_quiet_18, rX7_quiet_21, kS0 hs, kS1 hs, kT1 hs, fS1 hs F, kS2 hs, kT2 hs, fS2 hs F, kS3 hs, kT3 hs, fS3 hs F, kS4 hs, kT4 hs, fS4 hs F, kS5 hs, kT5 hs, fS5 hs F, kS6 hs, kT6 hs, fS6 hs F, kS7 hs, kT7 hs, fS7 hs F, kS8 hs, kT8 hs, fS8 hs F, kS9 hs, kT9 hs, fS9 hs F, kS10 hs, kT10 hs, fS10 hs F, kS11 hs, kT11 hs, fS11 hs F, nS hs, nSs hs, fin_0_2 F, fin_0_3 F, fin_0_4 F, fin_0_5 F, fin_0_6 F, fin_0_7 F, kA_0, kB_0, r0, r2, e0, e1, e2, pCX7_quiet, pSX7_quiet, pOX7_quiet, pLX7_quiet, pCX7_noStreet, pSX7_noStreet, pOX7_noStreet, pLX7_noStreet, pCX7_noHouse, pSX7_noHouse, pOX7_noHouse, pLX7_noHouse, pCX7_outside, pSX7_outside, pOX7_outside, pLX7_outside, pCX7_refuse, pSX7_refuse, pOX7_refuse, pLX7_refuse, ns, c1, show nI 1 = 1 from rfl, nI_0, decide_true, decide_false, bI_t, bI_f, reduceCtorEq, or_self, show ¬ (1 : Int32) = 0 from by decide, tr_R, tr_tr, tr_25, tr_26, tr_27, tr_28, tr_29, tr_30, tr_31, tr_32, tr_33, tr_34, tr_35, tr_36, tr_37, tr_38, tr_39, tr_40, tr_41, tr_42, tr_43, tr_s hs, tr_s1 hs, tr_s2 hs, tr_s3 hs, tr_s4 hs, tr_s5 hs, tr_s6 hs, tr_s7 hs, tr_s8 hs, tr_s9 hs, tr_s10 hs, tr_s11 hs, kl_I, kl_J, kl_R, kl_T, kl_N, Nat.le_refl, Nat.zero_le, List.map_nil, List.map_cons, List.sum_nil, List.sum_cons, c_I, c_J, c_R, c_T, va_rf, hI_wI, hJ_wJ, hR_wR, hI_J, hI_R, hJ_I, hJ_R, hR_I, hR_J, hN_I, hN_J, hN_R, wI_I, wJ_J, upd_at, updL_at, kR_s, Option.toList, List.append_nil, List.nil_append, List.cons_append, if_true, if_false, reduceIte, Bool.false_eq_true, not_true_eq_false, not_false_eq_true, true_and, and_true, false_and, and_false, true_or, or_true,  Nat.reduceEqDiff, Nat.reduceAdd, Nat.reduceLeDiff])
  · rw [if_neg c1]
    by_cases c2 : y < 0 ∨ 90 < y
    · rw [if_pos c2]
      exact qy_tr (v := 2) I (by decide) (fun Q => by
        simp (implicitDefEqProofs := false) only [eX7_quiet, rX7_quiet_0, rX7_quiet_0b, rX7_quiet_1, rX7_quiet_4, rX7_quiet_7, rX7_quiet_7b, rX7_quiet_8, rX7_quiet_9, rX7_quiet_10, rX7_quiet_12, rX7_quiet_15, rX7_quiet_18, rX7_quiet_21, kS0 hs, kS1 hs, kT1 hs, fS1 hs F, kS2 hs, kT2 hs, fS2 hs F, kS3 hs, kT3 hs, fS3 hs F, kS4 hs, kT4 hs, fS4 hs F, kS5 hs, kT5 hs, fS5 hs F, kS6 hs, kT6 hs, fS6 hs F, kS7 hs, kT7 hs, fS7 hs F, kS8 hs, kT8 hs, fS8 hs F, kS9 hs, kT9 hs, fS9 hs F, kS10 hs, kT10 hs, fS10 hs F, kS11 hs, kT11 hs, fS11 hs F, nS hs, nSs hs, fin_0_2 F, fin_0_3 F, fin_0_4 F, fin_0_5 F, fin_0_6 F, fin_0_7 F, kA_0, kB_0, r0, r2, e0, e1, e2, pCX7_quiet, pSX7_quiet, pOX7_quiet, pLX7_quiet, pCX7_noStreet, pSX7_noStreet, pOX7_noStreet, pLX7_noStreet, pCX7_noHouse, pSX7_noHouse, pOX7_noHouse, pLX7_noHouse, pCX7_outside, pSX7_outside, pOX7_outside, pLX7_outside, pCX7_refuse, pSX7_refuse, pOX7_refuse, pLX7_refuse, ns, c1, ou, c2, show nI 2 = 2 from rfl, nI_0, decide_true, decide_false, bI_t, bI_f, reduceCtorEq, or_self, show ¬ (1 : Int32) = 0 from by decide, tr_R, tr_tr, tr_25, tr_26, tr_27, tr_28, tr_29, tr_30, tr_31, tr_32, tr_33, tr_34, tr_35, tr_36, tr_37, tr_38, tr_39, tr_40, tr_41, tr_42, tr_43, tr_s hs, tr_s1 hs, tr_s2 hs, tr_s3 hs, tr_s4 hs, tr_s5 hs, tr_s6 hs, tr_s7 hs, tr_s8 hs, tr_s9 hs, tr_s10 hs, tr_s11 hs, kl_I, kl_J, kl_R, kl_T, kl_N, Nat.le_refl, Nat.zero_le, List.map_nil, List.map_cons, List.sum_nil, List.sum_cons, c_I, c_J, c_R, c_T, va_rf, hI_wI, hJ_wJ, hR_wR, hI_J, hI_R, hJ_I, hJ_R, hR_I, hR_J, hN_I, hN_J, hN_R, wI_I, wJ_J, upd_at, updL_at, kR_s, Option.toList, List.append_nil, List.nil_append, List.cons_append, if_true, if_false, reduceIte, Bool.false_eq_true, not_true_eq_false, not_false_eq_true, true_and, and_true, false_and, and_false, true_or, or_true,  Nat.reduceEqDiff, Nat.reduceAdd, Nat.reduceLeDiff])
    · rw [if_neg c2]
      obtain ⟨j, hj, rfl⟩ := dy c2
      obtain ⟨h1, m1, m2, m3⟩ := c_overAll (d := d + 4) (S := S) (so := 1) (x := 0) (y := j) (lo := lo) F1 hf1 w1 (cC_sx k tr_sx (by simp) (by simp)) (by rw [tr_29]; exact e0) tbx.1 hj (by omega) (by omega)
      rw [nI_0, show nI 1 = 1 from rfl] at m1
      exact qy_m0 I (fun Q => by
        simp (implicitDefEqProofs := false) only [eX7_quiet, rX7_quiet_0, rX7_quiet_0b, rX7_quiet_1, rX7_quiet_4, rX7_quiet_7, rX7_quiet_7b, rX7_quiet_8, rX7_quiet_9, rX7_quiet_10, rX7_quiet_12, rX7_quiet_15, rX7_quiet_18, rX7_quiet_21, rX7_quiet_22, rX7_quiet_22b, rX7_quiet_23, rX7_quiet_24, rX7_quiet_25, rX7_quiet_26, rX7_quiet_27, rX7_quiet_30, kS0 hs, kS1 hs, kT1 hs, fS1 hs F, kS2 hs, kT2 hs, fS2 hs F, kS3 hs, kT3 hs, fS3 hs F, kS4 hs, kT4 hs, fS4 hs F, kS5 hs, kT5 hs, fS5 hs F, kS6 hs, kT6 hs, fS6 hs F, kS7 hs, kT7 hs, fS7 hs F, kS8 hs, kT8 hs, fS8 hs F, kS9 hs, kT9 hs, fS9 hs F, kS10 hs, kT10 hs, fS10 hs F, kS11 hs, kT11 hs, fS11 hs F, nS hs, nSs hs, fin_0_2 F, fin_0_3 F, fin_0_4 F, fin_0_5 F, fin_0_6 F, fin_0_7 F, kA_0, kB_0, r0, r2, e0, e1, e2, pCX7_quiet, pSX7_quiet, pOX7_quiet, pLX7_quiet, pCX7_noStreet, pSX7_noStreet, pOX7_noStreet, pLX7_noStreet, pCX7_noHouse, pSX7_noHouse, pOX7_noHouse, pLX7_noHouse, pCX7_outside, pSX7_outside, pOX7_outside, pLX7_outside, pCX7_refuse, pSX7_refuse, pOX7_refuse, pLX7_refuse, pCX7_overAll, pSX7_overAll, pOX7_overAll, pLX7_overAll, ns, c1, ou, c2, m1, nI_cl (n := j) (by omega), nI_0, decide_true, decide_false, bI_t, bI_f, reduceCtorEq, or_self, show ¬ (1 : Int32) = 0 from by decide, tr_R, tr_tr, tr_25, tr_26, tr_27, tr_28, tr_29, tr_30, tr_31, tr_32, tr_33, tr_34, tr_35, tr_36, tr_37, tr_38, tr_39, tr_40, tr_41, tr_42, tr_43, tr_s hs, tr_s1 hs, tr_s2 hs, tr_s3 hs, tr_s4 hs, tr_s5 hs, tr_s6 hs, tr_s7 hs, tr_s8 hs, tr_s9 hs, tr_s10 hs, tr_s11 hs, kl_I, kl_J, kl_R, kl_T, kl_N, Nat.le_refl, Nat.zero_le, List.map_nil, List.map_cons, List.sum_nil, List.sum_cons, c_I, c_J, c_R, c_T, va_rf, hI_wI, hJ_wJ, hR_wR, hI_J, hI_R, hJ_I, hJ_R, hR_I, hR_J, hN_I, hN_J, hN_R, wI_I, wJ_J, upd_at, updL_at, kR_s, Option.toList, List.append_nil, List.nil_append, List.cons_append, if_true, if_false, reduceIte, Bool.false_eq_true, not_true_eq_false, not_false_eq_true, true_and, and_true, false_and, and_false, true_or, or_true,  Nat.reduceEqDiff, Nat.reduceAdd, Nat.reduceLeDiff]) m2 (by simp) m3 (wC_sx (wC_sx wc tr_sx (by simp) (by simp)) m2 (by simp) (by simp)) (gC_sx (gC_sx gc tr_sx (by simp) (by simp) (by simp)) m2 (by simp) (by simp) (by simp))
noncomputable def sMean (S : AS) (y : Int32) (lo : Bool) : Nat × Int64 := if aN (sA S) = 0 then (1, -1) else if y < 0 ∨ 90 < y then (2, -1) else (0, chN S 2 0 y.toNatClampNeg lo)
theorem q_mean {d : Nat} {h : qH} {S : AS} {y : Int32} {lo : Bool} (I : CI h S) : qy (d + 10) mX7_mean [.ref (0 : Nat), .int y, .int (bI lo)] h S (sMean S y lo).1 (some (.long (sMean S y lo).2)) := by
  obtain ⟨s, tu, F, ⟨r0, r1, r2⟩, w, b, k, st, wc, gc, ⟨tbx, tbp, tbm⟩, tp, e8, e9, ep⟩ := id I
  obtain ⟨e0, e1, e2, e4, e5, e7⟩ := st.2.1
  have hs := w.1
  have ww := w.2.1
  have w3 := w.2.2.1
  have n6 := ww.1
  have p64 := p6 n6
  have bx := st.1
  have F1 : Fin0 (hR (tr h 0)) := F
  have w1 : cS (tr h 0) s (sA S) := cS_tr w
  have b1 : bT (tr h 0) (sA S) := bT_sx b tr_sx (by simp)
  have hf1 : hR (tr h 0) 32 0 = some s := r2
  have ns := c_noStreet (d := d + 8) r0 w
  have ou := fun v => c_outside (d := d + 8) (h := tr h v) (y := y) (lo := 0) (hi := 90)
  rw [sMean]
  by_cases c1 : aN (sA S) = 0
  · rw [if_pos c1]
    exact qy_tr (v := 1) I (by decide) (fun Q => by
      simp (implicitDefEqProofs := false) only [eX7_mean, rX7_mean_0, rX7_mean_0b, rX7_mean_1, rX7_mean_4, rX7_mean_7, rX7_mean_7b, rX7_mean_8, rX7_mean_9, rX7_mean_10, rX7_mean_12, rX7_mean_15, rX7_mean_18, rX7_mean_21, kS0 hs, kS1 hs, kT1 hs, fS1 hs F, kS2 hs, kT2 hs, fS2 hs F, kS3 hs, kT3 hs, fS3 hs F, kS4 hs, kT4 hs, fS4 hs F, kS5 hs, kT5 hs, fS5 hs F, kS6 hs, kT6 hs, fS6 hs F, kS7 hs, kT7 hs, fS7 hs F, kS8 hs, kT8 hs, fS8 hs F, kS9 hs, kT9 hs, fS9 hs F, kS10 hs, kT10 hs, fS10 hs F, kS11 hs, kT11 hs, fS11 hs F, nS hs, nSs hs, fin_0_2 F, fin_0_3 F, fin_0_4 F, fin_0_5 F, fin_0_6 F, fin_0_7 F, kA_0, kB_0, r0, r2, e0, e1, e2, pCX7_mean, pSX7_mean, pOX7_mean, pLX7_mean, pCX7_noStreet, pSX7_noStreet, pOX7_noStreet, pLX7_noStreet, pCX7_noHouse, pSX7_noHouse, pOX7_noHouse, pLX7_noHouse, pCX7_outside, pSX7_outside, pOX7_outside, pLX7_outside, pCX7_refuse, pSX7_refuse, pOX7_refuse, pLX7_refuse, ns, c1, show nI 1 = 1 from rfl, nI_0, decide_true, decide_false, bI_t, bI_f, reduceCtorEq, or_self, show ¬ (1 : Int32) = 0 from by decide, tr_R, tr_tr, tr_25, tr_26, tr_27, tr_28, tr_29, tr_30, tr_31, tr_32, tr_33, tr_34, tr_35, tr_36, tr_37, tr_38, tr_39, tr_40, tr_41, tr_42, tr_43, tr_s hs, tr_s1 hs, tr_s2 hs, tr_s3 hs, tr_s4 hs, tr_s5 hs, tr_s6 hs, tr_s7 hs, tr_s8 hs, tr_s9 hs, tr_s10 hs, tr_s11 hs, kl_I, kl_J, kl_R, kl_T, kl_N, Nat.le_refl, Nat.zero_le, List.map_nil, List.map_cons, List.sum_nil, List.sum_cons, c_I, c_J, c_R, c_T, va_rf, hI_wI, hJ_wJ, hR_wR, hI_J, hI_R, hJ_I, hJ_R, hR_I, hR_J, hN_I, hN_J, hN_R, wI_I, wJ_J, upd_at, updL_at, kR_s, Option.toList, List.append_nil, List.nil_append, List.cons_append, if_true, if_false, reduceIte, Bool.false_eq_true, not_true_eq_false, not_false_eq_true, true_and, and_true, false_and, and_false, true_or, or_true,  Nat.reduceEqDiff, Nat.reduceAdd, Nat.reduceLeDiff])
  · rw [if_neg c1]
    by_cases c2 : y < 0 ∨ 90 < y
    · rw [if_pos c2]
      exact qy_tr (v := 2) I (by decide) (fun Q => by
        simp (implicitDefEqProofs := false) only [eX7_mean, rX7_mean_0, rX7_mean_0b, rX7_mean_1, rX7_mean_4, rX7_mean_7, rX7_mean_7b, rX7_mean_8, rX7_mean_9, rX7_mean_10, rX7_mean_12, rX7_mean_15, rX7_mean_18, rX7_mean_21, kS0 hs, kS1 hs, kT1 hs, fS1 hs F, kS2 hs, kT2 hs, fS2 hs F, kS3 hs, kT3 hs, fS3 hs F, kS4 hs, kT4 hs, fS4 hs F, kS5 hs, kT5 hs, fS5 hs F, kS6 hs, kT6 hs, fS6 hs F, kS7 hs, kT7 hs, fS7 hs F, kS8 hs, kT8 hs, fS8 hs F, kS9 hs, kT9 hs, fS9 hs F, kS10 hs, kT10 hs, fS10 hs F, kS11 hs, kT11 hs, fS11 hs F, nS hs, nSs hs, fin_0_2 F, fin_0_3 F, fin_0_4 F, fin_0_5 F, fin_0_6 F, fin_0_7 F, kA_0, kB_0, r0, r2, e0, e1, e2, pCX7_mean, pSX7_mean, pOX7_mean, pLX7_mean, pCX7_noStreet, pSX7_noStreet, pOX7_noStreet, pLX7_noStreet, pCX7_noHouse, pSX7_noHouse, pOX7_noHouse, pLX7_noHouse, pCX7_outside, pSX7_outside, pOX7_outside, pLX7_outside, pCX7_refuse, pSX7_refuse, pOX7_refuse, pLX7_refuse, ns, c1, ou, c2, show nI 2 = 2 from rfl, nI_0, decide_true, decide_false, bI_t, bI_f, reduceCtorEq, or_self, show ¬ (1 : Int32) = 0 from by decide, tr_R, tr_tr, tr_25, tr_26, tr_27, tr_28, tr_29, tr_30, tr_31, tr_32, tr_33, tr_34, tr_35, tr_36, tr_37, tr_38, tr_39, tr_40, tr_41, tr_42, tr_43, tr_s hs, tr_s1 hs, tr_s2 hs, tr_s3 hs, tr_s4 hs, tr_s5 hs, tr_s6 hs, tr_s7 hs, tr_s8 hs, tr_s9 hs, tr_s10 hs, tr_s11 hs, kl_I, kl_J, kl_R, kl_T, kl_N, Nat.le_refl, Nat.zero_le, List.map_nil, List.map_cons, List.sum_nil, List.sum_cons, c_I, c_J, c_R, c_T, va_rf, hI_wI, hJ_wJ, hR_wR, hI_J, hI_R, hJ_I, hJ_R, hR_I, hR_J, hN_I, hN_J, hN_R, wI_I, wJ_J, upd_at, updL_at, kR_s, Option.toList, List.append_nil, List.nil_append, List.cons_append, if_true, if_false, reduceIte, Bool.false_eq_true, not_true_eq_false, not_false_eq_true, true_and, and_true, false_and, and_false, true_or, or_true,  Nat.reduceEqDiff, Nat.reduceAdd, Nat.reduceLeDiff])
    · rw [if_neg c2]
      obtain ⟨j, hj, rfl⟩ := dy c2
      obtain ⟨h1, m1, m2, m3⟩ := c_overAll (d := d + 4) (S := S) (so := 2) (x := 0) (y := j) (lo := lo) F1 hf1 w1 (cC_sx k tr_sx (by simp) (by simp)) (by rw [tr_29]; exact e0) tbx.1 hj (by omega) (by omega)
      rw [nI_0, show nI 2 = 2 from rfl] at m1
      exact qy_m0 I (fun Q => by
        simp (implicitDefEqProofs := false) only [eX7_mean, rX7_mean_0, rX7_mean_0b, rX7_mean_1, rX7_mean_4, rX7_mean_7, rX7_mean_7b, rX7_mean_8, rX7_mean_9, rX7_mean_10, rX7_mean_12, rX7_mean_15, rX7_mean_18, rX7_mean_21, rX7_mean_22, rX7_mean_22b, rX7_mean_23, rX7_mean_24, rX7_mean_25, rX7_mean_26, rX7_mean_27, rX7_mean_30, kS0 hs, kS1 hs, kT1 hs, fS1 hs F, kS2 hs, kT2 hs, fS2 hs F, kS3 hs, kT3 hs, fS3 hs F, kS4 hs, kT4 hs, fS4 hs F, kS5 hs, kT5 hs, fS5 hs F, kS6 hs, kT6 hs, fS6 hs F, kS7 hs, kT7 hs, fS7 hs F, kS8 hs, kT8 hs, fS8 hs F, kS9 hs, kT9 hs, fS9 hs F, kS10 hs, kT10 hs, fS10 hs F, kS11 hs, kT11 hs, fS11 hs F, nS hs, nSs hs, fin_0_2 F, fin_0_3 F, fin_0_4 F, fin_0_5 F, fin_0_6 F, fin_0_7 F, kA_0, kB_0, r0, r2, e0, e1, e2, pCX7_mean, pSX7_mean, pOX7_mean, pLX7_mean, pCX7_noStreet, pSX7_noStreet, pOX7_noStreet, pLX7_noStreet, pCX7_noHouse, pSX7_noHouse, pOX7_noHouse, pLX7_noHouse, pCX7_outside, pSX7_outside, pOX7_outside, pLX7_outside, pCX7_refuse, pSX7_refuse, pOX7_refuse, pLX7_refuse, pCX7_overAll, pSX7_overAll, pOX7_overAll, pLX7_overAll, ns, c1, ou, c2, m1, nI_cl (n := j) (by omega), nI_0, decide_true, decide_false, bI_t, bI_f, reduceCtorEq, or_self, show ¬ (1 : Int32) = 0 from by decide, tr_R, tr_tr, tr_25, tr_26, tr_27, tr_28, tr_29, tr_30, tr_31, tr_32, tr_33, tr_34, tr_35, tr_36, tr_37, tr_38, tr_39, tr_40, tr_41, tr_42, tr_43, tr_s hs, tr_s1 hs, tr_s2 hs, tr_s3 hs, tr_s4 hs, tr_s5 hs, tr_s6 hs, tr_s7 hs, tr_s8 hs, tr_s9 hs, tr_s10 hs, tr_s11 hs, kl_I, kl_J, kl_R, kl_T, kl_N, Nat.le_refl, Nat.zero_le, List.map_nil, List.map_cons, List.sum_nil, List.sum_cons, c_I, c_J, c_R, c_T, va_rf, hI_wI, hJ_wJ, hR_wR, hI_J, hI_R, hJ_I, hJ_R, hR_I, hR_J, hN_I, hN_J, hN_R, wI_I, wJ_J, upd_at, updL_at, kR_s, Option.toList, List.append_nil, List.nil_append, List.cons_append, if_true, if_false, reduceIte, Bool.false_eq_true, not_true_eq_false, not_false_eq_true, true_and, and_true, false_and, and_false, true_or, or_true,  Nat.reduceEqDiff, Nat.reduceAdd, Nat.reduceLeDiff]) m2 (by simp) m3 (wC_sx (wC_sx wc tr_sx (by simp) (by simp)) m2 (by simp) (by simp)) (gC_sx (gC_sx gc tr_sx (by simp) (by simp) (by simp)) m2 (by simp) (by simp) (by simp))
theorem c_noYears {d : Nat} {h : qH} {y z : Int32} : ∀ Q, WM (d + 2) mX7_noYears [.ref (0 : Nat), .int y, .int z] h Q = Q (some (some (.int (bI (decide ((y < 0 ∨ 65536 < y) ∨ (z < 0 ∨ 60 < z))))))) (tr h (if (y < 0 ∨ 65536 < y) ∨ (z < 0 ∨ 60 < z) then 2 else 0)) := by
  intro Q
  have o1 := c_outside (d := d) (h := h) (y := y) (lo := 0) (hi := 65536)
  have o2 := fun v => c_outside (d := d) (h := tr h v) (y := z) (lo := 0) (hi := 60)
  by_cases c1 : y < 0 ∨ 65536 < y
  · simp (implicitDefEqProofs := false) only [eX7_noYears, rX7_noYears_0, rX7_noYears_0b, rX7_noYears_1, rX7_noYears_2, rX7_noYears_3, rX7_noYears_6, rX7_noYears_9, rX7_noYears_12, rX7_noYears_12b, rX7_noYears_13, rX7_noYears_14, rX7_noYears_15, rX7_noYears_17, rX7_noYears_20, rX7_noYears_23, rX7_noYears_24, rX7_noYears_27, rX7_noYears_28, kA_0, kB_0, pCX7_noYears, pSX7_noYears, pOX7_noYears, pLX7_noYears, pCX7_outside, pSX7_outside, pOX7_outside, pLX7_outside, o1, c1, decide_true, bI_t, show ¬ (1 : Int32) = 0 from by decide, kl_I, kl_J, kl_R, kl_T, kl_N, Nat.le_refl, Nat.zero_le, List.map_nil, List.map_cons, List.sum_nil, List.sum_cons, c_I, c_J, c_R, c_T, va_rf, hI_wI, hJ_wJ, hR_wR, hI_J, hI_R, hJ_I, hJ_R, hR_I, hR_J, hN_I, hN_J, hN_R, wI_I, wJ_J, upd_at, updL_at, kR_s, Option.toList, List.append_nil, List.nil_append, List.cons_append, if_true, if_false, reduceIte, Bool.false_eq_true, not_true_eq_false, not_false_eq_true, true_and, and_true, false_and, and_false, true_or, or_true,  Nat.reduceEqDiff, Nat.reduceAdd, Nat.reduceLeDiff]
  · by_cases c2 : z < 0 ∨ 60 < z
    · simp (implicitDefEqProofs := false) only [eX7_noYears, rX7_noYears_0, rX7_noYears_0b, rX7_noYears_1, rX7_noYears_2, rX7_noYears_3, rX7_noYears_6, rX7_noYears_9, rX7_noYears_12, rX7_noYears_12b, rX7_noYears_13, rX7_noYears_14, rX7_noYears_15, rX7_noYears_17, rX7_noYears_20, rX7_noYears_23, rX7_noYears_24, rX7_noYears_27, rX7_noYears_28, kA_0, kB_0, pCX7_noYears, pSX7_noYears, pOX7_noYears, pLX7_noYears, pCX7_outside, pSX7_outside, pOX7_outside, pLX7_outside, o1, c1, o2, c2, tr_tr, decide_true, decide_false, bI_t, bI_f, show ¬ (1 : Int32) = 0 from by decide, kl_I, kl_J, kl_R, kl_T, kl_N, Nat.le_refl, Nat.zero_le, List.map_nil, List.map_cons, List.sum_nil, List.sum_cons, c_I, c_J, c_R, c_T, va_rf, hI_wI, hJ_wJ, hR_wR, hI_J, hI_R, hJ_I, hJ_R, hR_I, hR_J, hN_I, hN_J, hN_R, wI_I, wJ_J, upd_at, updL_at, kR_s, Option.toList, List.append_nil, List.nil_append, List.cons_append, if_true, if_false, reduceIte, Bool.false_eq_true, not_true_eq_false, not_false_eq_true, true_and, and_true, false_and, and_false, true_or, or_true,  Nat.reduceEqDiff, Nat.reduceAdd, Nat.reduceLeDiff]
    · simp (implicitDefEqProofs := false) only [eX7_noYears, rX7_noYears_0, rX7_noYears_0b, rX7_noYears_1, rX7_noYears_2, rX7_noYears_3, rX7_noYears_6, rX7_noYears_9, rX7_noYears_12, rX7_noYears_12b, rX7_noYears_13, rX7_noYears_14, rX7_noYears_15, rX7_noYears_17, rX7_noYears_20, rX7_noYears_23, rX7_noYears_24, rX7_noYears_27, rX7_noYears_28, kA_0, kB_0, pCX7_noYears, pSX7_noYears, pOX7_noYears, pLX7_noYears, pCX7_outside, pSX7_outside, pOX7_outside, pLX7_outside, o1, c1, o2, c2, tr_tr, decide_true, decide_false, or_self, bI_t, bI_f, show ¬ (1 : Int32) = 0 from by decide, kl_I, kl_J, kl_R, kl_T, kl_N, Nat.le_refl, Nat.zero_le, List.map_nil, List.map_cons, List.sum_nil, List.sum_cons, c_I, c_J, c_R, c_T, va_rf, hI_wI, hJ_wJ, hR_wR, hI_J, hI_R, hJ_I, hJ_R, hR_I, hR_J, hN_I, hN_J, hN_R, wI_I, wJ_J, upd_at, updL_at, kR_s, Option.toList, List.append_nil, List.nil_append, List.cons_append, if_true, if_false, reduceIte, Bool.false_eq_true, not_true_eq_false, not_false_eq_true, true_and, and_true, false_and, and_false, true_or, or_true,  Nat.reduceEqDiff, Nat.reduceAdd, Nat.reduceLeDiff]
theorem yrs {y z : Int32} (h : ¬ ((y < 0 ∨ 65536 < y) ∨ (z < 0 ∨ 60 < z))) : ∃ i j, i ≤ 65536 ∧ j ≤ 60 ∧ y = nI i ∧ z = nI j := by
  obtain ⟨i, hi, ri⟩ := nI_of2 (x := y) (M := 65536) (n := 65536) rfl (fun q => h (.inl (.inl q))) (Int32.not_lt.mp (fun q => h (.inl (.inr q))))
  obtain ⟨j, hj, rj⟩ := nI_of2 (x := z) (M := 60) (n := 60) rfl (fun q => h (.inr (.inl q))) (Int32.not_lt.mp (fun q => h (.inr (.inr q))))
  exact ⟨i, j, hi, hj, ri, rj⟩
theorem drL_lt {a : aS} {t : Nat} : ∀ (k i c sd : Nat), i + k ≤ aN a → c < 2 ^ aN a → sd < 65537 → (drL a t k i c sd).1 < 2 ^ aN a ∧ (drL a t k i c sd).2 < 65537
  | 0, _, _, _, _, h1, h2 => ⟨h1, h2⟩
  | k + 1, i, c, sd, h, h1, h2 => by
    rw [drL]
    split
    · exact drL_lt k (i + 1) c sd (by omega) h1 h2
    · split
      · exact drL_lt k (i + 1) _ _ (by omega) (or_lt h1 (by omega)) (sdN_lt sd)
      · exact drL_lt k (i + 1) _ _ (by omega) h1 (sdN_lt sd)
theorem drN_lt {a : aS} {t sd : Nat} (h : sd < 65537) : (drN a t sd).1 < 2 ^ aN a ∧ (drN a t sd).2 < 65537 := drL_lt (aN a) 0 0 sd (by omega) (Nat.pow_pos (by omega)) h
/-- years by draws -/
noncomputable def yrS (a : aS) (t : Nat) (f : Nat → Nat → Nat) : Nat → Nat → Nat → Nat
  | 0, _, acc => acc
  | k + 1, sd, acc => yrS a t f k (drN a t sd).2 (f acc (biN a t (drN a t sd).1 90))
def yfA (x : Nat) : Nat → Nat → Nat := fun acc v => acc + (if v.testBit x = true then 1 else 0)
def yfM : Nat → Nat → Nat := fun acc v => max acc (popc 6 v)
theorem l_years {d : Nat} {s t x n : Nat} {a : aS} {y0 : Int32} (ht : t < 2 ^ aN a) (hn : n ≤ 60) (hx : x < 6) : ∀ (k i : Nat), i + k = n → ∀ (h : qH) (o6 : Option Value) (acc sd : Nat) (F : Fin0 (hR h)) (hf : hR h 32 0 = some s) (w : cS h s a) (c0 : cC h a) (e0 : hI h 29 0 = nI t) (e6 : hI h 32 6 = nI sd) (_ : sd < 65537) (_ : acc ≤ 100 + i), ∃ h', (∀ Q, WP (d + 4) mX7_years (0, 0) 33 [some (.ref (0 : Nat)), some (.int (nI x)), some (.int y0), some (.int (nI n)), some (.int (nI acc)), some (.int (nI i)), o6] [] h Q = Q (some (some (.int (nI (yrS a t (yfA x) k sd acc))))) h') ∧ sx [32, 33, 34, 36] h h' ∧ cC h' a := by
  intro k
  induction k with
  | zero =>
    intro i hi h o6 acc sd F hf w c0 e0 e6 hs ha
    obtain rfl : i = n := by omega
    refine ⟨h, fun Q => ?_, sx_refl, c0⟩
    simp (implicitDefEqProofs := false) only [rX7_years_33, rX7_years_35, rX7_years_36, rX7_years_39, rX7_years_39b, rX7_years_40, rX7_years_43, rX7_years_43b, rX7_years_44, rX7_years_47, rX7_years_50, rX7_years_53, rX7_years_55, rX7_years_57, rX7_years_57b, rX7_years_58, rX7_years_61, rX7_years_63, rX7_years_63b, rX7_years_64, rX7_years_67, rX7_years_70, rX7_years_72, rX7_years_75, rX7_years_76, rX7_years_77, rX7_years_78, rX7_years_79, rX7_years_80, rX7_years_82, rX7_years_88, rX7_years_90, pCX7_years, pSX7_years, pOX7_years, pLX7_years, Int32.le_refl, yrS, kl_I, kl_J, kl_R, kl_T, kl_N, Nat.le_refl, Nat.zero_le, List.map_nil, List.map_cons, List.sum_nil, List.sum_cons, c_I, c_J, c_R, c_T, va_rf, hI_wI, hJ_wJ, hR_wR, hI_J, hI_R, hJ_I, hJ_R, hR_I, hR_J, hN_I, hN_J, hN_R, wI_I, wJ_J, upd_at, updL_at, kR_s, Option.toList, List.append_nil, List.nil_append, List.cons_append, if_true, if_false, reduceIte, Bool.false_eq_true, not_true_eq_false, not_false_eq_true, true_and, and_true, false_and, and_false, true_or, or_true,  Nat.reduceEqDiff, Nat.reduceAdd, Nat.reduceLeDiff]
  | succ k ih =>
    intro i hi h o6 acc sd F hf w c0 e0 e6 hsd ha
    have hs := w.1
    have ww := w.2.1
    have t6 := tIx ww ht
    have g1 : ¬ nI n ≤ nI i := nI_ge (by omega) (by omega)
    have dr := c_draw (d := d + 2) F hf w t6.2 e6 hsd
    have dl := drN_lt (a := a) (t := t) hsd
    let h1 : qH := wI h 32 (upd (hI h 32) 6 (nI (drN a t sd).2))
    have x1 : sx [32] h h1 := sx_w sx_refl (by simp)
    have F1 : Fin0 (hR h1) := F
    have c1 : cC h1 a := by
      unfold cC bC at *
      have e5 : hI h1 32 5 = hI h 32 5 := by simp only [h1]; rw [hI_wI, if_pos rfl, upd_at, if_neg (by decide)]
      rw [e5, x1.2.2.2 36 (by simp)]
      exact c0
    have e0' : hI h1 29 0 = nI t := by rw [x1.2.2.2 29 (by simp)]; exact e0
    obtain ⟨h2, b1, b2, b3, b4, b5⟩ := c_burntIf (d := d) (y := 90) F1 (show hR h1 32 0 = some s from hf) (cS_sx w x1 (by simp)) c1 ht dl.1 (by omega)
    have c2 : cC h2 a := .inr ⟨t, ht, b4, b5⟩
    have bl := biN_lt ww (t := t) (c := (drN a t sd).1) (y := 90)
    rw [show nI 90 = 90 from rfl] at b1
    have x2 : sx [32, 33, 34, 36] h h2 := sx_trans (sx_mono x1 (by simp)) b2
    have pl := popc_le 6 (biN a t (drN a t sd).1 90)
    obtain ⟨h', k1, k2, k3⟩ := ih (i + 1) (by omega) h2 (some (.int (nI (drN a t sd).1))) ((yfA x) acc (biN a t (drN a t sd).1 90)) (drN a t sd).2 (Fin_sx F x2) (by rw [x2.1]; exact hf) (cS_sx w x2 (by simp)) c2 (by rw [x2.2.2.2 29 (by simp)]; exact e0) (by rw [b3 6 (by decide)]; simp only [h1]; rw [hI_wI, if_pos rfl, upd_at, if_pos rfl]) dl.2 (by unfold yfA; split <;> omega)
    refine ⟨h', fun Q => ?_, sx_trans x2 k2, k3⟩
    have k4 := k1 Q
    rw [yrS]
    simp (implicitDefEqProofs := false) only [rX7_years_33, rX7_years_35, rX7_years_36, rX7_years_39, rX7_years_39b, rX7_years_40, rX7_years_43, rX7_years_43b, rX7_years_44, rX7_years_47, rX7_years_50, rX7_years_53, rX7_years_55, rX7_years_57, rX7_years_57b, rX7_years_58, rX7_years_61, rX7_years_63, rX7_years_63b, rX7_years_64, rX7_years_67, rX7_years_70, rX7_years_72, rX7_years_75, rX7_years_76, rX7_years_77, rX7_years_78, rX7_years_79, rX7_years_80, rX7_years_82, fin_0_2 F, fin_0_3 F, fin_0_4 F, fin_0_5 F, fin_0_6 F, fin_0_7 F, kA_0, kB_0, kA_29, kB_29, kA_32, kB_32, pCX7_years, pSX7_years, pOX7_years, pLX7_years, pCX0_draw, pSX0_draw, pOX0_draw, pLX0_draw, pCX0_burntIf, pSX0_burntIf, pOX0_burntIf, pLX0_burntIf, g1, e0, dr, kl_I, kl_J, kl_R, kl_T, kl_N, Nat.le_refl, Nat.zero_le, List.map_nil, List.map_cons, List.sum_nil, List.sum_cons, c_I, c_J, c_R, c_T, va_rf, hI_wI, hJ_wJ, hR_wR, hI_J, hI_R, hJ_I, hJ_R, hR_I, hR_J, hN_I, hN_J, hN_R, wI_I, wJ_J, upd_at, updL_at, kR_s, Option.toList, List.append_nil, List.nil_append, List.cons_append, if_true, if_false, reduceIte, Bool.false_eq_true, not_true_eq_false, not_false_eq_true, true_and, and_true, false_and, and_false, true_or, or_true,  Nat.reduceEqDiff, Nat.reduceAdd, Nat.reduceLeDiff]
    change WM (d + 3) mX0_burntIf _ h1 _ = _
    rw [b1]
    have bt := bt_t (t := biN a t (drN a t sd).1 90) (j := x) (by omega) (by omega)
    have bn : (if (biN a t (drN a t sd).1 90).testBit x = true then (1 : Int32) else 0) = nI (if (biN a t (drN a t sd).1 90).testBit x = true then 1 else 0) := by split <;> rfl
    simp (implicitDefEqProofs := false) only [rX7_years_75, rX7_years_76, rX7_years_77, rX7_years_78, rX7_years_79, rX7_years_80, rX7_years_82, pCX7_years, pSX7_years, pOX7_years, pLX7_years, bt, bn, nI_add, kl_I, kl_J, kl_R, kl_T, kl_N, Nat.le_refl, Nat.zero_le, List.map_nil, List.map_cons, List.sum_nil, List.sum_cons, c_I, c_J, c_R, c_T, va_rf, hI_wI, hJ_wJ, hR_wR, hI_J, hI_R, hJ_I, hJ_R, hR_I, hR_J, hN_I, hN_J, hN_R, wI_I, wJ_J, upd_at, updL_at, kR_s, Option.toList, List.append_nil, List.nil_append, List.cons_append, if_true, if_false, reduceIte, Bool.false_eq_true, not_true_eq_false, not_false_eq_true, true_and, and_true, false_and, and_false, true_or, or_true,  Nat.reduceEqDiff, Nat.reduceAdd, Nat.reduceLeDiff]
    rw [rX7_years_85, nI_1]
    exact k4
theorem l_worstYear {d : Nat} {s t x n : Nat} {a : aS} {y0 : Int32} (ht : t < 2 ^ aN a) (hn : n ≤ 60) (hx : x < 6) : ∀ (k i : Nat), i + k = n → ∀ (h : qH) (o6 : Option Value) (acc sd : Nat) (F : Fin0 (hR h)) (hf : hR h 32 0 = some s) (w : cS h s a) (c0 : cC h a) (e0 : hI h 29 0 = nI t) (e6 : hI h 32 6 = nI sd) (_ : sd < 65537) (_ : acc ≤ 100 + i), ∃ h', (∀ Q, WP (d + 4) mX7_worstYear (0, 0) 31 [some (.ref (0 : Nat)), some (.int y0), some (.int (nI n)), some (.int (nI acc)), some (.int (nI i)), o6] [] h Q = Q (some (some (.int (nI (yrS a t (yfM) k sd acc))))) h') ∧ sx [32, 33, 34, 36] h h' ∧ cC h' a := by
  intro k
  induction k with
  | zero =>
    intro i hi h o6 acc sd F hf w c0 e0 e6 hs ha
    obtain rfl : i = n := by omega
    refine ⟨h, fun Q => ?_, sx_refl, c0⟩
    simp (implicitDefEqProofs := false) only [rX7_worstYear_31, rX7_worstYear_33, rX7_worstYear_34, rX7_worstYear_37, rX7_worstYear_37b, rX7_worstYear_38, rX7_worstYear_41, rX7_worstYear_41b, rX7_worstYear_42, rX7_worstYear_45, rX7_worstYear_48, rX7_worstYear_51, rX7_worstYear_53, rX7_worstYear_54, rX7_worstYear_54b, rX7_worstYear_55, rX7_worstYear_58, rX7_worstYear_60, rX7_worstYear_60b, rX7_worstYear_61, rX7_worstYear_64, rX7_worstYear_67, rX7_worstYear_69, rX7_worstYear_72, rX7_worstYear_75, rX7_worstYear_78, rX7_worstYear_79, rX7_worstYear_85, rX7_worstYear_86, pCX7_worstYear, pSX7_worstYear, pOX7_worstYear, pLX7_worstYear, Int32.le_refl, yrS, kl_I, kl_J, kl_R, kl_T, kl_N, Nat.le_refl, Nat.zero_le, List.map_nil, List.map_cons, List.sum_nil, List.sum_cons, c_I, c_J, c_R, c_T, va_rf, hI_wI, hJ_wJ, hR_wR, hI_J, hI_R, hJ_I, hJ_R, hR_I, hR_J, hN_I, hN_J, hN_R, wI_I, wJ_J, upd_at, updL_at, kR_s, Option.toList, List.append_nil, List.nil_append, List.cons_append, if_true, if_false, reduceIte, Bool.false_eq_true, not_true_eq_false, not_false_eq_true, true_and, and_true, false_and, and_false, true_or, or_true,  Nat.reduceEqDiff, Nat.reduceAdd, Nat.reduceLeDiff]
  | succ k ih =>
    intro i hi h o6 acc sd F hf w c0 e0 e6 hsd ha
    have hs := w.1
    have ww := w.2.1
    have t6 := tIx ww ht
    have g1 : ¬ nI n ≤ nI i := nI_ge (by omega) (by omega)
    have dr := c_draw (d := d + 2) F hf w t6.2 e6 hsd
    have dl := drN_lt (a := a) (t := t) hsd
    let h1 : qH := wI h 32 (upd (hI h 32) 6 (nI (drN a t sd).2))
    have x1 : sx [32] h h1 := sx_w sx_refl (by simp)
    have F1 : Fin0 (hR h1) := F
    have c1 : cC h1 a := by
      unfold cC bC at *
      have e5 : hI h1 32 5 = hI h 32 5 := by simp only [h1]; rw [hI_wI, if_pos rfl, upd_at, if_neg (by decide)]
      rw [e5, x1.2.2.2 36 (by simp)]
      exact c0
    have e0' : hI h1 29 0 = nI t := by rw [x1.2.2.2 29 (by simp)]; exact e0
    obtain ⟨h2, b1, b2, b3, b4, b5⟩ := c_burntIf (d := d) (y := 90) F1 (show hR h1 32 0 = some s from hf) (cS_sx w x1 (by simp)) c1 ht dl.1 (by omega)
    have c2 : cC h2 a := .inr ⟨t, ht, b4, b5⟩
    have bl := biN_lt ww (t := t) (c := (drN a t sd).1) (y := 90)
    rw [show nI 90 = 90 from rfl] at b1
    have x2 : sx [32, 33, 34, 36] h h2 := sx_trans (sx_mono x1 (by simp)) b2
    have pl := popc_le 6 (biN a t (drN a t sd).1 90)
    obtain ⟨h', k1, k2, k3⟩ := ih (i + 1) (by omega) h2 (some (.int (nI (drN a t sd).1))) ((yfM) acc (biN a t (drN a t sd).1 90)) (drN a t sd).2 (Fin_sx F x2) (by rw [x2.1]; exact hf) (cS_sx w x2 (by simp)) c2 (by rw [x2.2.2.2 29 (by simp)]; exact e0) (by rw [b3 6 (by decide)]; simp only [h1]; rw [hI_wI, if_pos rfl, upd_at, if_pos rfl]) dl.2 (by unfold yfM; omega)
    refine ⟨h', fun Q => ?_, sx_trans x2 k2, k3⟩
    have k4 := k1 Q
    rw [yrS]
    simp (implicitDefEqProofs := false) only [rX7_worstYear_31, rX7_worstYear_33, rX7_worstYear_34, rX7_worstYear_37, rX7_worstYear_37b, rX7_worstYear_38, rX7_worstYear_41, rX7_worstYear_41b, rX7_worstYear_42, rX7_worstYear_45, rX7_worstYear_48, rX7_worstYear_51, rX7_worstYear_53, rX7_worstYear_54, rX7_worstYear_54b, rX7_worstYear_55, rX7_worstYear_58, rX7_worstYear_60, rX7_worstYear_60b, rX7_worstYear_61, rX7_worstYear_64, rX7_worstYear_67, rX7_worstYear_69, rX7_worstYear_72, rX7_worstYear_75, rX7_worstYear_78, rX7_worstYear_79, fin_0_2 F, fin_0_3 F, fin_0_4 F, fin_0_5 F, fin_0_6 F, fin_0_7 F, kA_0, kB_0, kA_29, kB_29, kA_32, kB_32, pCX7_worstYear, pSX7_worstYear, pOX7_worstYear, pLX7_worstYear, pCX0_draw, pSX0_draw, pOX0_draw, pLX0_draw, pCX0_burntIf, pSX0_burntIf, pOX0_burntIf, pLX0_burntIf, g1, e0, dr, kl_I, kl_J, kl_R, kl_T, kl_N, Nat.le_refl, Nat.zero_le, List.map_nil, List.map_cons, List.sum_nil, List.sum_cons, c_I, c_J, c_R, c_T, va_rf, hI_wI, hJ_wJ, hR_wR, hI_J, hI_R, hJ_I, hJ_R, hR_I, hR_J, hN_I, hN_J, hN_R, wI_I, wJ_J, upd_at, updL_at, kR_s, Option.toList, List.append_nil, List.nil_append, List.cons_append, if_true, if_false, reduceIte, Bool.false_eq_true, not_true_eq_false, not_false_eq_true, true_and, and_true, false_and, and_false, true_or, or_true,  Nat.reduceEqDiff, Nat.reduceAdd, Nat.reduceLeDiff]
    change WM (d + 3) mX0_burntIf _ h1 _ = _
    rw [b1]
    have bc := c_bitCount (d := d + 3) (h := h2) bl
    have mx := mxN (x := acc) (y := popc 6 (biN a t (drN a t sd).1 90)) (by omega) (by omega)
    simp (implicitDefEqProofs := false) only [rX7_worstYear_72, rX7_worstYear_75, rX7_worstYear_78, rX7_worstYear_79, pCX7_worstYear, pSX7_worstYear, pOX7_worstYear, pLX7_worstYear, pCJ6_bitCount_0f7a4, pSJ6_bitCount_0f7a4, pOJ6_bitCount_0f7a4, pLJ6_bitCount_0f7a4, bc, mx, kl_I, kl_J, kl_R, kl_T, kl_N, Nat.le_refl, Nat.zero_le, List.map_nil, List.map_cons, List.sum_nil, List.sum_cons, c_I, c_J, c_R, c_T, va_rf, hI_wI, hJ_wJ, hR_wR, hI_J, hI_R, hJ_I, hJ_R, hR_I, hR_J, hN_I, hN_J, hN_R, wI_I, wJ_J, upd_at, updL_at, kR_s, Option.toList, List.append_nil, List.nil_append, List.cons_append, if_true, if_false, reduceIte, Bool.false_eq_true, not_true_eq_false, not_false_eq_true, true_and, and_true, false_and, and_false, true_or, or_true,  Nat.reduceEqDiff, Nat.reduceAdd, Nat.reduceLeDiff]
    rw [rX7_worstYear_82, nI_1]
    exact k4
noncomputable def sYears (S : AS) (u y z : Int32) : Nat × Int32 := match ix u (aN (sA S)) with
  | none => (1, -1)
  | some i => if (y < 0 ∨ 65536 < y) ∨ (z < 0 ∨ 60 < z) then (2, -1) else (0, nI (yrS (sA S) (sX S).1 (yfA i) z.toNatClampNeg y.toNatClampNeg 0))
noncomputable def sWorst (S : AS) (y z : Int32) : Nat × Int32 := if aN (sA S) = 0 then (1, -1) else if (y < 0 ∨ 65536 < y) ∨ (z < 0 ∨ 60 < z) then (2, -1) else (0, nI (yrS (sA S) (sX S).1 yfM z.toNatClampNeg y.toNatClampNeg 0))
theorem q_years {d : Nat} {h : qH} {S : AS} {u y z : Int32} (I : CI h S) : qy (d + 10) mX7_years [.ref (0 : Nat), .int u, .int y, .int z] h S (sYears S u y z).1 (some (.int (sYears S u y z).2)) := by
  obtain ⟨s, tu, F, ⟨r0, r1, r2⟩, w, b, k, st, wc, gc, ⟨tbx, tbp, tbm⟩, tp, e8, e9, ep⟩ := id I
  obtain ⟨e0, e1, e2, e4, e5, e7⟩ := st.2.1
  have hs := w.1
  have ww := w.2.1
  have w3 := w.2.2.1
  have n6 := ww.1
  have p64 := p6 n6
  have bx := st.1
  have F1 : Fin0 (hR (tr h 0)) := F
  have w1 : cS (tr h 0) s (sA S) := cS_tr w
  have b1 : bT (tr h 0) (sA S) := bT_sx b tr_sx (by simp)
  have hf1 : hR (tr h 0) 32 0 = some s := r2
  have ns := c_noStreet (d := d + 8) r0 w
  have nh := c_noHouse (d := d + 8) (y := u) r0 w
  have ny := fun v => c_noYears (d := d + 7) (h := tr h v) (y := y) (z := z)
  rw [sYears]
  cases c1 : ix u (aN (sA S)) with
  | none => exact qy_tr (v := 1) I (by decide) (fun Q => by
      simp (implicitDefEqProofs := false) only [eX7_years, rX7_years_0, rX7_years_0b, rX7_years_1, rX7_years_2, rX7_years_5, rX7_years_8, rX7_years_8b, rX7_years_9, rX7_years_10, rX7_years_11, rX7_years_14, rX7_years_17, rX7_years_18, kS0 hs, kS1 hs, kT1 hs, fS1 hs F, kS2 hs, kT2 hs, fS2 hs F, kS3 hs, kT3 hs, fS3 hs F, kS4 hs, kT4 hs, fS4 hs F, kS5 hs, kT5 hs, fS5 hs F, kS6 hs, kT6 hs, fS6 hs F, kS7 hs, kT7 hs, fS7 hs F, kS8 hs, kT8 hs, fS8 hs F, kS9 hs, kT9 hs, fS9 hs F, kS10 hs, kT10 hs, fS10 hs F, kS11 hs, kT11 hs, fS11 hs F, nS hs, nSs hs, fin_0_2 F, fin_0_3 F, fin_0_4 F, fin_0_5 F, fin_0_6 F, fin_0_7 F, kA_0, kB_0, r0, r2, e0, e1, e2, pCX7_years, pSX7_years, pOX7_years, pLX7_years, pCX7_noStreet, pSX7_noStreet, pOX7_noStreet, pLX7_noStreet, pCX7_noHouse, pSX7_noHouse, pOX7_noHouse, pLX7_noHouse, pCX7_outside, pSX7_outside, pOX7_outside, pLX7_outside, pCX7_refuse, pSX7_refuse, pOX7_refuse, pLX7_refuse, nh, c1, show nI 1 = 1 from rfl, nI_0, decide_true, decide_false, bI_t, bI_f, reduceCtorEq, or_self, show ¬ (1 : Int32) = 0 from by decide, tr_R, tr_tr, tr_25, tr_26, tr_27, tr_28, tr_29, tr_30, tr_31, tr_32, tr_33, tr_34, tr_35, tr_36, tr_37, tr_38, tr_39, tr_40, tr_41, tr_42, tr_43, tr_s hs, tr_s1 hs, tr_s2 hs, tr_s3 hs, tr_s4 hs, tr_s5 hs, tr_s6 hs, tr_s7 hs, tr_s8 hs, tr_s9 hs, tr_s10 hs, tr_s11 hs, kl_I, kl_J, kl_R, kl_T, kl_N, Nat.le_refl, Nat.zero_le, List.map_nil, List.map_cons, List.sum_nil, List.sum_cons, c_I, c_J, c_R, c_T, va_rf, hI_wI, hJ_wJ, hR_wR, hI_J, hI_R, hJ_I, hJ_R, hR_I, hR_J, hN_I, hN_J, hN_R, wI_I, wJ_J, upd_at, updL_at, kR_s, Option.toList, List.append_nil, List.nil_append, List.cons_append, if_true, if_false, reduceIte, Bool.false_eq_true, not_true_eq_false, not_false_eq_true, true_and, and_true, false_and, and_false, true_or, or_true,  Nat.reduceEqDiff, Nat.reduceAdd, Nat.reduceLeDiff])
  | some x =>
    simp only
    by_cases c2 : (y < 0 ∨ 65536 < y) ∨ (z < 0 ∨ 60 < z)
    · rw [if_pos c2]
      exact qy_tr (v := 2) I (by decide) (fun Q => by
        simp (implicitDefEqProofs := false) only [eX7_years, rX7_years_0, rX7_years_0b, rX7_years_1, rX7_years_2, rX7_years_5, rX7_years_8, rX7_years_8b, rX7_years_9, rX7_years_10, rX7_years_11, rX7_years_14, rX7_years_17, rX7_years_18, kS0 hs, kS1 hs, kT1 hs, fS1 hs F, kS2 hs, kT2 hs, fS2 hs F, kS3 hs, kT3 hs, fS3 hs F, kS4 hs, kT4 hs, fS4 hs F, kS5 hs, kT5 hs, fS5 hs F, kS6 hs, kT6 hs, fS6 hs F, kS7 hs, kT7 hs, fS7 hs F, kS8 hs, kT8 hs, fS8 hs F, kS9 hs, kT9 hs, fS9 hs F, kS10 hs, kT10 hs, fS10 hs F, kS11 hs, kT11 hs, fS11 hs F, nS hs, nSs hs, fin_0_2 F, fin_0_3 F, fin_0_4 F, fin_0_5 F, fin_0_6 F, fin_0_7 F, kA_0, kB_0, r0, r2, e0, e1, e2, pCX7_years, pSX7_years, pOX7_years, pLX7_years, pCX7_noStreet, pSX7_noStreet, pOX7_noStreet, pLX7_noStreet, pCX7_noHouse, pSX7_noHouse, pOX7_noHouse, pLX7_noHouse, pCX7_outside, pSX7_outside, pOX7_outside, pLX7_outside, pCX7_refuse, pSX7_refuse, pOX7_refuse, pLX7_refuse, pCX7_noYears, pSX7_noYears, pOX7_noYears, pLX7_noYears, nh, c1, ny, c2, show nI 2 = 2 from rfl, nI_0, decide_true, decide_false, bI_t, bI_f, reduceCtorEq, or_self, show ¬ (1 : Int32) = 0 from by decide, tr_R, tr_tr, tr_25, tr_26, tr_27, tr_28, tr_29, tr_30, tr_31, tr_32, tr_33, tr_34, tr_35, tr_36, tr_37, tr_38, tr_39, tr_40, tr_41, tr_42, tr_43, tr_s hs, tr_s1 hs, tr_s2 hs, tr_s3 hs, tr_s4 hs, tr_s5 hs, tr_s6 hs, tr_s7 hs, tr_s8 hs, tr_s9 hs, tr_s10 hs, tr_s11 hs, kl_I, kl_J, kl_R, kl_T, kl_N, Nat.le_refl, Nat.zero_le, List.map_nil, List.map_cons, List.sum_nil, List.sum_cons, c_I, c_J, c_R, c_T, va_rf, hI_wI, hJ_wJ, hR_wR, hI_J, hI_R, hJ_I, hJ_R, hR_I, hR_J, hN_I, hN_J, hN_R, wI_I, wJ_J, upd_at, updL_at, kR_s, Option.toList, List.append_nil, List.nil_append, List.cons_append, if_true, if_false, reduceIte, Bool.false_eq_true, not_true_eq_false, not_false_eq_true, true_and, and_true, false_and, and_false, true_or, or_true,  Nat.reduceEqDiff, Nat.reduceAdd, Nat.reduceLeDiff])
    · rw [if_neg c2]
      obtain ⟨rfl, hx⟩ := ix_s (by omega) c1
      obtain ⟨i, j, hi, hj, rfl, rfl⟩ := yrs c2
      let h1 : qH := wI (tr h 0) 32 (upd (hI (tr h 0) 32) 6 (nI i))
      have x1 : sx [32] (tr h 0) h1 := sx_w sx_refl (by simp)
      have c3 : cC h1 (sA S) := by
        have := cC_sx k (tr_sx (h := h) (v := 0)) (by simp) (by simp)
        unfold cC bC at *
        have e5 : hI h1 32 5 = hI (tr h 0) 32 5 := by simp only [h1]; rw [hI_wI, if_pos rfl, upd_at, if_neg (by decide)]
        rw [e5, x1.2.2.2 36 (by simp)]
        exact this
      have e0' : hI h1 29 0 = nI (sX S).1 := by rw [x1.2.2.2 29 (by simp), tr_29]; exact e0
      have cl1 : (nI i).toNatClampNeg = i := nI_cl (by omega)
      have cl2 : (nI j).toNatClampNeg = j := nI_cl (by omega)
      obtain ⟨h2, m1, m2, m3⟩ := l_years (d := d + 6) (s := s) (a := sA S) (y0 := nI i) (x := x) tbx.1 hj (by omega) j 0 (by omega) h1 none 0 i F1 hf1 (cS_sx w1 x1 (by simp)) c3 e0' (by simp only [h1]; rw [hI_wI, if_pos rfl, upd_at, if_pos rfl]) (by omega) (by omega)
      exact qy_m0 I (fun Q => by
        have m4 := m1 Q
        simp only [h1, nI_0, tr_32] at m4
        simp (implicitDefEqProofs := false) only [eX7_years, rX7_years_0, rX7_years_0b, rX7_years_1, rX7_years_2, rX7_years_5, rX7_years_8, rX7_years_8b, rX7_years_9, rX7_years_10, rX7_years_11, rX7_years_14, rX7_years_17, rX7_years_18, rX7_years_19, rX7_years_20, rX7_years_22, rX7_years_22b, rX7_years_23, rX7_years_26, rX7_years_27, rX7_years_30, rX7_years_31, kS0 hs, kS1 hs, kT1 hs, fS1 hs F, kS2 hs, kT2 hs, fS2 hs F, kS3 hs, kT3 hs, fS3 hs F, kS4 hs, kT4 hs, fS4 hs F, kS5 hs, kT5 hs, fS5 hs F, kS6 hs, kT6 hs, fS6 hs F, kS7 hs, kT7 hs, fS7 hs F, kS8 hs, kT8 hs, fS8 hs F, kS9 hs, kT9 hs, fS9 hs F, kS10 hs, kT10 hs, fS10 hs F, kS11 hs, kT11 hs, fS11 hs F, nS hs, nSs hs, fin_0_2 F, fin_0_3 F, fin_0_4 F, fin_0_5 F, fin_0_6 F, fin_0_7 F, kA_0, kB_0, kA_32, kB_32, r0, r2, e0, e1, e2, pCX7_years, pSX7_years, pOX7_years, pLX7_years, pCX7_noStreet, pSX7_noStreet, pOX7_noStreet, pLX7_noStreet, pCX7_noHouse, pSX7_noHouse, pOX7_noHouse, pLX7_noHouse, pCX7_outside, pSX7_outside, pOX7_outside, pLX7_outside, pCX7_refuse, pSX7_refuse, pOX7_refuse, pLX7_refuse, pCX7_noYears, pSX7_noYears, pOX7_noYears, pLX7_noYears, nh, c1, ny, c2, cl1, cl2, nI_0, decide_true, decide_false, bI_t, bI_f, reduceCtorEq, or_self, show ¬ (1 : Int32) = 0 from by decide, tr_R, tr_tr, tr_25, tr_26, tr_27, tr_28, tr_29, tr_30, tr_31, tr_32, tr_33, tr_34, tr_35, tr_36, tr_37, tr_38, tr_39, tr_40, tr_41, tr_42, tr_43, tr_s hs, tr_s1 hs, tr_s2 hs, tr_s3 hs, tr_s4 hs, tr_s5 hs, tr_s6 hs, tr_s7 hs, tr_s8 hs, tr_s9 hs, tr_s10 hs, tr_s11 hs, kl_I, kl_J, kl_R, kl_T, kl_N, Nat.le_refl, Nat.zero_le, List.map_nil, List.map_cons, List.sum_nil, List.sum_cons, c_I, c_J, c_R, c_T, va_rf, hI_wI, hJ_wJ, hR_wR, hI_J, hI_R, hJ_I, hJ_R, hR_I, hR_J, hN_I, hN_J, hN_R, wI_I, wJ_J, upd_at, updL_at, kR_s, Option.toList, List.append_nil, List.nil_append, List.cons_append, if_true, if_false, reduceIte, Bool.false_eq_true, not_true_eq_false, not_false_eq_true, true_and, and_true, false_and, and_false, true_or, or_true,  Nat.reduceEqDiff, Nat.reduceAdd, Nat.reduceLeDiff]
        exact m4) (sx_trans (sx_mono x1 (by simp)) m2) (by simp) m3 (wC_sx (wC_sx (wC_sx wc tr_sx (by simp) (by simp)) x1 (by simp) (by simp)) m2 (by simp) (by simp)) (gC_sx (gC_sx (gC_sx gc tr_sx (by simp) (by simp) (by simp)) x1 (by simp) (by simp) (by simp)) m2 (by simp) (by simp) (by simp))
theorem q_worstYear {d : Nat} {h : qH} {S : AS} {y z : Int32} (I : CI h S) : qy (d + 10) mX7_worstYear [.ref (0 : Nat), .int y, .int z] h S (sWorst S y z).1 (some (.int (sWorst S y z).2)) := by
  obtain ⟨s, tu, F, ⟨r0, r1, r2⟩, w, b, k, st, wc, gc, ⟨tbx, tbp, tbm⟩, tp, e8, e9, ep⟩ := id I
  obtain ⟨e0, e1, e2, e4, e5, e7⟩ := st.2.1
  have hs := w.1
  have ww := w.2.1
  have w3 := w.2.2.1
  have n6 := ww.1
  have p64 := p6 n6
  have bx := st.1
  have F1 : Fin0 (hR (tr h 0)) := F
  have w1 : cS (tr h 0) s (sA S) := cS_tr w
  have b1 : bT (tr h 0) (sA S) := bT_sx b tr_sx (by simp)
  have hf1 : hR (tr h 0) 32 0 = some s := r2
  have ns := c_noStreet (d := d + 8) r0 w
  have ny := fun v => c_noYears (d := d + 7) (h := tr h v) (y := y) (z := z)
  rw [sWorst]
  by_cases c1 : aN (sA S) = 0
  · rw [if_pos c1]
    exact qy_tr (v := 1) I (by decide) (fun Q => by
      simp (implicitDefEqProofs := false) only [eX7_worstYear, rX7_worstYear_0, rX7_worstYear_0b, rX7_worstYear_1, rX7_worstYear_4, rX7_worstYear_7, rX7_worstYear_7b, rX7_worstYear_8, rX7_worstYear_9, rX7_worstYear_10, rX7_worstYear_13, rX7_worstYear_16, rX7_worstYear_17, kS0 hs, kS1 hs, kT1 hs, fS1 hs F, kS2 hs, kT2 hs, fS2 hs F, kS3 hs, kT3 hs, fS3 hs F, kS4 hs, kT4 hs, fS4 hs F, kS5 hs, kT5 hs, fS5 hs F, kS6 hs, kT6 hs, fS6 hs F, kS7 hs, kT7 hs, fS7 hs F, kS8 hs, kT8 hs, fS8 hs F, kS9 hs, kT9 hs, fS9 hs F, kS10 hs, kT10 hs, fS10 hs F, kS11 hs, kT11 hs, fS11 hs F, nS hs, nSs hs, fin_0_2 F, fin_0_3 F, fin_0_4 F, fin_0_5 F, fin_0_6 F, fin_0_7 F, kA_0, kB_0, r0, r2, e0, e1, e2, pCX7_worstYear, pSX7_worstYear, pOX7_worstYear, pLX7_worstYear, pCX7_noStreet, pSX7_noStreet, pOX7_noStreet, pLX7_noStreet, pCX7_noHouse, pSX7_noHouse, pOX7_noHouse, pLX7_noHouse, pCX7_outside, pSX7_outside, pOX7_outside, pLX7_outside, pCX7_refuse, pSX7_refuse, pOX7_refuse, pLX7_refuse, ns, c1, show nI 1 = 1 from rfl, nI_0, decide_true, decide_false, bI_t, bI_f, reduceCtorEq, or_self, show ¬ (1 : Int32) = 0 from by decide, tr_R, tr_tr, tr_25, tr_26, tr_27, tr_28, tr_29, tr_30, tr_31, tr_32, tr_33, tr_34, tr_35, tr_36, tr_37, tr_38, tr_39, tr_40, tr_41, tr_42, tr_43, tr_s hs, tr_s1 hs, tr_s2 hs, tr_s3 hs, tr_s4 hs, tr_s5 hs, tr_s6 hs, tr_s7 hs, tr_s8 hs, tr_s9 hs, tr_s10 hs, tr_s11 hs, kl_I, kl_J, kl_R, kl_T, kl_N, Nat.le_refl, Nat.zero_le, List.map_nil, List.map_cons, List.sum_nil, List.sum_cons, c_I, c_J, c_R, c_T, va_rf, hI_wI, hJ_wJ, hR_wR, hI_J, hI_R, hJ_I, hJ_R, hR_I, hR_J, hN_I, hN_J, hN_R, wI_I, wJ_J, upd_at, updL_at, kR_s, Option.toList, List.append_nil, List.nil_append, List.cons_append, if_true, if_false, reduceIte, Bool.false_eq_true, not_true_eq_false, not_false_eq_true, true_and, and_true, false_and, and_false, true_or, or_true,  Nat.reduceEqDiff, Nat.reduceAdd, Nat.reduceLeDiff])
  · rw [if_neg c1]
    by_cases c2 : (y < 0 ∨ 65536 < y) ∨ (z < 0 ∨ 60 < z)
    · rw [if_pos c2]
      exact qy_tr (v := 2) I (by decide) (fun Q => by
        simp (implicitDefEqProofs := false) only [eX7_worstYear, rX7_worstYear_0, rX7_worstYear_0b, rX7_worstYear_1, rX7_worstYear_4, rX7_worstYear_7, rX7_worstYear_7b, rX7_worstYear_8, rX7_worstYear_9, rX7_worstYear_10, rX7_worstYear_13, rX7_worstYear_16, rX7_worstYear_17, kS0 hs, kS1 hs, kT1 hs, fS1 hs F, kS2 hs, kT2 hs, fS2 hs F, kS3 hs, kT3 hs, fS3 hs F, kS4 hs, kT4 hs, fS4 hs F, kS5 hs, kT5 hs, fS5 hs F, kS6 hs, kT6 hs, fS6 hs F, kS7 hs, kT7 hs, fS7 hs F, kS8 hs, kT8 hs, fS8 hs F, kS9 hs, kT9 hs, fS9 hs F, kS10 hs, kT10 hs, fS10 hs F, kS11 hs, kT11 hs, fS11 hs F, nS hs, nSs hs, fin_0_2 F, fin_0_3 F, fin_0_4 F, fin_0_5 F, fin_0_6 F, fin_0_7 F, kA_0, kB_0, r0, r2, e0, e1, e2, pCX7_worstYear, pSX7_worstYear, pOX7_worstYear, pLX7_worstYear, pCX7_noStreet, pSX7_noStreet, pOX7_noStreet, pLX7_noStreet, pCX7_noHouse, pSX7_noHouse, pOX7_noHouse, pLX7_noHouse, pCX7_outside, pSX7_outside, pOX7_outside, pLX7_outside, pCX7_refuse, pSX7_refuse, pOX7_refuse, pLX7_refuse, pCX7_noYears, pSX7_noYears, pOX7_noYears, pLX7_noYears, ns, c1, ny, c2, show nI 2 = 2 from rfl, nI_0, decide_true, decide_false, bI_t, bI_f, reduceCtorEq, or_self, show ¬ (1 : Int32) = 0 from by decide, tr_R, tr_tr, tr_25, tr_26, tr_27, tr_28, tr_29, tr_30, tr_31, tr_32, tr_33, tr_34, tr_35, tr_36, tr_37, tr_38, tr_39, tr_40, tr_41, tr_42, tr_43, tr_s hs, tr_s1 hs, tr_s2 hs, tr_s3 hs, tr_s4 hs, tr_s5 hs, tr_s6 hs, tr_s7 hs, tr_s8 hs, tr_s9 hs, tr_s10 hs, tr_s11 hs, kl_I, kl_J, kl_R, kl_T, kl_N, Nat.le_refl, Nat.zero_le, List.map_nil, List.map_cons, List.sum_nil, List.sum_cons, c_I, c_J, c_R, c_T, va_rf, hI_wI, hJ_wJ, hR_wR, hI_J, hI_R, hJ_I, hJ_R, hR_I, hR_J, hN_I, hN_J, hN_R, wI_I, wJ_J, upd_at, updL_at, kR_s, Option.toList, List.append_nil, List.nil_append, List.cons_append, if_true, if_false, reduceIte, Bool.false_eq_true, not_true_eq_false, not_false_eq_true, true_and, and_true, false_and, and_false, true_or, or_true,  Nat.reduceEqDiff, Nat.reduceAdd, Nat.reduceLeDiff])
    · rw [if_neg c2]
      obtain ⟨i, j, hi, hj, rfl, rfl⟩ := yrs c2
      let h1 : qH := wI (tr h 0) 32 (upd (hI (tr h 0) 32) 6 (nI i))
      have x1 : sx [32] (tr h 0) h1 := sx_w sx_refl (by simp)
      have c3 : cC h1 (sA S) := by
        have := cC_sx k (tr_sx (h := h) (v := 0)) (by simp) (by simp)
        unfold cC bC at *
        have e5 : hI h1 32 5 = hI (tr h 0) 32 5 := by simp only [h1]; rw [hI_wI, if_pos rfl, upd_at, if_neg (by decide)]
        rw [e5, x1.2.2.2 36 (by simp)]
        exact this
      have e0' : hI h1 29 0 = nI (sX S).1 := by rw [x1.2.2.2 29 (by simp), tr_29]; exact e0
      have cl1 : (nI i).toNatClampNeg = i := nI_cl (by omega)
      have cl2 : (nI j).toNatClampNeg = j := nI_cl (by omega)
      obtain ⟨h2, m1, m2, m3⟩ := l_worstYear (d := d + 6) (s := s) (a := sA S) (y0 := nI i) (x := 0) tbx.1 hj (by omega) j 0 (by omega) h1 none 0 i F1 hf1 (cS_sx w1 x1 (by simp)) c3 e0' (by simp only [h1]; rw [hI_wI, if_pos rfl, upd_at, if_pos rfl]) (by omega) (by omega)
      exact qy_m0 I (fun Q => by
        have m4 := m1 Q
        simp only [h1, nI_0, tr_32] at m4
        simp (implicitDefEqProofs := false) only [eX7_worstYear, rX7_worstYear_0, rX7_worstYear_0b, rX7_worstYear_1, rX7_worstYear_4, rX7_worstYear_7, rX7_worstYear_7b, rX7_worstYear_8, rX7_worstYear_9, rX7_worstYear_10, rX7_worstYear_13, rX7_worstYear_16, rX7_worstYear_17, rX7_worstYear_18, rX7_worstYear_19, rX7_worstYear_20, rX7_worstYear_20b, rX7_worstYear_21, rX7_worstYear_24, rX7_worstYear_25, rX7_worstYear_28, rX7_worstYear_29, kS0 hs, kS1 hs, kT1 hs, fS1 hs F, kS2 hs, kT2 hs, fS2 hs F, kS3 hs, kT3 hs, fS3 hs F, kS4 hs, kT4 hs, fS4 hs F, kS5 hs, kT5 hs, fS5 hs F, kS6 hs, kT6 hs, fS6 hs F, kS7 hs, kT7 hs, fS7 hs F, kS8 hs, kT8 hs, fS8 hs F, kS9 hs, kT9 hs, fS9 hs F, kS10 hs, kT10 hs, fS10 hs F, kS11 hs, kT11 hs, fS11 hs F, nS hs, nSs hs, fin_0_2 F, fin_0_3 F, fin_0_4 F, fin_0_5 F, fin_0_6 F, fin_0_7 F, kA_0, kB_0, kA_32, kB_32, r0, r2, e0, e1, e2, pCX7_worstYear, pSX7_worstYear, pOX7_worstYear, pLX7_worstYear, pCX7_noStreet, pSX7_noStreet, pOX7_noStreet, pLX7_noStreet, pCX7_noHouse, pSX7_noHouse, pOX7_noHouse, pLX7_noHouse, pCX7_outside, pSX7_outside, pOX7_outside, pLX7_outside, pCX7_refuse, pSX7_refuse, pOX7_refuse, pLX7_refuse, pCX7_noYears, pSX7_noYears, pOX7_noYears, pLX7_noYears, ns, c1, ny, c2, cl1, cl2, nI_0, decide_true, decide_false, bI_t, bI_f, reduceCtorEq, or_self, show ¬ (1 : Int32) = 0 from by decide, tr_R, tr_tr, tr_25, tr_26, tr_27, tr_28, tr_29, tr_30, tr_31, tr_32, tr_33, tr_34, tr_35, tr_36, tr_37, tr_38, tr_39, tr_40, tr_41, tr_42, tr_43, tr_s hs, tr_s1 hs, tr_s2 hs, tr_s3 hs, tr_s4 hs, tr_s5 hs, tr_s6 hs, tr_s7 hs, tr_s8 hs, tr_s9 hs, tr_s10 hs, tr_s11 hs, kl_I, kl_J, kl_R, kl_T, kl_N, Nat.le_refl, Nat.zero_le, List.map_nil, List.map_cons, List.sum_nil, List.sum_cons, c_I, c_J, c_R, c_T, va_rf, hI_wI, hJ_wJ, hR_wR, hI_J, hI_R, hJ_I, hJ_R, hR_I, hR_J, hN_I, hN_J, hN_R, wI_I, wJ_J, upd_at, updL_at, kR_s, Option.toList, List.append_nil, List.nil_append, List.cons_append, if_true, if_false, reduceIte, Bool.false_eq_true, not_true_eq_false, not_false_eq_true, true_and, and_true, false_and, and_false, true_or, or_true,  Nat.reduceEqDiff, Nat.reduceAdd, Nat.reduceLeDiff]
        exact m4) (sx_trans (sx_mono x1 (by simp)) m2) (by simp) m3 (wC_sx (wC_sx (wC_sx wc tr_sx (by simp) (by simp)) x1 (by simp) (by simp)) m2 (by simp) (by simp)) (gC_sx (gC_sx (gC_sx gc tr_sx (by simp) (by simp) (by simp)) x1 (by simp) (by simp) (by simp)) m2 (by simp) (by simp) (by simp))
