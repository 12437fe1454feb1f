/-! ===== ways, safe, cut ===== -/
theorem qy_mt {d : Nat} {M : qM} {As : List Value} {h h1 : qH} {S : AS} {v : Nat} {r : Option Value} {L : List Nat} (I : CI h S) (hv : v ≠ 4) (e : ∀ Q, WM d M As h Q = Q (some r) (tr h1 (nI v))) (x : sx L (tr h 0) h1) (hL : ∀ b ∈ L, 32 ≤ b ∧ b ≠ 35 ∧ b < 44) (k : cC h1 (sA S)) (wc : wC h1 (sA S)) (gc : gC h1 (sA S)) : qy d M As h S v r :=
  ⟨_, e, cf_trans tr_cf (cf_trans (cf_sx x (fun b hb => (hL b hb).2.2)) tr_cf), CI_tr (S := trS S 0) (CI_mv (CI_tr (v := 0) I (by decide)) x (fun b hb => ⟨(hL b hb).1, (hL b hb).2.1⟩) k wc gc) hv⟩
theorem qy_m0 {d : Nat} {M : qM} {As : List Value} {h h1 : qH} {S : AS} {r : Option Value} {L : List Nat} (I : CI h S) (e : ∀ Q, WM d M As h Q = Q (some r) h1) (x : sx L (tr h 0) h1) (hL : ∀ b ∈ L, 32 ≤ b ∧ b ≠ 35 ∧ b < 44) (k : cC h1 (sA S)) (wc : wC h1 (sA S)) (gc : gC h1 (sA S)) : qy d M As h S 0 r :=
  ⟨_, e, cf_trans tr_cf (cf_sx x (fun b hb => (hL b hb).2.2)), CI_mv (CI_tr (v := 0) I (by decide)) x (fun b hb => ⟨(hL b hb).1, (hL b hb).2.1⟩) k wc gc⟩
noncomputable def sWays (S : AS) : Nat × Int32 := if aN (sA S) = 0 then (1, -1) else (0, nI (gW (sA S) (sX S)).length)
theorem q_ways {d : Nat} {h : qH} {S : AS} (I : CI h S) : qy (d + 10) mX7_ways [.ref (0 : Nat)] h S (sWays S).1 (some (.int (sWays S).2)) := by
  obtain ⟨s, tu, F, ⟨r0, r1, r2⟩, w, b, k, st, wc, gc, ⟨tbx, tbp, tbm⟩, tp, e8, e9, ep⟩ := id I
  obtain ⟨e0, e1, e2, e4, e5, e7⟩ := st.2.1
  have hs := w.1
  have ww := w.2.1
  have w3 := w.2.2.1
  have n6 := ww.1
  have p64 := p6 n6
  have bx := st.1
  have F1 : Fin0 (hR (tr h 0)) := F
  have w1 : cS (tr h 0) s (sA S) := cS_tr w
  have b1 : bT (tr h 0) (sA S) := bT_sx b tr_sx (by simp)
  have hf1 : hR (tr h 0) 32 0 = some s := r2
  have ns := c_noStreet (d := d + 8) r0 w
  by_cases c1 : aN (sA S) = 0
  · rw [sWays, if_pos c1]
    exact qy_tr (v := 1) I (by decide) (fun Q => by
      simp (implicitDefEqProofs := false) only [eX7_ways, rX7_ways_0, rX7_ways_0b, rX7_ways_1, rX7_ways_4, rX7_ways_7, rX7_ways_8, kS0 hs, kS1 hs, kT1 hs, fS1 hs F, kS2 hs, kT2 hs, fS2 hs F, kS3 hs, kT3 hs, fS3 hs F, kS4 hs, kT4 hs, fS4 hs F, kS5 hs, kT5 hs, fS5 hs F, kS6 hs, kT6 hs, fS6 hs F, kS7 hs, kT7 hs, fS7 hs F, kS8 hs, kT8 hs, fS8 hs F, kS9 hs, kT9 hs, fS9 hs F, kS10 hs, kT10 hs, fS10 hs F, kS11 hs, kT11 hs, fS11 hs F, nS hs, nSs hs, fin_0_2 F, fin_0_3 F, fin_0_4 F, fin_0_5 F, fin_0_6 F, fin_0_7 F, kA_0, kB_0, r0, r2, e0, e1, e2, pCX7_ways, pSX7_ways, pOX7_ways, pLX7_ways, pCX7_noStreet, pSX7_noStreet, pOX7_noStreet, pLX7_noStreet, pCX7_noHouse, pSX7_noHouse, pOX7_noHouse, pLX7_noHouse, pCX7_outside, pSX7_outside, pOX7_outside, pLX7_outside, pCX7_refuse, pSX7_refuse, pOX7_refuse, pLX7_refuse, ns, c1, show nI 1 = 1 from rfl, nI_0, decide_true, decide_false, bI_t, bI_f, reduceCtorEq, or_self, show ¬ (1 : Int32) = 0 from by decide, tr_R, tr_tr, tr_25, tr_26, tr_27, tr_28, tr_29, tr_30, tr_31, tr_32, tr_33, tr_34, tr_35, tr_36, tr_37, tr_38, tr_39, tr_40, tr_41, tr_42, tr_43, tr_s hs, tr_s1 hs, tr_s2 hs, tr_s3 hs, tr_s4 hs, tr_s5 hs, tr_s6 hs, tr_s7 hs, tr_s8 hs, tr_s9 hs, tr_s10 hs, tr_s11 hs, kl_I, kl_J, kl_R, kl_T, kl_N, Nat.le_refl, Nat.zero_le, List.map_nil, List.map_cons, List.sum_nil, List.sum_cons, c_I, c_J, c_R, c_T, va_rf, hI_wI, hJ_wJ, hR_wR, hI_J, hI_R, hJ_I, hJ_R, hR_I, hR_J, hN_I, hN_J, hN_R, wI_I, wJ_J, upd_at, updL_at, kR_s, Option.toList, List.append_nil, List.nil_append, List.cons_append, if_true, if_false, reduceIte, Bool.false_eq_true, not_true_eq_false, not_false_eq_true, true_and, and_true, false_and, and_false, true_or, or_true,  Nat.reduceEqDiff, Nat.reduceAdd, Nat.reduceLeDiff])
  · rw [sWays, if_neg c1]
    obtain ⟨h1, m1, m2, m3⟩ := c_wMake (d := d + 1) (x := sX S) F1 hf1 w1 b1 (wC_sx wc tr_sx (by simp) (by simp)) tbx.1 bx (by rw [tr_29]; exact e0) (by rw [tr_29]; exact e1) (by rw [tr_29]; exact e2)
    have FF : Fin0 (hR h1) := Fin_sx F1 m2
    have wq : wC h1 (sA S) := .inr ⟨_, m3⟩
    have kq : cC h1 (sA S) := cC_sx (cC_sx k tr_sx (by simp) (by simp)) m2 (by simp) (by simp)
    have gq : gC h1 (sA S) := gC_sx (gC_sx gc tr_sx (by simp) (by simp) (by simp)) m2 (by simp) (by simp) (by simp)
    obtain ⟨z1, z2, z3, z4, z5, a7, a8, a9, a64, aw⟩ := id m3
    exact qy_m0 I (fun Q => by
      simp (implicitDefEqProofs := false) only [eX7_ways, rX7_ways_0, rX7_ways_0b, rX7_ways_1, rX7_ways_4, rX7_ways_7, rX7_ways_8, rX7_ways_9, rX7_ways_9b, rX7_ways_10, rX7_ways_13, rX7_ways_13b, rX7_ways_14, rX7_ways_17, rX7_ways_20, rX7_ways_20b, rX7_ways_21, rX7_ways_24, rX7_ways_27, kS0 hs, kS1 hs, kT1 hs, fS1 hs F, kS2 hs, kT2 hs, fS2 hs F, kS3 hs, kT3 hs, fS3 hs F, kS4 hs, kT4 hs, fS4 hs F, kS5 hs, kT5 hs, fS5 hs F, kS6 hs, kT6 hs, fS6 hs F, kS7 hs, kT7 hs, fS7 hs F, kS8 hs, kT8 hs, fS8 hs F, kS9 hs, kT9 hs, fS9 hs F, kS10 hs, kT10 hs, fS10 hs F, kS11 hs, kT11 hs, fS11 hs F, nS hs, nSs hs, fin_0_2 F, fin_0_3 F, fin_0_4 F, fin_0_5 F, fin_0_6 F, fin_0_7 F, fin_0_2 FF, fin_0_3 FF, fin_0_4 FF, fin_0_5 FF, fin_0_6 FF, fin_0_7 FF, kA_0, kB_0, kA_29, kB_29, kA_37, kB_37, r0, r2, e0, e1, e2, pCX7_ways, pSX7_ways, pOX7_ways, pLX7_ways, pCX7_noStreet, pSX7_noStreet, pOX7_noStreet, pLX7_noStreet, pCX7_noHouse, pSX7_noHouse, pOX7_noHouse, pLX7_noHouse, pCX7_outside, pSX7_outside, pOX7_outside, pLX7_outside, pCX7_refuse, pSX7_refuse, pOX7_refuse, pLX7_refuse, pCX6_make, pSX6_make, pOX6_make, pLX6_make, ns, c1, m1, a7, nI_0, decide_true, decide_false, bI_t, bI_f, reduceCtorEq, or_self, show ¬ (1 : Int32) = 0 from by decide, tr_R, tr_tr, tr_25, tr_26, tr_27, tr_28, tr_29, tr_30, tr_31, tr_32, tr_33, tr_34, tr_35, tr_36, tr_37, tr_38, tr_39, tr_40, tr_41, tr_42, tr_43, tr_s hs, tr_s1 hs, tr_s2 hs, tr_s3 hs, tr_s4 hs, tr_s5 hs, tr_s6 hs, tr_s7 hs, tr_s8 hs, tr_s9 hs, tr_s10 hs, tr_s11 hs, kl_I, kl_J, kl_R, kl_T, kl_N, Nat.le_refl, Nat.zero_le, List.map_nil, List.map_cons, List.sum_nil, List.sum_cons, c_I, c_J, c_R, c_T, va_rf, hI_wI, hJ_wJ, hR_wR, hI_J, hI_R, hJ_I, hJ_R, hR_I, hR_J, hN_I, hN_J, hN_R, wI_I, wJ_J, upd_at, updL_at, kR_s, Option.toList, List.append_nil, List.nil_append, List.cons_append, if_true, if_false, reduceIte, Bool.false_eq_true, not_true_eq_false, not_false_eq_true, true_and, and_true, false_and, and_false, true_or, or_true,  Nat.reduceEqDiff, Nat.reduceAdd, Nat.reduceLeDiff]) m2 (by simp) kq wq gq
noncomputable def sCould (S : AS) : Nat × Int32 := if aN (sA S) = 0 then (1, -1) else (0, nI (gR (sA S) (sX S)))
theorem q_couldRing {d : Nat} {h : qH} {S : AS} (I : CI h S) : qy (d + 10) mX7_couldRing [.ref (0 : Nat)] h S (sCould S).1 (some (.int (sCould S).2)) := by
  obtain ⟨s, tu, F, ⟨r0, r1, r2⟩, w, b, k, st, wc, gc, ⟨tbx, tbp, tbm⟩, tp, e8, e9, ep⟩ := id I
  obtain ⟨e0, e1, e2, e4, e5, e7⟩ := st.2.1
  have hs := w.1
  have ww := w.2.1
  have w3 := w.2.2.1
  have n6 := ww.1
  have p64 := p6 n6
  have bx := st.1
  have F1 : Fin0 (hR (tr h 0)) := F
  have w1 : cS (tr h 0) s (sA S) := cS_tr w
  have b1 : bT (tr h 0) (sA S) := bT_sx b tr_sx (by simp)
  have hf1 : hR (tr h 0) 32 0 = some s := r2
  have ns := c_noStreet (d := d + 8) r0 w
  by_cases c1 : aN (sA S) = 0
  · rw [sCould, if_pos c1]
    exact qy_tr (v := 1) I (by decide) (fun Q => by
      simp (implicitDefEqProofs := false) only [eX7_couldRing, rX7_couldRing_0, rX7_couldRing_0b, rX7_couldRing_1, rX7_couldRing_4, rX7_couldRing_7, rX7_couldRing_8, kS0 hs, kS1 hs, kT1 hs, fS1 hs F, kS2 hs, kT2 hs, fS2 hs F, kS3 hs, kT3 hs, fS3 hs F, kS4 hs, kT4 hs, fS4 hs F, kS5 hs, kT5 hs, fS5 hs F, kS6 hs, kT6 hs, fS6 hs F, kS7 hs, kT7 hs, fS7 hs F, kS8 hs, kT8 hs, fS8 hs F, kS9 hs, kT9 hs, fS9 hs F, kS10 hs, kT10 hs, fS10 hs F, kS11 hs, kT11 hs, fS11 hs F, nS hs, nSs hs, fin_0_2 F, fin_0_3 F, fin_0_4 F, fin_0_5 F, fin_0_6 F, fin_0_7 F, kA_0, kB_0, r0, r2, e0, e1, e2, pCX7_couldRing, pSX7_couldRing, pOX7_couldRing, pLX7_couldRing, pCX7_noStreet, pSX7_noStreet, pOX7_noStreet, pLX7_noStreet, pCX7_noHouse, pSX7_noHouse, pOX7_noHouse, pLX7_noHouse, pCX7_outside, pSX7_outside, pOX7_outside, pLX7_outside, pCX7_refuse, pSX7_refuse, pOX7_refuse, pLX7_refuse, ns, c1, show nI 1 = 1 from rfl, nI_0, decide_true, decide_false, bI_t, bI_f, reduceCtorEq, or_self, show ¬ (1 : Int32) = 0 from by decide, tr_R, tr_tr, tr_25, tr_26, tr_27, tr_28, tr_29, tr_30, tr_31, tr_32, tr_33, tr_34, tr_35, tr_36, tr_37, tr_38, tr_39, tr_40, tr_41, tr_42, tr_43, tr_s hs, tr_s1 hs, tr_s2 hs, tr_s3 hs, tr_s4 hs, tr_s5 hs, tr_s6 hs, tr_s7 hs, tr_s8 hs, tr_s9 hs, tr_s10 hs, tr_s11 hs, kl_I, kl_J, kl_R, kl_T, kl_N, Nat.le_refl, Nat.zero_le, List.map_nil, List.map_cons, List.sum_nil, List.sum_cons, c_I, c_J, c_R, c_T, va_rf, hI_wI, hJ_wJ, hR_wR, hI_J, hI_R, hJ_I, hJ_R, hR_I, hR_J, hN_I, hN_J, hN_R, wI_I, wJ_J, upd_at, updL_at, kR_s, Option.toList, List.append_nil, List.nil_append, List.cons_append, if_true, if_false, reduceIte, Bool.false_eq_true, not_true_eq_false, not_false_eq_true, true_and, and_true, false_and, and_false, true_or, or_true,  Nat.reduceEqDiff, Nat.reduceAdd, Nat.reduceLeDiff])
  · rw [sCould, if_neg c1]
    obtain ⟨h1, m1, m2, m3⟩ := c_wMake (d := d + 1) (x := sX S) F1 hf1 w1 b1 (wC_sx wc tr_sx (by simp) (by simp)) tbx.1 bx (by rw [tr_29]; exact e0) (by rw [tr_29]; exact e1) (by rw [tr_29]; exact e2)
    have FF : Fin0 (hR h1) := Fin_sx F1 m2
    have wq : wC h1 (sA S) := .inr ⟨_, m3⟩
    have kq : cC h1 (sA S) := cC_sx (cC_sx k tr_sx (by simp) (by simp)) m2 (by simp) (by simp)
    have gq : gC h1 (sA S) := gC_sx (gC_sx gc tr_sx (by simp) (by simp) (by simp)) m2 (by simp) (by simp) (by simp)
    obtain ⟨z1, z2, z3, z4, z5, a7, a8, a9, a64, aw⟩ := id m3
    exact qy_m0 I (fun Q => by
      simp (implicitDefEqProofs := false) only [eX7_couldRing, rX7_couldRing_0, rX7_couldRing_0b, rX7_couldRing_1, rX7_couldRing_4, rX7_couldRing_7, rX7_couldRing_8, rX7_couldRing_9, rX7_couldRing_9b, rX7_couldRing_10, rX7_couldRing_13, rX7_couldRing_13b, rX7_couldRing_14, rX7_couldRing_17, rX7_couldRing_20, rX7_couldRing_20b, rX7_couldRing_21, rX7_couldRing_24, rX7_couldRing_27, kS0 hs, kS1 hs, kT1 hs, fS1 hs F, kS2 hs, kT2 hs, fS2 hs F, kS3 hs, kT3 hs, fS3 hs F, kS4 hs, kT4 hs, fS4 hs F, kS5 hs, kT5 hs, fS5 hs F, kS6 hs, kT6 hs, fS6 hs F, kS7 hs, kT7 hs, fS7 hs F, kS8 hs, kT8 hs, fS8 hs F, kS9 hs, kT9 hs, fS9 hs F, kS10 hs, kT10 hs, fS10 hs F, kS11 hs, kT11 hs, fS11 hs F, nS hs, nSs hs, fin_0_2 F, fin_0_3 F, fin_0_4 F, fin_0_5 F, fin_0_6 F, fin_0_7 F, fin_0_2 FF, fin_0_3 FF, fin_0_4 FF, fin_0_5 FF, fin_0_6 FF, fin_0_7 FF, kA_0, kB_0, kA_29, kB_29, kA_37, kB_37, r0, r2, e0, e1, e2, pCX7_couldRing, pSX7_couldRing, pOX7_couldRing, pLX7_couldRing, pCX7_noStreet, pSX7_noStreet, pOX7_noStreet, pLX7_noStreet, pCX7_noHouse, pSX7_noHouse, pOX7_noHouse, pLX7_noHouse, pCX7_outside, pSX7_outside, pOX7_outside, pLX7_outside, pCX7_refuse, pSX7_refuse, pOX7_refuse, pLX7_refuse, pCX6_make, pSX6_make, pOX6_make, pLX6_make, ns, c1, m1, a9, nI_0, decide_true, decide_false, bI_t, bI_f, reduceCtorEq, or_self, show ¬ (1 : Int32) = 0 from by decide, tr_R, tr_tr, tr_25, tr_26, tr_27, tr_28, tr_29, tr_30, tr_31, tr_32, tr_33, tr_34, tr_35, tr_36, tr_37, tr_38, tr_39, tr_40, tr_41, tr_42, tr_43, tr_s hs, tr_s1 hs, tr_s2 hs, tr_s3 hs, tr_s4 hs, tr_s5 hs, tr_s6 hs, tr_s7 hs, tr_s8 hs, tr_s9 hs, tr_s10 hs, tr_s11 hs, kl_I, kl_J, kl_R, kl_T, kl_N, Nat.le_refl, Nat.zero_le, List.map_nil, List.map_cons, List.sum_nil, List.sum_cons, c_I, c_J, c_R, c_T, va_rf, hI_wI, hJ_wJ, hR_wR, hI_J, hI_R, hJ_I, hJ_R, hR_I, hR_J, hN_I, hN_J, hN_R, wI_I, wJ_J, upd_at, updL_at, kR_s, Option.toList, List.append_nil, List.nil_append, List.cons_append, if_true, if_false, reduceIte, Bool.false_eq_true, not_true_eq_false, not_false_eq_true, true_and, and_true, false_and, and_false, true_or, or_true,  Nat.reduceEqDiff, Nat.reduceAdd, Nat.reduceLeDiff]) m2 (by simp) kq wq gq
theorem c_noWay0 {d : Nat} {h : qH} {s : Nat} {a : aS} {y : Int32} (r0 : hR h 0 0 = some s) (w : cS h s a) (c : aN a = 0) : ∀ Q, WM (d + 2) mX7_noWay [.ref (0 : Nat), .int y] h Q = Q (some (some (.int 1))) (tr h 1) := by
  intro Q
  have ns := c_noStreet (d := d) r0 w
  simp (implicitDefEqProofs := false) only [eX7_noWay, rX7_noWay_0, rX7_noWay_0b, rX7_noWay_1, rX7_noWay_4, rX7_noWay_7, rX7_noWay_8, kA_0, kB_0, pCX7_noWay, pSX7_noWay, pOX7_noWay, pLX7_noWay, pCX7_noStreet, pSX7_noStreet, pOX7_noStreet, pLX7_noStreet, ns, c, decide_true, bI_t, show ¬ (1 : Int32) = 0 from by decide, kl_I, kl_J, kl_R, kl_T, kl_N, Nat.le_refl, Nat.zero_le, List.map_nil, List.map_cons, List.sum_nil, List.sum_cons, c_I, c_J, c_R, c_T, va_rf, hI_wI, hJ_wJ, hR_wR, hI_J, hI_R, hJ_I, hJ_R, hR_I, hR_J, hN_I, hN_J, hN_R, wI_I, wJ_J, upd_at, updL_at, kR_s, Option.toList, List.append_nil, List.nil_append, List.cons_append, if_true, if_false, reduceIte, Bool.false_eq_true, not_true_eq_false, not_false_eq_true, true_and, and_true, false_and, and_false, true_or, or_true,  Nat.reduceEqDiff, Nat.reduceAdd, Nat.reduceLeDiff]
theorem c_noWay1 {d : Nat} {h : qH} {S : AS} {y : Int32} (I : CI h S) (c1 : ¬ aN (sA S) = 0) : ∃ h1, (∀ Q, WM (d + 9) mX7_noWay [.ref (0 : Nat), .int y] h Q = Q (some (some (.int (bI (decide (ix y (gW (sA S) (sX S)).length = none)))))) (tr h1 (if ix y (gW (sA S) (sX S)).length = none then 1 else 0))) ∧ sx [37, 38] (tr h 0) h1 ∧ wM h1 (sA S) (sX S) ∧ cC h1 (sA S) ∧ gC h1 (sA S) := by
  obtain ⟨s, tu, F, ⟨r0, r1, r2⟩, w, b, k, st, wc, gc, ⟨tbx, tbp, tbm⟩, tp, e8, e9, ep⟩ := id I
  obtain ⟨e0, e1, e2, e4, e5, e7⟩ := st.2.1
  have hs := w.1
  have ww := w.2.1
  have w3 := w.2.2.1
  have n6 := ww.1
  have p64 := p6 n6
  have bx := st.1
  have F1 : Fin0 (hR (tr h 0)) := F
  have w1 : cS (tr h 0) s (sA S) := cS_tr w
  have b1 : bT (tr h 0) (sA S) := bT_sx b tr_sx (by simp)
  have hf1 : hR (tr h 0) 32 0 = some s := r2
  have ns := c_noStreet (d := d + 7) r0 w
  obtain ⟨h1, m1, m2, m3⟩ := c_wMake (d := d) (x := sX S) F1 hf1 w1 b1 (wC_sx wc tr_sx (by simp) (by simp)) tbx.1 bx (by rw [tr_29]; exact e0) (by rw [tr_29]; exact e1) (by rw [tr_29]; exact e2)
  have FF : Fin0 (hR h1) := Fin_sx F1 m2
  have wq : wC h1 (sA S) := .inr ⟨_, m3⟩
  have kq : cC h1 (sA S) := cC_sx (cC_sx k tr_sx (by simp) (by simp)) m2 (by simp) (by simp)
  have gq : gC h1 (sA S) := gC_sx (gC_sx gc tr_sx (by simp) (by simp) (by simp)) m2 (by simp) (by simp) (by simp)
  obtain ⟨z1, z2, z3, z4, z5, a7, a8, a9, a64, aw⟩ := id m3
  refine ⟨h1, fun Q => ?_, m2, m3, kq, gq⟩
  have gl := gW_len ww (x := sX S)
  have q1 := c_refusedIf (d := d + 8) (h := h1) (b := true) (v := 1)
  rw [bI_t] at q1
  have q2 := c_refusedIf (d := d + 8) (h := h1) (b := false) (v := 1)
  rw [bI_f] at q2
  cases hx : ix y (gW (sA S) (sX S)).length with
  | none =>
    by_cases c : y < 0
    · simp (implicitDefEqProofs := false) only [eX7_noWay, rX7_noWay_0, rX7_noWay_0b, rX7_noWay_1, rX7_noWay_4, rX7_noWay_7, rX7_noWay_8, rX7_noWay_9, rX7_noWay_9b, rX7_noWay_10, rX7_noWay_13, rX7_noWay_13b, rX7_noWay_14, rX7_noWay_17, rX7_noWay_20, rX7_noWay_20b, rX7_noWay_21, rX7_noWay_22, rX7_noWay_25, rX7_noWay_26, rX7_noWay_26b, rX7_noWay_27, rX7_noWay_30, rX7_noWay_33, rX7_noWay_36, rX7_noWay_37, rX7_noWay_40, rX7_noWay_41, rX7_noWay_42, rX7_noWay_45, kS0 hs, kS1 hs, kT1 hs, fS1 hs F, kS2 hs, kT2 hs, fS2 hs F, kS3 hs, kT3 hs, fS3 hs F, kS4 hs, kT4 hs, fS4 hs F, kS5 hs, kT5 hs, fS5 hs F, kS6 hs, kT6 hs, fS6 hs F, kS7 hs, kT7 hs, fS7 hs F, kS8 hs, kT8 hs, fS8 hs F, kS9 hs, kT9 hs, fS9 hs F, kS10 hs, kT10 hs, fS10 hs F, kS11 hs, kT11 hs, fS11 hs F, nS hs, nSs hs, fin_0_2 F, fin_0_3 F, fin_0_4 F, fin_0_5 F, fin_0_6 F, fin_0_7 F, fin_0_2 FF, fin_0_3 FF, fin_0_4 FF, fin_0_5 FF, fin_0_6 FF, fin_0_7 FF, kA_0, kB_0, kA_29, kB_29, kA_37, kB_37, r0, r2, e0, e1, e2, pCX7_noWay, pSX7_noWay, pOX7_noWay, pLX7_noWay, pCX7_noStreet, pSX7_noStreet, pOX7_noStreet, pLX7_noStreet, pCX7_noHouse, pSX7_noHouse, pOX7_noHouse, pLX7_noHouse, pCX7_outside, pSX7_outside, pOX7_outside, pLX7_outside, pCX7_refuse, pSX7_refuse, pOX7_refuse, pLX7_refuse, pCX6_make, pSX6_make, pOX6_make, pLX6_make, pCX7_refusedIf, pSX7_refusedIf, pOX7_refusedIf, pLX7_refusedIf, ns, c1, m1, c, q1, nI_0, decide_true, decide_false, bI_t, bI_f, reduceCtorEq, or_self, show ¬ (1 : Int32) = 0 from by decide, tr_R, tr_tr, tr_25, tr_26, tr_27, tr_28, tr_29, tr_30, tr_31, tr_32, tr_33, tr_34, tr_35, tr_36, tr_37, tr_38, tr_39, tr_40, tr_41, tr_42, tr_43, tr_s hs, tr_s1 hs, tr_s2 hs, tr_s3 hs, tr_s4 hs, tr_s5 hs, tr_s6 hs, tr_s7 hs, tr_s8 hs, tr_s9 hs, tr_s10 hs, tr_s11 hs, kl_I, kl_J, kl_R, kl_T, kl_N, Nat.le_refl, Nat.zero_le, List.map_nil, List.map_cons, List.sum_nil, List.sum_cons, c_I, c_J, c_R, c_T, va_rf, hI_wI, hJ_wJ, hR_wR, hI_J, hI_R, hJ_I, hJ_R, hR_I, hR_J, hN_I, hN_J, hN_R, wI_I, wJ_J, upd_at, updL_at, kR_s, Option.toList, List.append_nil, List.nil_append, List.cons_append, if_true, if_false, reduceIte, Bool.false_eq_true, not_true_eq_false, not_false_eq_true, true_and, and_true, false_and, and_false, true_or, or_true,  Nat.reduceEqDiff, Nat.reduceAdd, Nat.reduceLeDiff]
    · have c2 : nI (gW (sA S) (sX S)).length ≤ y := (ix_n hx).resolve_left c
      have c3 : ¬ y < nI (gW (sA S) (sX S)).length := Int32.not_lt.mpr c2
      simp (implicitDefEqProofs := false) only [eX7_noWay, rX7_noWay_0, rX7_noWay_0b, rX7_noWay_1, rX7_noWay_4, rX7_noWay_7, rX7_noWay_8, rX7_noWay_9, rX7_noWay_9b, rX7_noWay_10, rX7_noWay_13, rX7_noWay_13b, rX7_noWay_14, rX7_noWay_17, rX7_noWay_20, rX7_noWay_20b, rX7_noWay_21, rX7_noWay_22, rX7_noWay_25, rX7_noWay_26, rX7_noWay_26b, rX7_noWay_27, rX7_noWay_30, rX7_noWay_33, rX7_noWay_36, rX7_noWay_37, rX7_noWay_40, rX7_noWay_41, rX7_noWay_42, rX7_noWay_45, kS0 hs, kS1 hs, kT1 hs, fS1 hs F, kS2 hs, kT2 hs, fS2 hs F, kS3 hs, kT3 hs, fS3 hs F, kS4 hs, kT4 hs, fS4 hs F, kS5 hs, kT5 hs, fS5 hs F, kS6 hs, kT6 hs, fS6 hs F, kS7 hs, kT7 hs, fS7 hs F, kS8 hs, kT8 hs, fS8 hs F, kS9 hs, kT9 hs, fS9 hs F, kS10 hs, kT10 hs, fS10 hs F, kS11 hs, kT11 hs, fS11 hs F, nS hs, nSs hs, fin_0_2 F, fin_0_3 F, fin_0_4 F, fin_0_5 F, fin_0_6 F, fin_0_7 F, fin_0_2 FF, fin_0_3 FF, fin_0_4 FF, fin_0_5 FF, fin_0_6 FF, fin_0_7 FF, kA_0, kB_0, kA_29, kB_29, kA_37, kB_37, r0, r2, e0, e1, e2, pCX7_noWay, pSX7_noWay, pOX7_noWay, pLX7_noWay, pCX7_noStreet, pSX7_noStreet, pOX7_noStreet, pLX7_noStreet, pCX7_noHouse, pSX7_noHouse, pOX7_noHouse, pLX7_noHouse, pCX7_outside, pSX7_outside, pOX7_outside, pLX7_outside, pCX7_refuse, pSX7_refuse, pOX7_refuse, pLX7_refuse, pCX6_make, pSX6_make, pOX6_make, pLX6_make, pCX7_refusedIf, pSX7_refusedIf, pOX7_refusedIf, pLX7_refusedIf, ns, c1, m1, a7, c, c3, q1, nI_0, decide_true, decide_false, bI_t, bI_f, reduceCtorEq, or_self, show ¬ (1 : Int32) = 0 from by decide, tr_R, tr_tr, tr_25, tr_26, tr_27, tr_28, tr_29, tr_30, tr_31, tr_32, tr_33, tr_34, tr_35, tr_36, tr_37, tr_38, tr_39, tr_40, tr_41, tr_42, tr_43, tr_s hs, tr_s1 hs, tr_s2 hs, tr_s3 hs, tr_s4 hs, tr_s5 hs, tr_s6 hs, tr_s7 hs, tr_s8 hs, tr_s9 hs, tr_s10 hs, tr_s11 hs, kl_I, kl_J, kl_R, kl_T, kl_N, Nat.le_refl, Nat.zero_le, List.map_nil, List.map_cons, List.sum_nil, List.sum_cons, c_I, c_J, c_R, c_T, va_rf, hI_wI, hJ_wJ, hR_wR, hI_J, hI_R, hJ_I, hJ_R, hR_I, hR_J, hN_I, hN_J, hN_R, wI_I, wJ_J, upd_at, updL_at, kR_s, Option.toList, List.append_nil, List.nil_append, List.cons_append, if_true, if_false, reduceIte, Bool.false_eq_true, not_true_eq_false, not_false_eq_true, true_and, and_true, false_and, and_false, true_or, or_true,  Nat.reduceEqDiff, Nat.reduceAdd, Nat.reduceLeDiff]
  | some i =>
    obtain ⟨rfl, hi⟩ := ix_s (by omega) hx
    have c : ¬ nI i < 0 := nI_pos (by omega)
    have c2 : nI i < nI (gW (sA S) (sX S)).length := nI_lt hi (by omega)
    simp (implicitDefEqProofs := false) only [eX7_noWay, rX7_noWay_0, rX7_noWay_0b, rX7_noWay_1, rX7_noWay_4, rX7_noWay_7, rX7_noWay_8, rX7_noWay_9, rX7_noWay_9b, rX7_noWay_10, rX7_noWay_13, rX7_noWay_13b, rX7_noWay_14, rX7_noWay_17, rX7_noWay_20, rX7_noWay_20b, rX7_noWay_21, rX7_noWay_22, rX7_noWay_25, rX7_noWay_26, rX7_noWay_26b, rX7_noWay_27, rX7_noWay_30, rX7_noWay_33, rX7_noWay_36, rX7_noWay_37, rX7_noWay_40, rX7_noWay_41, rX7_noWay_42, rX7_noWay_45, kS0 hs, kS1 hs, kT1 hs, fS1 hs F, kS2 hs, kT2 hs, fS2 hs F, kS3 hs, kT3 hs, fS3 hs F, kS4 hs, kT4 hs, fS4 hs F, kS5 hs, kT5 hs, fS5 hs F, kS6 hs, kT6 hs, fS6 hs F, kS7 hs, kT7 hs, fS7 hs F, kS8 hs, kT8 hs, fS8 hs F, kS9 hs, kT9 hs, fS9 hs F, kS10 hs, kT10 hs, fS10 hs F, kS11 hs, kT11 hs, fS11 hs F, nS hs, nSs hs, fin_0_2 F, fin_0_3 F, fin_0_4 F, fin_0_5 F, fin_0_6 F, fin_0_7 F, fin_0_2 FF, fin_0_3 FF, fin_0_4 FF, fin_0_5 FF, fin_0_6 FF, fin_0_7 FF, kA_0, kB_0, kA_29, kB_29, kA_37, kB_37, r0, r2, e0, e1, e2, pCX7_noWay, pSX7_noWay, pOX7_noWay, pLX7_noWay, pCX7_noStreet, pSX7_noStreet, pOX7_noStreet, pLX7_noStreet, pCX7_noHouse, pSX7_noHouse, pOX7_noHouse, pLX7_noHouse, pCX7_outside, pSX7_outside, pOX7_outside, pLX7_outside, pCX7_refuse, pSX7_refuse, pOX7_refuse, pLX7_refuse, pCX6_make, pSX6_make, pOX6_make, pLX6_make, pCX7_refusedIf, pSX7_refusedIf, pOX7_refusedIf, pLX7_refusedIf, ns, c1, m1, a7, c, c2, q2, nI_0, decide_true, decide_false, bI_t, bI_f, reduceCtorEq, or_self, show ¬ (1 : Int32) = 0 from by decide, tr_R, tr_tr, tr_25, tr_26, tr_27, tr_28, tr_29, tr_30, tr_31, tr_32, tr_33, tr_34, tr_35, tr_36, tr_37, tr_38, tr_39, tr_40, tr_41, tr_42, tr_43, tr_s hs, tr_s1 hs, tr_s2 hs, tr_s3 hs, tr_s4 hs, tr_s5 hs, tr_s6 hs, tr_s7 hs, tr_s8 hs, tr_s9 hs, tr_s10 hs, tr_s11 hs, kl_I, kl_J, kl_R, kl_T, kl_N, Nat.le_refl, Nat.zero_le, List.map_nil, List.map_cons, List.sum_nil, List.sum_cons, c_I, c_J, c_R, c_T, va_rf, hI_wI, hJ_wJ, hR_wR, hI_J, hI_R, hJ_I, hJ_R, hR_I, hR_J, hN_I, hN_J, hN_R, wI_I, wJ_J, upd_at, updL_at, kR_s, Option.toList, List.append_nil, List.nil_append, List.cons_append, if_true, if_false, reduceIte, Bool.false_eq_true, not_true_eq_false, not_false_eq_true, true_and, and_true, false_and, and_false, true_or, or_true,  Nat.reduceEqDiff, Nat.reduceAdd, Nat.reduceLeDiff]
noncomputable def wbN (S : AS) (i : Nat) : Nat := popc 6 (bbN (sA S) ((gW (sA S) (sX S)).getD i (0, 0)).1 60)
noncomputable def sWayAt (S : AS) (y z : Int32) : Nat × Int32 := if aN (sA S) = 0 then (1, -1) else match ix y (gW (sA S) (sX S)).length, ix z (glL (sA S) (sX S).2.2).length with
  | some i, some k => (0, oI (rgN ((gW (sA S) (sX S)).getD i (0, 0)) k))
  | _, _ => (1, -1)
noncomputable def sWayBurnt (S : AS) (y : Int32) : Nat × Int32 := if aN (sA S) = 0 then (1, -1) else match ix y (gW (sA S) (sX S)).length with
  | some i => (0, nI (wbN S i))
  | none => (1, -1)
theorem getD_in {α : Type} {L : List α} {i : Nat} {x : α} (h : i < L.length) : L.getD i x ∈ L := by
  rw [List.getD_eq_getElem?_getD, List.getElem?_eq_getElem h]
  exact List.getElem_mem h
theorem q_wayAt {d : Nat} {h : qH} {S : AS} {y z : Int32} (I : CI h S) : qy (d + 10) mX7_wayAt [.ref (0 : Nat), .int y, .int z] h S (sWayAt S y z).1 (some (.int (sWayAt S y z).2)) := by
  obtain ⟨s, tu, F, ⟨r0, r1, r2⟩, w, b, k, st, wc, gc, ⟨tbx, tbp, tbm⟩, tp, e8, e9, ep⟩ := id I
  obtain ⟨e0, e1, e2, e4, e5, e7⟩ := st.2.1
  have hs := w.1
  have ww := w.2.1
  have w3 := w.2.2.1
  have n6 := ww.1
  have p64 := p6 n6
  have bx := st.1
  have F1 : Fin0 (hR (tr h 0)) := F
  have w1 : cS (tr h 0) s (sA S) := cS_tr w
  have b1 : bT (tr h 0) (sA S) := bT_sx b tr_sx (by simp)
  have hf1 : hR (tr h 0) 32 0 = some s := r2
  have ns := c_noStreet (d := d + 8) r0 w
  rw [sWayAt]
  by_cases c1 : aN (sA S) = 0
  · rw [if_pos c1]
    have nw := c_noWay0 (d := d + 7) (y := y) r0 w c1
    exact qy_tr (v := 1) I (by decide) (fun Q => by
      simp (implicitDefEqProofs := false) only [eX7_wayAt, rX7_wayAt_0, rX7_wayAt_0b, rX7_wayAt_1, rX7_wayAt_2, rX7_wayAt_5, rX7_wayAt_8, rX7_wayAt_9, kS0 hs, kS1 hs, kT1 hs, fS1 hs F, kS2 hs, kT2 hs, fS2 hs F, kS3 hs, kT3 hs, fS3 hs F, kS4 hs, kT4 hs, fS4 hs F, kS5 hs, kT5 hs, fS5 hs F, kS6 hs, kT6 hs, fS6 hs F, kS7 hs, kT7 hs, fS7 hs F, kS8 hs, kT8 hs, fS8 hs F, kS9 hs, kT9 hs, fS9 hs F, kS10 hs, kT10 hs, fS10 hs F, kS11 hs, kT11 hs, fS11 hs F, nS hs, nSs hs, fin_0_2 F, fin_0_3 F, fin_0_4 F, fin_0_5 F, fin_0_6 F, fin_0_7 F, kA_0, kB_0, r0, r2, e0, e1, e2, pCX7_wayAt, pSX7_wayAt, pOX7_wayAt, pLX7_wayAt, pCX7_noStreet, pSX7_noStreet, pOX7_noStreet, pLX7_noStreet, pCX7_noHouse, pSX7_noHouse, pOX7_noHouse, pLX7_noHouse, pCX7_outside, pSX7_outside, pOX7_outside, pLX7_outside, pCX7_refuse, pSX7_refuse, pOX7_refuse, pLX7_refuse, pCX7_noWay, pSX7_noWay, pOX7_noWay, pLX7_noWay, nw, c1, show nI 1 = 1 from rfl, nI_0, decide_true, decide_false, bI_t, bI_f, reduceCtorEq, or_self, show ¬ (1 : Int32) = 0 from by decide, tr_R, tr_tr, tr_25, tr_26, tr_27, tr_28, tr_29, tr_30, tr_31, tr_32, tr_33, tr_34, tr_35, tr_36, tr_37, tr_38, tr_39, tr_40, tr_41, tr_42, tr_43, tr_s hs, tr_s1 hs, tr_s2 hs, tr_s3 hs, tr_s4 hs, tr_s5 hs, tr_s6 hs, tr_s7 hs, tr_s8 hs, tr_s9 hs, tr_s10 hs, tr_s11 hs, kl_I, kl_J, kl_R, kl_T, kl_N, Nat.le_refl, Nat.zero_le, List.map_nil, List.map_cons, List.sum_nil, List.sum_cons, c_I, c_J, c_R, c_T, va_rf, hI_wI, hJ_wJ, hR_wR, hI_J, hI_R, hJ_I, hJ_R, hR_I, hR_J, hN_I, hN_J, hN_R, wI_I, wJ_J, upd_at, updL_at, kR_s, Option.toList, List.append_nil, List.nil_append, List.cons_append, if_true, if_false, reduceIte, Bool.false_eq_true, not_true_eq_false, not_false_eq_true, true_and, and_true, false_and, and_false, true_or, or_true,  Nat.reduceEqDiff, Nat.reduceAdd, Nat.reduceLeDiff])
  · rw [if_neg c1]
    obtain ⟨h1, m1, m2, m3, kq, gq⟩ := c_noWay1 (d := d) (y := y) I c1
    have FF : Fin0 (hR h1) := Fin_sx F1 m2
    have wq : wC h1 (sA S) := .inr ⟨_, m3⟩
    obtain ⟨z1, z2, z3, z4, z5, a7, a8, a9, a64, aw⟩ := id m3
    have gl := gW_len ww (x := sX S)
    have g4 : (glL (sA S) (sX S).2.2).length ≤ 4 := by have := ww.2.2.2.2.2.2.2.1; rw [glL_len]; omega
    have rf := fun v => c_refuse (d := d + 9) (h := tr h1 v) (v := 1)
    cases c2 : ix y (gW (sA S) (sX S)).length with
    | none => exact qy_mt (v := 1) I (by decide) (fun Q => by
        simp (implicitDefEqProofs := false) only [eX7_wayAt, rX7_wayAt_0, rX7_wayAt_0b, rX7_wayAt_1, rX7_wayAt_2, rX7_wayAt_5, rX7_wayAt_8, rX7_wayAt_9, kS0 hs, kS1 hs, kT1 hs, fS1 hs F, kS2 hs, kT2 hs, fS2 hs F, kS3 hs, kT3 hs, fS3 hs F, kS4 hs, kT4 hs, fS4 hs F, kS5 hs, kT5 hs, fS5 hs F, kS6 hs, kT6 hs, fS6 hs F, kS7 hs, kT7 hs, fS7 hs F, kS8 hs, kT8 hs, fS8 hs F, kS9 hs, kT9 hs, fS9 hs F, kS10 hs, kT10 hs, fS10 hs F, kS11 hs, kT11 hs, fS11 hs F, nS hs, nSs hs, fin_0_2 F, fin_0_3 F, fin_0_4 F, fin_0_5 F, fin_0_6 F, fin_0_7 F, fin_0_2 FF, fin_0_3 FF, fin_0_4 FF, fin_0_5 FF, fin_0_6 FF, fin_0_7 FF, kA_0, kB_0, r0, r2, e0, e1, e2, pCX7_wayAt, pSX7_wayAt, pOX7_wayAt, pLX7_wayAt, pCX7_noStreet, pSX7_noStreet, pOX7_noStreet, pLX7_noStreet, pCX7_noHouse, pSX7_noHouse, pOX7_noHouse, pLX7_noHouse, pCX7_outside, pSX7_outside, pOX7_outside, pLX7_outside, pCX7_refuse, pSX7_refuse, pOX7_refuse, pLX7_refuse, pCX7_noWay, pSX7_noWay, pOX7_noWay, pLX7_noWay, m1, c2, show nI 1 = 1 from rfl, nI_0, decide_true, decide_false, bI_t, bI_f, reduceCtorEq, or_self, show ¬ (1 : Int32) = 0 from by decide, tr_R, tr_tr, tr_25, tr_26, tr_27, tr_28, tr_29, tr_30, tr_31, tr_32, tr_33, tr_34, tr_35, tr_36, tr_37, tr_38, tr_39, tr_40, tr_41, tr_42, tr_43, tr_s hs, tr_s1 hs, tr_s2 hs, tr_s3 hs, tr_s4 hs, tr_s5 hs, tr_s6 hs, tr_s7 hs, tr_s8 hs, tr_s9 hs, tr_s10 hs, tr_s11 hs, kl_I, kl_J, kl_R, kl_T, kl_N, Nat.le_refl, Nat.zero_le, List.map_nil, List.map_cons, List.sum_nil, List.sum_cons, c_I, c_J, c_R, c_T, va_rf, hI_wI, hJ_wJ, hR_wR, hI_J, hI_R, hJ_I, hJ_R, hR_I, hR_J, hN_I, hN_J, hN_R, wI_I, wJ_J, upd_at, updL_at, kR_s, Option.toList, List.append_nil, List.nil_append, List.cons_append, if_true, if_false, reduceIte, Bool.false_eq_true, not_true_eq_false, not_false_eq_true, true_and, and_true, false_and, and_false, true_or, or_true,  Nat.reduceEqDiff, Nat.reduceAdd, Nat.reduceLeDiff]) m2 (by simp) kq wq gq
    | some i =>
      obtain ⟨rfl, hi⟩ := ix_s (by omega) c2
      cases c3 : ix z (glL (sA S) (sX S).2.2).length with
      | none =>
        by_cases c : z < 0
        · exact qy_mt (v := 1) I (by decide) (fun Q => by
            simp (implicitDefEqProofs := false) only [eX7_wayAt, rX7_wayAt_0, rX7_wayAt_0b, rX7_wayAt_1, rX7_wayAt_2, rX7_wayAt_5, rX7_wayAt_8, rX7_wayAt_9, rX7_wayAt_10, rX7_wayAt_11, rX7_wayAt_14, rX7_wayAt_15, rX7_wayAt_15b, rX7_wayAt_16, rX7_wayAt_19, rX7_wayAt_22, rX7_wayAt_25, rX7_wayAt_25b, rX7_wayAt_26, rX7_wayAt_27, rX7_wayAt_30, rX7_wayAt_31, rX7_wayAt_31b, rX7_wayAt_32, rX7_wayAt_35, rX7_wayAt_36, rX7_wayAt_37, rX7_wayAt_40, kS0 hs, kS1 hs, kT1 hs, fS1 hs F, kS2 hs, kT2 hs, fS2 hs F, kS3 hs, kT3 hs, fS3 hs F, kS4 hs, kT4 hs, fS4 hs F, kS5 hs, kT5 hs, fS5 hs F, kS6 hs, kT6 hs, fS6 hs F, kS7 hs, kT7 hs, fS7 hs F, kS8 hs, kT8 hs, fS8 hs F, kS9 hs, kT9 hs, fS9 hs F, kS10 hs, kT10 hs, fS10 hs F, kS11 hs, kT11 hs, fS11 hs F, nS hs, nSs hs, fin_0_2 F, fin_0_3 F, fin_0_4 F, fin_0_5 F, fin_0_6 F, fin_0_7 F, fin_0_2 FF, fin_0_3 FF, fin_0_4 FF, fin_0_5 FF, fin_0_6 FF, fin_0_7 FF, kA_0, kB_0, kA_37, kB_37, r0, r2, e0, e1, e2, pCX7_wayAt, pSX7_wayAt, pOX7_wayAt, pLX7_wayAt, pCX7_noStreet, pSX7_noStreet, pOX7_noStreet, pLX7_noStreet, pCX7_noHouse, pSX7_noHouse, pOX7_noHouse, pLX7_noHouse, pCX7_outside, pSX7_outside, pOX7_outside, pLX7_outside, pCX7_refuse, pSX7_refuse, pOX7_refuse, pLX7_refuse, pCX7_noWay, pSX7_noWay, pOX7_noWay, pLX7_noWay, m1, c2, c, rf, show nI 1 = 1 from rfl, nI_0, decide_true, decide_false, bI_t, bI_f, reduceCtorEq, or_self, show ¬ (1 : Int32) = 0 from by decide, tr_R, tr_tr, tr_25, tr_26, tr_27, tr_28, tr_29, tr_30, tr_31, tr_32, tr_33, tr_34, tr_35, tr_36, tr_37, tr_38, tr_39, tr_40, tr_41, tr_42, tr_43, tr_s hs, tr_s1 hs, tr_s2 hs, tr_s3 hs, tr_s4 hs, tr_s5 hs, tr_s6 hs, tr_s7 hs, tr_s8 hs, tr_s9 hs, tr_s10 hs, tr_s11 hs, kl_I, kl_J, kl_R, kl_T, kl_N, Nat.le_refl, Nat.zero_le, List.map_nil, List.map_cons, List.sum_nil, List.sum_cons, c_I, c_J, c_R, c_T, va_rf, hI_wI, hJ_wJ, hR_wR, hI_J, hI_R, hJ_I, hJ_R, hR_I, hR_J, hN_I, hN_J, hN_R, wI_I, wJ_J, upd_at, updL_at, kR_s, Option.toList, List.append_nil, List.nil_append, List.cons_append, if_true, if_false, reduceIte, Bool.false_eq_true, not_true_eq_false, not_false_eq_true, true_and, and_true, false_and, and_false, true_or, or_true,  Nat.reduceEqDiff, Nat.reduceAdd, Nat.reduceLeDiff]) m2 (by simp) kq wq gq
        · have c4 : ¬ z < nI (glL (sA S) (sX S).2.2).length := Int32.not_lt.mpr ((ix_n c3).resolve_left c)
          exact qy_mt (v := 1) I (by decide) (fun Q => by
            simp (implicitDefEqProofs := false) only [eX7_wayAt, rX7_wayAt_0, rX7_wayAt_0b, rX7_wayAt_1, rX7_wayAt_2, rX7_wayAt_5, rX7_wayAt_8, rX7_wayAt_9, rX7_wayAt_10, rX7_wayAt_11, rX7_wayAt_14, rX7_wayAt_15, rX7_wayAt_15b, rX7_wayAt_16, rX7_wayAt_19, rX7_wayAt_22, rX7_wayAt_25, rX7_wayAt_25b, rX7_wayAt_26, rX7_wayAt_27, rX7_wayAt_30, rX7_wayAt_31, rX7_wayAt_31b, rX7_wayAt_32, rX7_wayAt_35, rX7_wayAt_36, rX7_wayAt_37, rX7_wayAt_40, kS0 hs, kS1 hs, kT1 hs, fS1 hs F, kS2 hs, kT2 hs, fS2 hs F, kS3 hs, kT3 hs, fS3 hs F, kS4 hs, kT4 hs, fS4 hs F, kS5 hs, kT5 hs, fS5 hs F, kS6 hs, kT6 hs, fS6 hs F, kS7 hs, kT7 hs, fS7 hs F, kS8 hs, kT8 hs, fS8 hs F, kS9 hs, kT9 hs, fS9 hs F, kS10 hs, kT10 hs, fS10 hs F, kS11 hs, kT11 hs, fS11 hs F, nS hs, nSs hs, fin_0_2 F, fin_0_3 F, fin_0_4 F, fin_0_5 F, fin_0_6 F, fin_0_7 F, fin_0_2 FF, fin_0_3 FF, fin_0_4 FF, fin_0_5 FF, fin_0_6 FF, fin_0_7 FF, kA_0, kB_0, kA_37, kB_37, r0, r2, e0, e1, e2, pCX7_wayAt, pSX7_wayAt, pOX7_wayAt, pLX7_wayAt, pCX7_noStreet, pSX7_noStreet, pOX7_noStreet, pLX7_noStreet, pCX7_noHouse, pSX7_noHouse, pOX7_noHouse, pLX7_noHouse, pCX7_outside, pSX7_outside, pOX7_outside, pLX7_outside, pCX7_refuse, pSX7_refuse, pOX7_refuse, pLX7_refuse, pCX7_noWay, pSX7_noWay, pOX7_noWay, pLX7_noWay, m1, c2, c, a8, c4, rf, show nI 1 = 1 from rfl, nI_0, decide_true, decide_false, bI_t, bI_f, reduceCtorEq, or_self, show ¬ (1 : Int32) = 0 from by decide, tr_R, tr_tr, tr_25, tr_26, tr_27, tr_28, tr_29, tr_30, tr_31, tr_32, tr_33, tr_34, tr_35, tr_36, tr_37, tr_38, tr_39, tr_40, tr_41, tr_42, tr_43, tr_s hs, tr_s1 hs, tr_s2 hs, tr_s3 hs, tr_s4 hs, tr_s5 hs, tr_s6 hs, tr_s7 hs, tr_s8 hs, tr_s9 hs, tr_s10 hs, tr_s11 hs, kl_I, kl_J, kl_R, kl_T, kl_N, Nat.le_refl, Nat.zero_le, List.map_nil, List.map_cons, List.sum_nil, List.sum_cons, c_I, c_J, c_R, c_T, va_rf, hI_wI, hJ_wJ, hR_wR, hI_J, hI_R, hJ_I, hJ_R, hR_I, hR_J, hN_I, hN_J, hN_R, wI_I, wJ_J, upd_at, updL_at, kR_s, Option.toList, List.append_nil, List.nil_append, List.cons_append, if_true, if_false, reduceIte, Bool.false_eq_true, not_true_eq_false, not_false_eq_true, true_and, and_true, false_and, and_false, true_or, or_true,  Nat.reduceEqDiff, Nat.reduceAdd, Nat.reduceLeDiff]) m2 (by simp) kq wq gq
      | some k2 =>
        obtain ⟨rfl, hk⟩ := ix_s (by omega) c3
        have c : ¬ nI k2 < 0 := nI_pos (by omega)
        have c4 : nI k2 < nI (glL (sA S) (sX S).2.2).length := nI_lt hk (by omega)
        have pb := gW_in ww tbx.1 (getD_in (x := (0, 0)) hi)
        have ro := c_ringOf (d := d + 9) (h := tr h1 0) (i := i) (k := k2) FF (by rw [tr_38]; exact aw i hi) (by omega) (by omega) pb.2 (by omega)
        exact qy_mt (v := 0) I (by decide) (fun Q => by
          simp (implicitDefEqProofs := false) only [eX7_wayAt, rX7_wayAt_0, rX7_wayAt_0b, rX7_wayAt_1, rX7_wayAt_2, rX7_wayAt_5, rX7_wayAt_8, rX7_wayAt_9, rX7_wayAt_10, rX7_wayAt_11, rX7_wayAt_14, rX7_wayAt_15, rX7_wayAt_15b, rX7_wayAt_16, rX7_wayAt_19, rX7_wayAt_22, rX7_wayAt_25, rX7_wayAt_25b, rX7_wayAt_26, rX7_wayAt_27, rX7_wayAt_30, rX7_wayAt_31, rX7_wayAt_31b, rX7_wayAt_32, rX7_wayAt_35, rX7_wayAt_36, rX7_wayAt_37, rX7_wayAt_40, kS0 hs, kS1 hs, kT1 hs, fS1 hs F, kS2 hs, kT2 hs, fS2 hs F, kS3 hs, kT3 hs, fS3 hs F, kS4 hs, kT4 hs, fS4 hs F, kS5 hs, kT5 hs, fS5 hs F, kS6 hs, kT6 hs, fS6 hs F, kS7 hs, kT7 hs, fS7 hs F, kS8 hs, kT8 hs, fS8 hs F, kS9 hs, kT9 hs, fS9 hs F, kS10 hs, kT10 hs, fS10 hs F, kS11 hs, kT11 hs, fS11 hs F, nS hs, nSs hs, fin_0_2 F, fin_0_3 F, fin_0_4 F, fin_0_5 F, fin_0_6 F, fin_0_7 F, fin_0_2 FF, fin_0_3 FF, fin_0_4 FF, fin_0_5 FF, fin_0_6 FF, fin_0_7 FF, kA_0, kB_0, kA_37, kB_37, r0, r2, e0, e1, e2, pCX7_wayAt, pSX7_wayAt, pOX7_wayAt, pLX7_wayAt, pCX7_noStreet, pSX7_noStreet, pOX7_noStreet, pLX7_noStreet, pCX7_noHouse, pSX7_noHouse, pOX7_noHouse, pLX7_noHouse, pCX7_outside, pSX7_outside, pOX7_outside, pLX7_outside, pCX7_refuse, pSX7_refuse, pOX7_refuse, pLX7_refuse, pCX7_noWay, pSX7_noWay, pOX7_noWay, pLX7_noWay, pCX6_ringOf, pSX6_ringOf, pOX6_ringOf, pLX6_ringOf, m1, c2, c, a8, c4, ro, nI_0, decide_true, decide_false, bI_t, bI_f, reduceCtorEq, or_self, show ¬ (1 : Int32) = 0 from by decide, tr_R, tr_tr, tr_25, tr_26, tr_27, tr_28, tr_29, tr_30, tr_31, tr_32, tr_33, tr_34, tr_35, tr_36, tr_37, tr_38, tr_39, tr_40, tr_41, tr_42, tr_43, tr_s hs, tr_s1 hs, tr_s2 hs, tr_s3 hs, tr_s4 hs, tr_s5 hs, tr_s6 hs, tr_s7 hs, tr_s8 hs, tr_s9 hs, tr_s10 hs, tr_s11 hs, kl_I, kl_J, kl_R, kl_T, kl_N, Nat.le_refl, Nat.zero_le, List.map_nil, List.map_cons, List.sum_nil, List.sum_cons, c_I, c_J, c_R, c_T, va_rf, hI_wI, hJ_wJ, hR_wR, hI_J, hI_R, hJ_I, hJ_R, hR_I, hR_J, hN_I, hN_J, hN_R, wI_I, wJ_J, upd_at, updL_at, kR_s, Option.toList, List.append_nil, List.nil_append, List.cons_append, if_true, if_false, reduceIte, Bool.false_eq_true, not_true_eq_false, not_false_eq_true, true_and, and_true, false_and, and_false, true_or, or_true,  Nat.reduceEqDiff, Nat.reduceAdd, Nat.reduceLeDiff]) m2 (by simp) kq wq gq
theorem q_wayBurnt {d : Nat} {h : qH} {S : AS} {y : Int32} (I : CI h S) : qy (d + 10) mX7_wayBurnt [.ref (0 : Nat), .int y] h S (sWayBurnt S y).1 (some (.int (sWayBurnt S y).2)) := by
  obtain ⟨s, tu, F, ⟨r0, r1, r2⟩, w, b, k, st, wc, gc, ⟨tbx, tbp, tbm⟩, tp, e8, e9, ep⟩ := id I
  obtain ⟨e0, e1, e2, e4, e5, e7⟩ := st.2.1
  have hs := w.1
  have ww := w.2.1
  have w3 := w.2.2.1
  have n6 := ww.1
  have p64 := p6 n6
  have bx := st.1
  have F1 : Fin0 (hR (tr h 0)) := F
  have w1 : cS (tr h 0) s (sA S) := cS_tr w
  have b1 : bT (tr h 0) (sA S) := bT_sx b tr_sx (by simp)
  have hf1 : hR (tr h 0) 32 0 = some s := r2
  have ns := c_noStreet (d := d + 8) r0 w
  rw [sWayBurnt]
  by_cases c1 : aN (sA S) = 0
  · rw [if_pos c1]
    have nw := c_noWay0 (d := d + 7) (y := y) r0 w c1
    exact qy_tr (v := 1) I (by decide) (fun Q => by
      simp (implicitDefEqProofs := false) only [eX7_wayBurnt, rX7_wayBurnt_0, rX7_wayBurnt_0b, rX7_wayBurnt_1, rX7_wayBurnt_2, rX7_wayBurnt_5, rX7_wayBurnt_8, rX7_wayBurnt_9, kS0 hs, kS1 hs, kT1 hs, fS1 hs F, kS2 hs, kT2 hs, fS2 hs F, kS3 hs, kT3 hs, fS3 hs F, kS4 hs, kT4 hs, fS4 hs F, kS5 hs, kT5 hs, fS5 hs F, kS6 hs, kT6 hs, fS6 hs F, kS7 hs, kT7 hs, fS7 hs F, kS8 hs, kT8 hs, fS8 hs F, kS9 hs, kT9 hs, fS9 hs F, kS10 hs, kT10 hs, fS10 hs F, kS11 hs, kT11 hs, fS11 hs F, nS hs, nSs hs, fin_0_2 F, fin_0_3 F, fin_0_4 F, fin_0_5 F, fin_0_6 F, fin_0_7 F, kA_0, kB_0, r0, r2, e0, e1, e2, pCX7_wayBurnt, pSX7_wayBurnt, pOX7_wayBurnt, pLX7_wayBurnt, pCX7_noStreet, pSX7_noStreet, pOX7_noStreet, pLX7_noStreet, pCX7_noHouse, pSX7_noHouse, pOX7_noHouse, pLX7_noHouse, pCX7_outside, pSX7_outside, pOX7_outside, pLX7_outside, pCX7_refuse, pSX7_refuse, pOX7_refuse, pLX7_refuse, pCX7_noWay, pSX7_noWay, pOX7_noWay, pLX7_noWay, nw, c1, show nI 1 = 1 from rfl, nI_0, decide_true, decide_false, bI_t, bI_f, reduceCtorEq, or_self, show ¬ (1 : Int32) = 0 from by decide, tr_R, tr_tr, tr_25, tr_26, tr_27, tr_28, tr_29, tr_30, tr_31, tr_32, tr_33, tr_34, tr_35, tr_36, tr_37, tr_38, tr_39, tr_40, tr_41, tr_42, tr_43, tr_s hs, tr_s1 hs, tr_s2 hs, tr_s3 hs, tr_s4 hs, tr_s5 hs, tr_s6 hs, tr_s7 hs, tr_s8 hs, tr_s9 hs, tr_s10 hs, tr_s11 hs, kl_I, kl_J, kl_R, kl_T, kl_N, Nat.le_refl, Nat.zero_le, List.map_nil, List.map_cons, List.sum_nil, List.sum_cons, c_I, c_J, c_R, c_T, va_rf, hI_wI, hJ_wJ, hR_wR, hI_J, hI_R, hJ_I, hJ_R, hR_I, hR_J, hN_I, hN_J, hN_R, wI_I, wJ_J, upd_at, updL_at, kR_s, Option.toList, List.append_nil, List.nil_append, List.cons_append, if_true, if_false, reduceIte, Bool.false_eq_true, not_true_eq_false, not_false_eq_true, true_and, and_true, false_and, and_false, true_or, or_true,  Nat.reduceEqDiff, Nat.reduceAdd, Nat.reduceLeDiff])
  · rw [if_neg c1]
    obtain ⟨h1, m1, m2, m3, kq, gq⟩ := c_noWay1 (d := d) (y := y) I c1
    have FF : Fin0 (hR h1) := Fin_sx F1 m2
    have wq : wC h1 (sA S) := .inr ⟨_, m3⟩
    obtain ⟨z1, z2, z3, z4, z5, a7, a8, a9, a64, aw⟩ := id m3
    have gl := gW_len ww (x := sX S)
    cases c2 : ix y (gW (sA S) (sX S)).length with
    | none => exact qy_mt (v := 1) I (by decide) (fun Q => by
        simp (implicitDefEqProofs := false) only [eX7_wayBurnt, rX7_wayBurnt_0, rX7_wayBurnt_0b, rX7_wayBurnt_1, rX7_wayBurnt_2, rX7_wayBurnt_5, rX7_wayBurnt_8, rX7_wayBurnt_9, kS0 hs, kS1 hs, kT1 hs, fS1 hs F, kS2 hs, kT2 hs, fS2 hs F, kS3 hs, kT3 hs, fS3 hs F, kS4 hs, kT4 hs, fS4 hs F, kS5 hs, kT5 hs, fS5 hs F, kS6 hs, kT6 hs, fS6 hs F, kS7 hs, kT7 hs, fS7 hs F, kS8 hs, kT8 hs, fS8 hs F, kS9 hs, kT9 hs, fS9 hs F, kS10 hs, kT10 hs, fS10 hs F, kS11 hs, kT11 hs, fS11 hs F, nS hs, nSs hs, fin_0_2 F, fin_0_3 F, fin_0_4 F, fin_0_5 F, fin_0_6 F, fin_0_7 F, fin_0_2 FF, fin_0_3 FF, fin_0_4 FF, fin_0_5 FF, fin_0_6 FF, fin_0_7 FF, kA_0, kB_0, r0, r2, e0, e1, e2, pCX7_wayBurnt, pSX7_wayBurnt, pOX7_wayBurnt, pLX7_wayBurnt, pCX7_noStreet, pSX7_noStreet, pOX7_noStreet, pLX7_noStreet, pCX7_noHouse, pSX7_noHouse, pOX7_noHouse, pLX7_noHouse, pCX7_outside, pSX7_outside, pOX7_outside, pLX7_outside, pCX7_refuse, pSX7_refuse, pOX7_refuse, pLX7_refuse, pCX7_noWay, pSX7_noWay, pOX7_noWay, pLX7_noWay, m1, c2, show nI 1 = 1 from rfl, nI_0, decide_true, decide_false, bI_t, bI_f, reduceCtorEq, or_self, show ¬ (1 : Int32) = 0 from by decide, tr_R, tr_tr, tr_25, tr_26, tr_27, tr_28, tr_29, tr_30, tr_31, tr_32, tr_33, tr_34, tr_35, tr_36, tr_37, tr_38, tr_39, tr_40, tr_41, tr_42, tr_43, tr_s hs, tr_s1 hs, tr_s2 hs, tr_s3 hs, tr_s4 hs, tr_s5 hs, tr_s6 hs, tr_s7 hs, tr_s8 hs, tr_s9 hs, tr_s10 hs, tr_s11 hs, kl_I, kl_J, kl_R, kl_T, kl_N, Nat.le_refl, Nat.zero_le, List.map_nil, List.map_cons, List.sum_nil, List.sum_cons, c_I, c_J, c_R, c_T, va_rf, hI_wI, hJ_wJ, hR_wR, hI_J, hI_R, hJ_I, hJ_R, hR_I, hR_J, hN_I, hN_J, hN_R, wI_I, wJ_J, upd_at, updL_at, kR_s, Option.toList, List.append_nil, List.nil_append, List.cons_append, if_true, if_false, reduceIte, Bool.false_eq_true, not_true_eq_false, not_false_eq_true, true_and, and_true, false_and, and_false, true_or, or_true,  Nat.reduceEqDiff, Nat.reduceAdd, Nat.reduceLeDiff]) m2 (by simp) kq wq gq
    | some i =>
      obtain ⟨rfl, hi⟩ := ix_s (by omega) c2
      have pb := gW_in ww tbx.1 (getD_in (x := (0, 0)) hi)
      have hfh : hR (tr h1 0) 32 0 = some s := by rw [tr_R, m2.1]; exact r2
      have ro := c_burntOf (d := d + 7) (h := tr h1 0) (i := i) FF hfh (cS_tr (cS_sx w1 m2 (by simp))) (bT_sx (bT_sx b1 m2 (by simp)) tr_sx (by simp)) (by rw [tr_38]; exact aw i hi) (by omega) pb.1 pb.2
      exact qy_mt (v := 0) I (by decide) (fun Q => by
        simp (implicitDefEqProofs := false) only [eX7_wayBurnt, rX7_wayBurnt_0, rX7_wayBurnt_0b, rX7_wayBurnt_1, rX7_wayBurnt_2, rX7_wayBurnt_5, rX7_wayBurnt_8, rX7_wayBurnt_9, rX7_wayBurnt_10, rX7_wayBurnt_10b, rX7_wayBurnt_11, rX7_wayBurnt_14, rX7_wayBurnt_15, rX7_wayBurnt_18, kS0 hs, kS1 hs, kT1 hs, fS1 hs F, kS2 hs, kT2 hs, fS2 hs F, kS3 hs, kT3 hs, fS3 hs F, kS4 hs, kT4 hs, fS4 hs F, kS5 hs, kT5 hs, fS5 hs F, kS6 hs, kT6 hs, fS6 hs F, kS7 hs, kT7 hs, fS7 hs F, kS8 hs, kT8 hs, fS8 hs F, kS9 hs, kT9 hs, fS9 hs F, kS10 hs, kT10 hs, fS10 hs F, kS11 hs, kT11 hs, fS11 hs F, nS hs, nSs hs, fin_0_2 F, fin_0_3 F, fin_0_4 F, fin_0_5 F, fin_0_6 F, fin_0_7 F, fin_0_2 FF, fin_0_3 FF, fin_0_4 FF, fin_0_5 FF, fin_0_6 FF, fin_0_7 FF, kA_0, kB_0, kA_37, kB_37, r0, r2, e0, e1, e2, pCX7_wayBurnt, pSX7_wayBurnt, pOX7_wayBurnt, pLX7_wayBurnt, pCX7_noStreet, pSX7_noStreet, pOX7_noStreet, pLX7_noStreet, pCX7_noHouse, pSX7_noHouse, pOX7_noHouse, pLX7_noHouse, pCX7_outside, pSX7_outside, pOX7_outside, pLX7_outside, pCX7_refuse, pSX7_refuse, pOX7_refuse, pLX7_refuse, pCX7_noWay, pSX7_noWay, pOX7_noWay, pLX7_noWay, pCX6_burntOf, pSX6_burntOf, pOX6_burntOf, pLX6_burntOf, m1, c2, ro, wbN, nI_0, decide_true, decide_false, bI_t, bI_f, reduceCtorEq, or_self, show ¬ (1 : Int32) = 0 from by decide, tr_R, tr_tr, tr_25, tr_26, tr_27, tr_28, tr_29, tr_30, tr_31, tr_32, tr_33, tr_34, tr_35, tr_36, tr_37, tr_38, tr_39, tr_40, tr_41, tr_42, tr_43, tr_s hs, tr_s1 hs, tr_s2 hs, tr_s3 hs, tr_s4 hs, tr_s5 hs, tr_s6 hs, tr_s7 hs, tr_s8 hs, tr_s9 hs, tr_s10 hs, tr_s11 hs, kl_I, kl_J, kl_R, kl_T, kl_N, Nat.le_refl, Nat.zero_le, List.map_nil, List.map_cons, List.sum_nil, List.sum_cons, c_I, c_J, c_R, c_T, va_rf, hI_wI, hJ_wJ, hR_wR, hI_J, hI_R, hJ_I, hJ_R, hR_I, hR_J, hN_I, hN_J, hN_R, wI_I, wJ_J, upd_at, updL_at, kR_s, Option.toList, List.append_nil, List.nil_append, List.cons_append, if_true, if_false, reduceIte, Bool.false_eq_true, not_true_eq_false, not_false_eq_true, true_and, and_true, false_and, and_false, true_or, or_true,  Nat.reduceEqDiff, Nat.reduceAdd, Nat.reduceLeDiff]) m2 (by simp) kq wq gq
def bwL (f : Nat → Nat) : Nat → Nat → Nat → Nat
  | 0, _, b => b
  | k + 1, i, b => bwL f k (i + 1) (if f i < f b then i else b)
noncomputable def sBestWay (S : AS) : Nat × Int32 := if aN (sA S) = 0 then (1, -1) else (0, nI (bwL (wbN S) ((gW (sA S) (sX S)).length - 1) 1 0))
theorem l_bestWay {d : Nat} {h : qH} {s : Nat} {S : AS} (F : Fin0 (hR h)) (r2 : hR h 32 0 = some s) (w : cS h s (sA S)) (b : bT h (sA S)) (tb : (sX S).1 < 2 ^ aN (sA S)) (m : wM h (sA S) (sX S)) {Q : Option (Option Value) → qH → Prop} : ∀ (k i : Nat), i + k = (gW (sA S) (sX S)).length → ∀ bo, bo < i → WP (d + 3) mX7_bestWay (0, 0) 24 [some (.ref (0 : Nat)), some (.int (nI bo)), some (.int (nI i))] [] h Q = Q (some (some (.int (nI (bwL (wbN S) k i bo))))) h := by
  have ww := w.2.1
  have gl := gW_len ww (x := sX S)
  obtain ⟨z1, z2, z3, z4, z5, a7, a8, a9, a64, aw⟩ := id m
  intro k
  induction k with
  | zero =>
    intro i hi bo hb
    obtain rfl : i = (gW (sA S) (sX S)).length := by omega
    simp (implicitDefEqProofs := false) only [rX7_bestWay_24, rX7_bestWay_25, rX7_bestWay_25b, rX7_bestWay_26, rX7_bestWay_29, rX7_bestWay_32, rX7_bestWay_35, rX7_bestWay_35b, rX7_bestWay_36, rX7_bestWay_39, rX7_bestWay_40, rX7_bestWay_43, rX7_bestWay_43b, rX7_bestWay_44, rX7_bestWay_47, rX7_bestWay_48, rX7_bestWay_51, rX7_bestWay_54, rX7_bestWay_55, rX7_bestWay_56, rX7_bestWay_62, rX7_bestWay_63, fin_0_2 F, fin_0_3 F, fin_0_4 F, fin_0_5 F, fin_0_6 F, fin_0_7 F, kA_0, kB_0, kA_37, kB_37, pCX7_bestWay, pSX7_bestWay, pOX7_bestWay, pLX7_bestWay, a7, Int32.le_refl, bwL, kl_I, kl_J, kl_R, kl_T, kl_N, Nat.le_refl, Nat.zero_le, List.map_nil, List.map_cons, List.sum_nil, List.sum_cons, c_I, c_J, c_R, c_T, va_rf, hI_wI, hJ_wJ, hR_wR, hI_J, hI_R, hJ_I, hJ_R, hR_I, hR_J, hN_I, hN_J, hN_R, wI_I, wJ_J, upd_at, updL_at, kR_s, Option.toList, List.append_nil, List.nil_append, List.cons_append, if_true, if_false, reduceIte, Bool.false_eq_true, not_true_eq_false, not_false_eq_true, true_and, and_true, false_and, and_false, true_or, or_true,  Nat.reduceEqDiff, Nat.reduceAdd, Nat.reduceLeDiff]
  | succ k ih =>
    intro i hi bo hb
    have hl : i < (gW (sA S) (sX S)).length := by omega
    have hl2 : bo < (gW (sA S) (sX S)).length := by omega
    have g1 : ¬ nI (gW (sA S) (sX S)).length ≤ nI i := nI_ge hl (by omega)
    have pb := gW_in ww tb (getD_in (x := (0, 0)) hl)
    have pb2 := gW_in ww tb (getD_in (x := (0, 0)) hl2)
    have o1 : ∀ Q, WM (d + 2) mX6_burntOf [.ref (37 : Nat), .int (nI i)] h Q = Q (some (some (.int (nI (wbN S i))))) h := c_burntOf (d := d) F r2 w b (aw i hl) (by omega) pb.1 pb.2
    have o2 : ∀ Q, WM (d + 2) mX6_burntOf [.ref (37 : Nat), .int (nI bo)] h Q = Q (some (some (.int (nI (wbN S bo))))) h := c_burntOf (d := d) F r2 w b (aw bo hl2) (by omega) pb2.1 pb2.2
    have l1 : wbN S i ≤ 6 := popc_le 6 _
    have l2 : wbN S bo ≤ 6 := popc_le 6 _
    have q : (nI (wbN S bo) ≤ nI (wbN S i)) = (wbN S bo ≤ wbN S i) := propext (nI_leI (by omega) (by omega))
    rw [bwL]
    by_cases c : wbN S i < wbN S bo
    · rw [if_pos c]
      simp (implicitDefEqProofs := false) only [rX7_bestWay_24, rX7_bestWay_25, rX7_bestWay_25b, rX7_bestWay_26, rX7_bestWay_29, rX7_bestWay_32, rX7_bestWay_35, rX7_bestWay_35b, rX7_bestWay_36, rX7_bestWay_39, rX7_bestWay_40, rX7_bestWay_43, rX7_bestWay_43b, rX7_bestWay_44, rX7_bestWay_47, rX7_bestWay_48, rX7_bestWay_51, rX7_bestWay_54, rX7_bestWay_55, rX7_bestWay_56, fin_0_2 F, fin_0_3 F, fin_0_4 F, fin_0_5 F, fin_0_6 F, fin_0_7 F, kA_0, kB_0, kA_37, kB_37, pCX7_bestWay, pSX7_bestWay, pOX7_bestWay, pLX7_bestWay, pCX6_burntOf, pSX6_burntOf, pOX6_burntOf, pLX6_burntOf, a7, g1, o1, o2, q, show ¬ wbN S bo ≤ wbN S i from by omega, kl_I, kl_J, kl_R, kl_T, kl_N, Nat.le_refl, Nat.zero_le, List.map_nil, List.map_cons, List.sum_nil, List.sum_cons, c_I, c_J, c_R, c_T, va_rf, hI_wI, hJ_wJ, hR_wR, hI_J, hI_R, hJ_I, hJ_R, hR_I, hR_J, hN_I, hN_J, hN_R, wI_I, wJ_J, upd_at, updL_at, kR_s, Option.toList, List.append_nil, List.nil_append, List.cons_append, if_true, if_false, reduceIte, Bool.false_eq_true, not_true_eq_false, not_false_eq_true, true_and, and_true, false_and, and_false, true_or, or_true,  Nat.reduceEqDiff, Nat.reduceAdd, Nat.reduceLeDiff]
      rw [rX7_bestWay_59, nI_1]
      exact ih (i + 1) (by omega) i (by omega)
    · rw [if_neg c]
      simp (implicitDefEqProofs := false) only [rX7_bestWay_24, rX7_bestWay_25, rX7_bestWay_25b, rX7_bestWay_26, rX7_bestWay_29, rX7_bestWay_32, rX7_bestWay_35, rX7_bestWay_35b, rX7_bestWay_36, rX7_bestWay_39, rX7_bestWay_40, rX7_bestWay_43, rX7_bestWay_43b, rX7_bestWay_44, rX7_bestWay_47, rX7_bestWay_48, rX7_bestWay_51, rX7_bestWay_54, rX7_bestWay_55, rX7_bestWay_56, fin_0_2 F, fin_0_3 F, fin_0_4 F, fin_0_5 F, fin_0_6 F, fin_0_7 F, kA_0, kB_0, kA_37, kB_37, pCX7_bestWay, pSX7_bestWay, pOX7_bestWay, pLX7_bestWay, pCX6_burntOf, pSX6_burntOf, pOX6_burntOf, pLX6_burntOf, a7, g1, o1, o2, q, show wbN S bo ≤ wbN S i from by omega, kl_I, kl_J, kl_R, kl_T, kl_N, Nat.le_refl, Nat.zero_le, List.map_nil, List.map_cons, List.sum_nil, List.sum_cons, c_I, c_J, c_R, c_T, va_rf, hI_wI, hJ_wJ, hR_wR, hI_J, hI_R, hJ_I, hJ_R, hR_I, hR_J, hN_I, hN_J, hN_R, wI_I, wJ_J, upd_at, updL_at, kR_s, Option.toList, List.append_nil, List.nil_append, List.cons_append, if_true, if_false, reduceIte, Bool.false_eq_true, not_true_eq_false, not_false_eq_true, true_and, and_true, false_and, and_false, true_or, or_true,  Nat.reduceEqDiff, Nat.reduceAdd, Nat.reduceLeDiff]
      rw [rX7_bestWay_59, nI_1]
      exact ih (i + 1) (by omega) bo (by omega)
theorem goN_pos {a : aS} {wi : Nat} : ∀ (ys : List Nat) (r t g : Nat), 0 < (goN a wi ys r t g).length
  | [], _, _, _ => by simp [goN]
  | y :: ys, r, t, g => by
    rw [goN]
    by_cases c : agN a t wi y = 0
    · rw [if_pos c]; exact goN_pos ys _ _ _
    · rw [if_neg c]
      have ⟨x, hx, h1⟩ : ∃ x, x < aN a ∧ (agN a t wi y).testBit x = true := by
        obtain ⟨x, hx⟩ := Nat.exists_testBit_of_ne_zero c
        refine ⟨x, ?_, hx⟩
        have := bm_bit (agP a t wi y) (aN a) x
        unfold agN at hx
        rw [this] at hx
        simp at hx
        exact hx.1
      have h2 := goN_pos (a := a) (wi := wi) ys (r + 1) (t ||| 2 ^ x) (g ||| (x + 1) * 2 ^ (4 * r))
      obtain ⟨p, hp⟩ := List.exists_mem_of_length_pos h2
      refine List.length_pos_of_mem (a := p) (List.mem_flatMap.mpr ⟨x, List.mem_range.mpr hx, ?_⟩)
      rw [if_pos h1]
      exact hp
theorem q_bestWay {d : Nat} {h : qH} {S : AS} (I : CI h S) : qy (d + 10) mX7_bestWay [.ref (0 : Nat)] h S (sBestWay S).1 (some (.int (sBestWay S).2)) := by
  obtain ⟨s, tu, F, ⟨r0, r1, r2⟩, w, b, k, st, wc, gc, ⟨tbx, tbp, tbm⟩, tp, e8, e9, ep⟩ := id I
  obtain ⟨e0, e1, e2, e4, e5, e7⟩ := st.2.1
  have hs := w.1
  have ww := w.2.1
  have w3 := w.2.2.1
  have n6 := ww.1
  have p64 := p6 n6
  have bx := st.1
  have F1 : Fin0 (hR (tr h 0)) := F
  have w1 : cS (tr h 0) s (sA S) := cS_tr w
  have b1 : bT (tr h 0) (sA S) := bT_sx b tr_sx (by simp)
  have hf1 : hR (tr h 0) 32 0 = some s := r2
  have ns := c_noStreet (d := d + 8) r0 w
  by_cases c1 : aN (sA S) = 0
  · rw [sBestWay, if_pos c1]
    exact qy_tr (v := 1) I (by decide) (fun Q => by
      simp (implicitDefEqProofs := false) only [eX7_bestWay, rX7_bestWay_0, rX7_bestWay_0b, rX7_bestWay_1, rX7_bestWay_4, rX7_bestWay_7, rX7_bestWay_8, kS0 hs, kS1 hs, kT1 hs, fS1 hs F, kS2 hs, kT2 hs, fS2 hs F, kS3 hs, kT3 hs, fS3 hs F, kS4 hs, kT4 hs, fS4 hs F, kS5 hs, kT5 hs, fS5 hs F, kS6 hs, kT6 hs, fS6 hs F, kS7 hs, kT7 hs, fS7 hs F, kS8 hs, kT8 hs, fS8 hs F, kS9 hs, kT9 hs, fS9 hs F, kS10 hs, kT10 hs, fS10 hs F, kS11 hs, kT11 hs, fS11 hs F, nS hs, nSs hs, fin_0_2 F, fin_0_3 F, fin_0_4 F, fin_0_5 F, fin_0_6 F, fin_0_7 F, kA_0, kB_0, r0, r2, e0, e1, e2, pCX7_bestWay, pSX7_bestWay, pOX7_bestWay, pLX7_bestWay, pCX7_noStreet, pSX7_noStreet, pOX7_noStreet, pLX7_noStreet, pCX7_noHouse, pSX7_noHouse, pOX7_noHouse, pLX7_noHouse, pCX7_outside, pSX7_outside, pOX7_outside, pLX7_outside, pCX7_refuse, pSX7_refuse, pOX7_refuse, pLX7_refuse, ns, c1, show nI 1 = 1 from rfl, nI_0, decide_true, decide_false, bI_t, bI_f, reduceCtorEq, or_self, show ¬ (1 : Int32) = 0 from by decide, tr_R, tr_tr, tr_25, tr_26, tr_27, tr_28, tr_29, tr_30, tr_31, tr_32, tr_33, tr_34, tr_35, tr_36, tr_37, tr_38, tr_39, tr_40, tr_41, tr_42, tr_43, tr_s hs, tr_s1 hs, tr_s2 hs, tr_s3 hs, tr_s4 hs, tr_s5 hs, tr_s6 hs, tr_s7 hs, tr_s8 hs, tr_s9 hs, tr_s10 hs, tr_s11 hs, kl_I, kl_J, kl_R, kl_T, kl_N, Nat.le_refl, Nat.zero_le, List.map_nil, List.map_cons, List.sum_nil, List.sum_cons, c_I, c_J, c_R, c_T, va_rf, hI_wI, hJ_wJ, hR_wR, hI_J, hI_R, hJ_I, hJ_R, hR_I, hR_J, hN_I, hN_J, hN_R, wI_I, wJ_J, upd_at, updL_at, kR_s, Option.toList, List.append_nil, List.nil_append, List.cons_append, if_true, if_false, reduceIte, Bool.false_eq_true, not_true_eq_false, not_false_eq_true, true_and, and_true, false_and, and_false, true_or, or_true,  Nat.reduceEqDiff, Nat.reduceAdd, Nat.reduceLeDiff])
  · rw [sBestWay, if_neg c1]
    obtain ⟨h1, m1, m2, m3⟩ := c_wMake (d := d + 1) (x := sX S) F1 hf1 w1 b1 (wC_sx wc tr_sx (by simp) (by simp)) tbx.1 bx (by rw [tr_29]; exact e0) (by rw [tr_29]; exact e1) (by rw [tr_29]; exact e2)
    have FF : Fin0 (hR h1) := Fin_sx F1 m2
    have wq : wC h1 (sA S) := .inr ⟨_, m3⟩
    have kq : cC h1 (sA S) := cC_sx (cC_sx k tr_sx (by simp) (by simp)) m2 (by simp) (by simp)
    have gq : gC h1 (sA S) := gC_sx (gC_sx gc tr_sx (by simp) (by simp) (by simp)) m2 (by simp) (by simp) (by simp)
    obtain ⟨z1, z2, z3, z4, z5, a7, a8, a9, a64, aw⟩ := id m3
    have gp : 0 < (gW (sA S) (sX S)).length := goN_pos _ _ _ _
    exact qy_m0 I (fun Q => by
      have l := l_bestWay (d := d + 7) (Q := Q) FF (by rw [m2.1]; exact r2) (cS_sx w1 m2 (by simp)) (bT_sx b1 m2 (by simp)) tbx.1 m3 ((gW (sA S) (sX S)).length - 1) 1 (by omega) 0 (by omega)
      rw [nI_0, show nI 1 = 1 from rfl] at l
      simp (implicitDefEqProofs := false) only [eX7_bestWay, rX7_bestWay_0, rX7_bestWay_0b, rX7_bestWay_1, rX7_bestWay_4, rX7_bestWay_7, rX7_bestWay_8, rX7_bestWay_9, rX7_bestWay_9b, rX7_bestWay_10, rX7_bestWay_13, rX7_bestWay_13b, rX7_bestWay_14, rX7_bestWay_17, rX7_bestWay_20, rX7_bestWay_21, rX7_bestWay_22, rX7_bestWay_23, kS0 hs, kS1 hs, kT1 hs, fS1 hs F, kS2 hs, kT2 hs, fS2 hs F, kS3 hs, kT3 hs, fS3 hs F, kS4 hs, kT4 hs, fS4 hs F, kS5 hs, kT5 hs, fS5 hs F, kS6 hs, kT6 hs, fS6 hs F, kS7 hs, kT7 hs, fS7 hs F, kS8 hs, kT8 hs, fS8 hs F, kS9 hs, kT9 hs, fS9 hs F, kS10 hs, kT10 hs, fS10 hs F, kS11 hs, kT11 hs, fS11 hs F, nS hs, nSs hs, fin_0_2 F, fin_0_3 F, fin_0_4 F, fin_0_5 F, fin_0_6 F, fin_0_7 F, fin_0_2 FF, fin_0_3 FF, fin_0_4 FF, fin_0_5 FF, fin_0_6 FF, fin_0_7 FF, kA_0, kB_0, kA_29, kB_29, kA_37, kB_37, r0, r2, e0, e1, e2, pCX7_bestWay, pSX7_bestWay, pOX7_bestWay, pLX7_bestWay, pCX7_noStreet, pSX7_noStreet, pOX7_noStreet, pLX7_noStreet, pCX7_noHouse, pSX7_noHouse, pOX7_noHouse, pLX7_noHouse, pCX7_outside, pSX7_outside, pOX7_outside, pLX7_outside, pCX7_refuse, pSX7_refuse, pOX7_refuse, pLX7_refuse, pCX6_make, pSX6_make, pOX6_make, pLX6_make, ns, c1, m1, nI_0, decide_true, decide_false, bI_t, bI_f, reduceCtorEq, or_self, show ¬ (1 : Int32) = 0 from by decide, tr_R, tr_tr, tr_25, tr_26, tr_27, tr_28, tr_29, tr_30, tr_31, tr_32, tr_33, tr_34, tr_35, tr_36, tr_37, tr_38, tr_39, tr_40, tr_41, tr_42, tr_43, tr_s hs, tr_s1 hs, tr_s2 hs, tr_s3 hs, tr_s4 hs, tr_s5 hs, tr_s6 hs, tr_s7 hs, tr_s8 hs, tr_s9 hs, tr_s10 hs, tr_s11 hs, kl_I, kl_J, kl_R, kl_T, kl_N, Nat.le_refl, Nat.zero_le, List.map_nil, List.map_cons, List.sum_nil, List.sum_cons, c_I, c_J, c_R, c_T, va_rf, hI_wI, hJ_wJ, hR_wR, hI_J, hI_R, hJ_I, hJ_R, hR_I, hR_J, hN_I, hN_J, hN_R, wI_I, wJ_J, upd_at, updL_at, kR_s, Option.toList, List.append_nil, List.nil_append, List.cons_append, if_true, if_false, reduceIte, Bool.false_eq_true, not_true_eq_false, not_false_eq_true, true_and, and_true, false_and, and_false, true_or, or_true,  Nat.reduceEqDiff, Nat.reduceAdd, Nat.reduceLeDiff]
      exact l) m2 (by simp) kq wq gq
