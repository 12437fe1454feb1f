/-! ===== what a call answers ===== -/
theorem tr_25 {h : qH} {v : Int32} : hI (tr h v) 25 = hI h 25 := tr_I (by decide)
theorem tr_26 {h : qH} {v : Int32} : hI (tr h v) 26 = hI h 26 := tr_I (by decide)
theorem tr_27 {h : qH} {v : Int32} : hI (tr h v) 27 = hI h 27 := tr_I (by decide)
theorem tr_28 {h : qH} {v : Int32} : hI (tr h v) 28 = hI h 28 := tr_I (by decide)
theorem tr_29 {h : qH} {v : Int32} : hI (tr h v) 29 = hI h 29 := tr_I (by decide)
theorem tr_30 {h : qH} {v : Int32} : hI (tr h v) 30 = hI h 30 := tr_I (by decide)
theorem tr_31 {h : qH} {v : Int32} : hI (tr h v) 31 = hI h 31 := tr_I (by decide)
theorem tr_32 {h : qH} {v : Int32} : hI (tr h v) 32 = hI h 32 := tr_I (by decide)
theorem tr_33 {h : qH} {v : Int32} : hI (tr h v) 33 = hI h 33 := tr_I (by decide)
theorem tr_34 {h : qH} {v : Int32} : hI (tr h v) 34 = hI h 34 := tr_I (by decide)
theorem tr_35 {h : qH} {v : Int32} : hI (tr h v) 35 = hI h 35 := tr_I (by decide)
theorem tr_36 {h : qH} {v : Int32} : hI (tr h v) 36 = hI h 36 := tr_I (by decide)
theorem tr_37 {h : qH} {v : Int32} : hI (tr h v) 37 = hI h 37 := tr_I (by decide)
theorem tr_38 {h : qH} {v : Int32} : hI (tr h v) 38 = hI h 38 := tr_I (by decide)
theorem tr_39 {h : qH} {v : Int32} : hI (tr h v) 39 = hI h 39 := tr_I (by decide)
theorem tr_40 {h : qH} {v : Int32} : hI (tr h v) 40 = hI h 40 := tr_I (by decide)
theorem tr_41 {h : qH} {v : Int32} : hI (tr h v) 41 = hI h 41 := tr_I (by decide)
theorem tr_42 {h : qH} {v : Int32} : hI (tr h v) 42 = hI h 42 := tr_I (by decide)
theorem tr_43 {h : qH} {v : Int32} : hI (tr h v) 43 = hI h 43 := tr_I (by decide)
theorem tr_s {h : qH} {v : Int32} {s : Nat} (hs : s = 1 ∨ s = 13) : hI (tr h v) s = hI h s := tr_I (by omega)
theorem tr_s1 {h : qH} {v : Int32} {s : Nat} (hs : s = 1 ∨ s = 13) : hI (tr h v) (s + 1) = hI h (s + 1) := tr_I (by omega)
theorem tr_s2 {h : qH} {v : Int32} {s : Nat} (hs : s = 1 ∨ s = 13) : hI (tr h v) (s + 2) = hI h (s + 2) := tr_I (by omega)
theorem tr_s3 {h : qH} {v : Int32} {s : Nat} (hs : s = 1 ∨ s = 13) : hI (tr h v) (s + 3) = hI h (s + 3) := tr_I (by omega)
theorem tr_s4 {h : qH} {v : Int32} {s : Nat} (hs : s = 1 ∨ s = 13) : hI (tr h v) (s + 4) = hI h (s + 4) := tr_I (by omega)
theorem tr_s5 {h : qH} {v : Int32} {s : Nat} (hs : s = 1 ∨ s = 13) : hI (tr h v) (s + 5) = hI h (s + 5) := tr_I (by omega)
theorem tr_s6 {h : qH} {v : Int32} {s : Nat} (hs : s = 1 ∨ s = 13) : hI (tr h v) (s + 6) = hI h (s + 6) := tr_I (by omega)
theorem tr_s7 {h : qH} {v : Int32} {s : Nat} (hs : s = 1 ∨ s = 13) : hI (tr h v) (s + 7) = hI h (s + 7) := tr_I (by omega)
theorem tr_s8 {h : qH} {v : Int32} {s : Nat} (hs : s = 1 ∨ s = 13) : hI (tr h v) (s + 8) = hI h (s + 8) := tr_I (by omega)
theorem tr_s9 {h : qH} {v : Int32} {s : Nat} (hs : s = 1 ∨ s = 13) : hI (tr h v) (s + 9) = hI h (s + 9) := tr_I (by omega)
theorem tr_s10 {h : qH} {v : Int32} {s : Nat} (hs : s = 1 ∨ s = 13) : hI (tr h v) (s + 10) = hI h (s + 10) := tr_I (by omega)
theorem tr_s11 {h : qH} {v : Int32} {s : Nat} (hs : s = 1 ∨ s = 13) : hI (tr h v) (s + 11) = hI h (s + 11) := tr_I (by omega)
theorem dy {y : Int32} (h : ¬ (y < 0 ∨ 90 < y)) : ∃ i, i ≤ 90 ∧ y = nI i := nI_of2 (n := 90) rfl (fun q => h (.inl q)) (Int32.not_lt.mp (fun q => h (.inr q)))
theorem dy2 {y : Int32} {n : Nat} (hn : n ≤ 90) (h : ¬ (y < nI n ∨ 90 < y)) : ∃ i, n ≤ i ∧ i ≤ 90 ∧ y = nI i := by
  have h1 : nI n ≤ y := Int32.not_lt.mp (fun q => h (.inl q))
  have h0 : ¬ y < 0 := Int32.not_lt.mpr (Int32.le_trans (nI_pos' (by omega)) h1)
  obtain ⟨i, hi, rfl⟩ := nI_of2 (M := 90) (n := 90) rfl h0 (Int32.not_lt.mp (fun q => h (.inr q)))
  exact ⟨i, (nI_leI (by omega) (by omega)).mp h1, hi, rfl⟩
def shN (y : Nat) : Option Nat := if 1000 ≤ y then none else some y
theorem q_fault {d : Nat} {h : qH} {S : AS} (I : CI h S) : ∀ Q, WM d mX7_fault [.ref (0 : Nat)] h Q = Q (some (some (.int (nI (sF S))))) h := by
  intro Q
  obtain ⟨s, tu, F, r, w, b, k, st, wc, gc, tb, tp, e8, e9, ep⟩ := I
  simp (implicitDefEqProofs := false) only [eX7_fault, rX7_fault_0, rX7_fault_0b, rX7_fault_1, rX7_fault_4, kA_0, kB_0, pCX7_fault, pSX7_fault, pOX7_fault, pLX7_fault, e8, kl_I, kl_J, kl_R, kl_T, kl_N, Nat.le_refl, Nat.zero_le, List.map_nil, List.map_cons, List.sum_nil, List.sum_cons, c_I, c_J, c_R, c_T, va_rf, hI_wI, hJ_wJ, hR_wR, hI_J, hI_R, hJ_I, hJ_R, hR_I, hR_J, hN_I, hN_J, hN_R, wI_I, wJ_J, upd_at, updL_at, kR_s, Option.toList, List.append_nil, List.nil_append, List.cons_append, if_true, if_false, reduceIte, Bool.false_eq_true, not_true_eq_false, not_false_eq_true, true_and, and_true, false_and, and_false, true_or, or_true,  Nat.reduceEqDiff, Nat.reduceAdd, Nat.reduceLeDiff]
theorem q_trouble {d : Nat} {h : qH} {S : AS} (I : CI h S) : ∀ Q, WM d mX7_trouble [.ref (0 : Nat)] h Q = Q (some (some (.int (nI (sTr S))))) h := by
  intro Q
  obtain ⟨s, tu, F, r, w, b, k, st, wc, gc, tb, tp, e8, e9, ep⟩ := I
  simp (implicitDefEqProofs := false) only [eX7_trouble, rX7_trouble_0, rX7_trouble_0b, rX7_trouble_1, rX7_trouble_4, kA_0, kB_0, pCX7_trouble, pSX7_trouble, pOX7_trouble, pLX7_trouble, e9, kl_I, kl_J, kl_R, kl_T, kl_N, Nat.le_refl, Nat.zero_le, List.map_nil, List.map_cons, List.sum_nil, List.sum_cons, c_I, c_J, c_R, c_T, va_rf, hI_wI, hJ_wJ, hR_wR, hI_J, hI_R, hJ_I, hJ_R, hR_I, hR_J, hN_I, hN_J, hN_R, wI_I, wJ_J, upd_at, updL_at, kR_s, Option.toList, List.append_nil, List.nil_append, List.cons_append, if_true, if_false, reduceIte, Bool.false_eq_true, not_true_eq_false, not_false_eq_true, true_and, and_true, false_and, and_false, true_or, or_true,  Nat.reduceEqDiff, Nat.reduceAdd, Nat.reduceLeDiff]
theorem q_where {d : Nat} {h : qH} {S : AS} (I : CI h S) (ht : sTr S < 7) : ∀ Q, WM d mX7_where [.ref (0 : Nat)] h Q = Q (some (some (.int (if sTr S = 4 then nI (sPl S) else -1)))) h := by
  intro Q
  obtain ⟨s, tu, F, r, w, b, k, st, wc, gc, tb, tp, e8, e9, ep⟩ := I
  have q : (nI (sTr S) = 4) = (sTr S = 4) := nq (x := sTr S) (k := 4) (c := 4) rfl (by omega) (by omega)
  by_cases c : sTr S = 4
  · simp (implicitDefEqProofs := false) only [eX7_where, rX7_where_0, rX7_where_0b, rX7_where_1, rX7_where_4, rX7_where_5, rX7_where_8, rX7_where_8b, rX7_where_9, rX7_where_12, rX7_where_15, rX7_where_18, rX7_where_19, fin_0_2 F, fin_0_3 F, fin_0_4 F, fin_0_5 F, fin_0_6 F, fin_0_7 F, kA_0, kB_0, kA_27, kB_27, pCX7_where, pSX7_where, pOX7_where, pLX7_where, e9, q, c, ep c, show nI 4 = 4 from rfl, kl_I, kl_J, kl_R, kl_T, kl_N, Nat.le_refl, Nat.zero_le, List.map_nil, List.map_cons, List.sum_nil, List.sum_cons, c_I, c_J, c_R, c_T, va_rf, hI_wI, hJ_wJ, hR_wR, hI_J, hI_R, hJ_I, hJ_R, hR_I, hR_J, hN_I, hN_J, hN_R, wI_I, wJ_J, upd_at, updL_at, kR_s, Option.toList, List.append_nil, List.nil_append, List.cons_append, if_true, if_false, reduceIte, Bool.false_eq_true, not_true_eq_false, not_false_eq_true, true_and, and_true, false_and, and_false, true_or, or_true,  Nat.reduceEqDiff, Nat.reduceAdd, Nat.reduceLeDiff]
  · simp (implicitDefEqProofs := false) only [eX7_where, rX7_where_0, rX7_where_0b, rX7_where_1, rX7_where_4, rX7_where_5, rX7_where_8, rX7_where_8b, rX7_where_9, rX7_where_12, rX7_where_15, rX7_where_18, rX7_where_19, fin_0_2 F, fin_0_3 F, fin_0_4 F, fin_0_5 F, fin_0_6 F, fin_0_7 F, kA_0, kB_0, kA_27, kB_27, pCX7_where, pSX7_where, pOX7_where, pLX7_where, e9, q, c, kl_I, kl_J, kl_R, kl_T, kl_N, Nat.le_refl, Nat.zero_le, List.map_nil, List.map_cons, List.sum_nil, List.sum_cons, c_I, c_J, c_R, c_T, va_rf, hI_wI, hJ_wJ, hR_wR, hI_J, hI_R, hJ_I, hJ_R, hR_I, hR_J, hN_I, hN_J, hN_R, wI_I, wJ_J, upd_at, updL_at, kR_s, Option.toList, List.append_nil, List.nil_append, List.cons_append, if_true, if_false, reduceIte, Bool.false_eq_true, not_true_eq_false, not_false_eq_true, true_and, and_true, false_and, and_false, true_or, or_true,  Nat.reduceEqDiff, Nat.reduceAdd, Nat.reduceLeDiff]
noncomputable def sBurns (S : AS) (y : Int32) : Nat × Int32 := match ix y (aN (sA S)) with
  | none => (1, -1)
  | some i => (0, oI (shN (dayN (sA S) (sX S).1 i)))
theorem q_burns {d : Nat} {h : qH} {S : AS} {y : Int32} (I : CI h S) : qy (d + 10) mX7_burns [.ref (0 : Nat), .int y] h S (sBurns S y).1 (some (.int (sBurns S y).2)) := by
  obtain ⟨s, tu, F, ⟨r0, r1, r2⟩, w, b, k, st, wc, gc, ⟨tbx, tbp, tbm⟩, tp, e8, e9, ep⟩ := id I
  obtain ⟨e0, e1, e2, e4, e5, e7⟩ := st.2.1
  have hs := w.1
  have ww := w.2.1
  have w3 := w.2.2.1
  have n6 := ww.1
  have p64 := p6 n6
  have bx := st.1
  have F1 : Fin0 (hR (tr h 0)) := F
  have w1 : cS (tr h 0) s (sA S) := cS_tr w
  have b1 : bT (tr h 0) (sA S) := bT_sx b tr_sx (by simp)
  have hf1 : hR (tr h 0) 32 0 = some s := r2
  have ns := c_noStreet (d := d + 8) r0 w
  have nh := c_noHouse (d := d + 8) (y := y) r0 w
  rw [sBurns]
  cases c1 : ix y (aN (sA S)) with
  | none => exact qy_tr (v := 1) I (by decide) (fun Q => by
      simp (implicitDefEqProofs := false) only [eX7_burns, rX7_burns_0, rX7_burns_0b, rX7_burns_1, rX7_burns_2, rX7_burns_5, rX7_burns_8, rX7_burns_9, kS0 hs, kS1 hs, kT1 hs, fS1 hs F, kS2 hs, kT2 hs, fS2 hs F, kS3 hs, kT3 hs, fS3 hs F, kS4 hs, kT4 hs, fS4 hs F, kS5 hs, kT5 hs, fS5 hs F, kS6 hs, kT6 hs, fS6 hs F, kS7 hs, kT7 hs, fS7 hs F, kS8 hs, kT8 hs, fS8 hs F, kS9 hs, kT9 hs, fS9 hs F, kS10 hs, kT10 hs, fS10 hs F, kS11 hs, kT11 hs, fS11 hs F, nS hs, nSs hs, fin_0_2 F, fin_0_3 F, fin_0_4 F, fin_0_5 F, fin_0_6 F, fin_0_7 F, kA_0, kB_0, r0, r2, e0, e1, e2, pCX7_burns, pSX7_burns, pOX7_burns, pLX7_burns, pCX7_noStreet, pSX7_noStreet, pOX7_noStreet, pLX7_noStreet, pCX7_noHouse, pSX7_noHouse, pOX7_noHouse, pLX7_noHouse, pCX7_outside, pSX7_outside, pOX7_outside, pLX7_outside, pCX7_refuse, pSX7_refuse, pOX7_refuse, pLX7_refuse, nh, c1, show nI 1 = 1 from rfl, nI_0, decide_true, decide_false, bI_t, bI_f, reduceCtorEq, or_self, show ¬ (1 : Int32) = 0 from by decide, tr_R, tr_tr, tr_25, tr_26, tr_27, tr_28, tr_29, tr_30, tr_31, tr_32, tr_33, tr_34, tr_35, tr_36, tr_37, tr_38, tr_39, tr_40, tr_41, tr_42, tr_43, tr_s hs, tr_s1 hs, tr_s2 hs, tr_s3 hs, tr_s4 hs, tr_s5 hs, tr_s6 hs, tr_s7 hs, tr_s8 hs, tr_s9 hs, tr_s10 hs, tr_s11 hs, kl_I, kl_J, kl_R, kl_T, kl_N, Nat.le_refl, Nat.zero_le, List.map_nil, List.map_cons, List.sum_nil, List.sum_cons, c_I, c_J, c_R, c_T, va_rf, hI_wI, hJ_wJ, hR_wR, hI_J, hI_R, hJ_I, hJ_R, hR_I, hR_J, hN_I, hN_J, hN_R, wI_I, wJ_J, upd_at, updL_at, kR_s, Option.toList, List.append_nil, List.nil_append, List.cons_append, if_true, if_false, reduceIte, Bool.false_eq_true, not_true_eq_false, not_false_eq_true, true_and, and_true, false_and, and_false, true_or, or_true,  Nat.reduceEqDiff, Nat.reduceAdd, Nat.reduceLeDiff])
  | some i =>
    obtain ⟨rfl, hi⟩ := ix_s (by omega) c1
    have dl := dayN_le ww (t := (sX S).1) i
    have dd := c_dayOf (d := d + 9) F1 ww b1 tbx.1 hi
    have ds := c_shown (d := d + 9) (h := tr h 0) (y := dayN (sA S) (sX S).1 i) (by omega)
    exact qy_tr (v := 0) I (by decide) (fun Q => by
      simp (implicitDefEqProofs := false) only [eX7_burns, rX7_burns_0, rX7_burns_0b, rX7_burns_1, rX7_burns_2, rX7_burns_5, rX7_burns_8, rX7_burns_9, rX7_burns_10, rX7_burns_10b, rX7_burns_11, rX7_burns_14, rX7_burns_14b, rX7_burns_15, rX7_burns_18, rX7_burns_21, rX7_burns_22, rX7_burns_25, rX7_burns_28, kS0 hs, kS1 hs, kT1 hs, fS1 hs F, kS2 hs, kT2 hs, fS2 hs F, kS3 hs, kT3 hs, fS3 hs F, kS4 hs, kT4 hs, fS4 hs F, kS5 hs, kT5 hs, fS5 hs F, kS6 hs, kT6 hs, fS6 hs F, kS7 hs, kT7 hs, fS7 hs F, kS8 hs, kT8 hs, fS8 hs F, kS9 hs, kT9 hs, fS9 hs F, kS10 hs, kT10 hs, fS10 hs F, kS11 hs, kT11 hs, fS11 hs F, nS hs, nSs hs, fin_0_2 F, fin_0_3 F, fin_0_4 F, fin_0_5 F, fin_0_6 F, fin_0_7 F, kA_0, kB_0, kA_29, kB_29, kA_32, kB_32, r0, r2, e0, e1, e2, pCX7_burns, pSX7_burns, pOX7_burns, pLX7_burns, pCX7_noStreet, pSX7_noStreet, pOX7_noStreet, pLX7_noStreet, pCX7_noHouse, pSX7_noHouse, pOX7_noHouse, pLX7_noHouse, pCX7_outside, pSX7_outside, pOX7_outside, pLX7_outside, pCX7_refuse, pSX7_refuse, pOX7_refuse, pLX7_refuse, pCX0_dayOf, pSX0_dayOf, pOX0_dayOf, pLX0_dayOf, pCX7_shown, pSX7_shown, pOX7_shown, pLX7_shown, nh, c1, dd, ds, shN, nI_0, decide_true, decide_false, bI_t, bI_f, reduceCtorEq, or_self, show ¬ (1 : Int32) = 0 from by decide, tr_R, tr_tr, tr_25, tr_26, tr_27, tr_28, tr_29, tr_30, tr_31, tr_32, tr_33, tr_34, tr_35, tr_36, tr_37, tr_38, tr_39, tr_40, tr_41, tr_42, tr_43, tr_s hs, tr_s1 hs, tr_s2 hs, tr_s3 hs, tr_s4 hs, tr_s5 hs, tr_s6 hs, tr_s7 hs, tr_s8 hs, tr_s9 hs, tr_s10 hs, tr_s11 hs, kl_I, kl_J, kl_R, kl_T, kl_N, Nat.le_refl, Nat.zero_le, List.map_nil, List.map_cons, List.sum_nil, List.sum_cons, c_I, c_J, c_R, c_T, va_rf, hI_wI, hJ_wJ, hR_wR, hI_J, hI_R, hJ_I, hJ_R, hR_I, hR_J, hN_I, hN_J, hN_R, wI_I, wJ_J, upd_at, updL_at, kR_s, Option.toList, List.append_nil, List.nil_append, List.cons_append, if_true, if_false, reduceIte, Bool.false_eq_true, not_true_eq_false, not_false_eq_true, true_and, and_true, false_and, and_false, true_or, or_true,  Nat.reduceEqDiff, Nat.reduceAdd, Nat.reduceLeDiff])
noncomputable def sLitBy (S : AS) (y : Int32) : Nat × Int32 := match ix y (aN (sA S)) with
  | none => (1, -1)
  | some i => (0, oI (liN (sA S) (sX S).1 i))
theorem q_litBy {d : Nat} {h : qH} {S : AS} {y : Int32} (I : CI h S) : qy (d + 10) mX7_litBy [.ref (0 : Nat), .int y] h S (sLitBy S y).1 (some (.int (sLitBy S y).2)) := by
  obtain ⟨s, tu, F, ⟨r0, r1, r2⟩, w, b, k, st, wc, gc, ⟨tbx, tbp, tbm⟩, tp, e8, e9, ep⟩ := id I
  obtain ⟨e0, e1, e2, e4, e5, e7⟩ := st.2.1
  have hs := w.1
  have ww := w.2.1
  have w3 := w.2.2.1
  have n6 := ww.1
  have p64 := p6 n6
  have bx := st.1
  have F1 : Fin0 (hR (tr h 0)) := F
  have w1 : cS (tr h 0) s (sA S) := cS_tr w
  have b1 : bT (tr h 0) (sA S) := bT_sx b tr_sx (by simp)
  have hf1 : hR (tr h 0) 32 0 = some s := r2
  have ns := c_noStreet (d := d + 8) r0 w
  have nh := c_noHouse (d := d + 8) (y := y) r0 w
  rw [sLitBy]
  cases c1 : ix y (aN (sA S)) with
  | none => exact qy_tr (v := 1) I (by decide) (fun Q => by
      simp (implicitDefEqProofs := false) only [eX7_litBy, rX7_litBy_0, rX7_litBy_0b, rX7_litBy_1, rX7_litBy_2, rX7_litBy_5, rX7_litBy_8, rX7_litBy_9, kS0 hs, kS1 hs, kT1 hs, fS1 hs F, kS2 hs, kT2 hs, fS2 hs F, kS3 hs, kT3 hs, fS3 hs F, kS4 hs, kT4 hs, fS4 hs F, kS5 hs, kT5 hs, fS5 hs F, kS6 hs, kT6 hs, fS6 hs F, kS7 hs, kT7 hs, fS7 hs F, kS8 hs, kT8 hs, fS8 hs F, kS9 hs, kT9 hs, fS9 hs F, kS10 hs, kT10 hs, fS10 hs F, kS11 hs, kT11 hs, fS11 hs F, nS hs, nSs hs, fin_0_2 F, fin_0_3 F, fin_0_4 F, fin_0_5 F, fin_0_6 F, fin_0_7 F, kA_0, kB_0, r0, r2, e0, e1, e2, pCX7_litBy, pSX7_litBy, pOX7_litBy, pLX7_litBy, pCX7_noStreet, pSX7_noStreet, pOX7_noStreet, pLX7_noStreet, pCX7_noHouse, pSX7_noHouse, pOX7_noHouse, pLX7_noHouse, pCX7_outside, pSX7_outside, pOX7_outside, pLX7_outside, pCX7_refuse, pSX7_refuse, pOX7_refuse, pLX7_refuse, nh, c1, show nI 1 = 1 from rfl, nI_0, decide_true, decide_false, bI_t, bI_f, reduceCtorEq, or_self, show ¬ (1 : Int32) = 0 from by decide, tr_R, tr_tr, tr_25, tr_26, tr_27, tr_28, tr_29, tr_30, tr_31, tr_32, tr_33, tr_34, tr_35, tr_36, tr_37, tr_38, tr_39, tr_40, tr_41, tr_42, tr_43, tr_s hs, tr_s1 hs, tr_s2 hs, tr_s3 hs, tr_s4 hs, tr_s5 hs, tr_s6 hs, tr_s7 hs, tr_s8 hs, tr_s9 hs, tr_s10 hs, tr_s11 hs, kl_I, kl_J, kl_R, kl_T, kl_N, Nat.le_refl, Nat.zero_le, List.map_nil, List.map_cons, List.sum_nil, List.sum_cons, c_I, c_J, c_R, c_T, va_rf, hI_wI, hJ_wJ, hR_wR, hI_J, hI_R, hJ_I, hJ_R, hR_I, hR_J, hN_I, hN_J, hN_R, wI_I, wJ_J, upd_at, updL_at, kR_s, Option.toList, List.append_nil, List.nil_append, List.cons_append, if_true, if_false, reduceIte, Bool.false_eq_true, not_true_eq_false, not_false_eq_true, true_and, and_true, false_and, and_false, true_or, or_true,  Nat.reduceEqDiff, Nat.reduceAdd, Nat.reduceLeDiff])
  | some i =>
    obtain ⟨rfl, hi⟩ := ix_s (by omega) c1
    have dd := c_lighter (d := d + 7) F1 hf1 w1 b1 tbx.1 hi
    exact qy_tr (v := 0) I (by decide) (fun Q => by
      simp (implicitDefEqProofs := false) only [eX7_litBy, rX7_litBy_0, rX7_litBy_0b, rX7_litBy_1, rX7_litBy_2, rX7_litBy_5, rX7_litBy_8, rX7_litBy_9, rX7_litBy_10, rX7_litBy_10b, rX7_litBy_11, rX7_litBy_14, rX7_litBy_14b, rX7_litBy_15, rX7_litBy_18, rX7_litBy_21, rX7_litBy_22, rX7_litBy_25, kS0 hs, kS1 hs, kT1 hs, fS1 hs F, kS2 hs, kT2 hs, fS2 hs F, kS3 hs, kT3 hs, fS3 hs F, kS4 hs, kT4 hs, fS4 hs F, kS5 hs, kT5 hs, fS5 hs F, kS6 hs, kT6 hs, fS6 hs F, kS7 hs, kT7 hs, fS7 hs F, kS8 hs, kT8 hs, fS8 hs F, kS9 hs, kT9 hs, fS9 hs F, kS10 hs, kT10 hs, fS10 hs F, kS11 hs, kT11 hs, fS11 hs F, nS hs, nSs hs, fin_0_2 F, fin_0_3 F, fin_0_4 F, fin_0_5 F, fin_0_6 F, fin_0_7 F, kA_0, kB_0, kA_29, kB_29, kA_32, kB_32, r0, r2, e0, e1, e2, pCX7_litBy, pSX7_litBy, pOX7_litBy, pLX7_litBy, pCX7_noStreet, pSX7_noStreet, pOX7_noStreet, pLX7_noStreet, pCX7_noHouse, pSX7_noHouse, pOX7_noHouse, pLX7_noHouse, pCX7_outside, pSX7_outside, pOX7_outside, pLX7_outside, pCX7_refuse, pSX7_refuse, pOX7_refuse, pLX7_refuse, pCX0_lighter, pSX0_lighter, pOX0_lighter, pLX0_lighter, nh, c1, dd, nI_0, decide_true, decide_false, bI_t, bI_f, reduceCtorEq, or_self, show ¬ (1 : Int32) = 0 from by decide, tr_R, tr_tr, tr_25, tr_26, tr_27, tr_28, tr_29, tr_30, tr_31, tr_32, tr_33, tr_34, tr_35, tr_36, tr_37, tr_38, tr_39, tr_40, tr_41, tr_42, tr_43, tr_s hs, tr_s1 hs, tr_s2 hs, tr_s3 hs, tr_s4 hs, tr_s5 hs, tr_s6 hs, tr_s7 hs, tr_s8 hs, tr_s9 hs, tr_s10 hs, tr_s11 hs, kl_I, kl_J, kl_R, kl_T, kl_N, Nat.le_refl, Nat.zero_le, List.map_nil, List.map_cons, List.sum_nil, List.sum_cons, c_I, c_J, c_R, c_T, va_rf, hI_wI, hJ_wJ, hR_wR, hI_J, hI_R, hJ_I, hJ_R, hR_I, hR_J, hN_I, hN_J, hN_R, wI_I, wJ_J, upd_at, updL_at, kR_s, Option.toList, List.append_nil, List.nil_append, List.cons_append, if_true, if_false, reduceIte, Bool.false_eq_true, not_true_eq_false, not_false_eq_true, true_and, and_true, false_and, and_false, true_or, or_true,  Nat.reduceEqDiff, Nat.reduceAdd, Nat.reduceLeDiff])
noncomputable def sBurnt (S : AS) (y : Int32) : Nat × Int32 := if aN (sA S) = 0 then (1, -1) else if y < 0 ∨ 90 < y then (2, -1) else (0, nI (bbN (sA S) (sX S).1 y.toNatClampNeg))
theorem q_burnt {d : Nat} {h : qH} {S : AS} {y : Int32} (I : CI h S) : qy (d + 10) mX7_burnt [.ref (0 : Nat), .int y] h S (sBurnt S y).1 (some (.int (sBurnt S y).2)) := by
  obtain ⟨s, tu, F, ⟨r0, r1, r2⟩, w, b, k, st, wc, gc, ⟨tbx, tbp, tbm⟩, tp, e8, e9, ep⟩ := id I
  obtain ⟨e0, e1, e2, e4, e5, e7⟩ := st.2.1
  have hs := w.1
  have ww := w.2.1
  have w3 := w.2.2.1
  have n6 := ww.1
  have p64 := p6 n6
  have bx := st.1
  have F1 : Fin0 (hR (tr h 0)) := F
  have w1 : cS (tr h 0) s (sA S) := cS_tr w
  have b1 : bT (tr h 0) (sA S) := bT_sx b tr_sx (by simp)
  have hf1 : hR (tr h 0) 32 0 = some s := r2
  have ns := c_noStreet (d := d + 8) r0 w
  have ou := fun v => c_outside (d := d + 8) (h := tr h v) (y := y) (lo := 0) (hi := 90)
  by_cases c1 : aN (sA S) = 0
  · rw [sBurnt, if_pos c1]
    exact qy_tr (v := 1) I (by decide) (fun Q => by
      simp (implicitDefEqProofs := false) only [eX7_burnt, rX7_burnt_0, rX7_burnt_0b, rX7_burnt_1, rX7_burnt_4, rX7_burnt_7, rX7_burnt_7b, rX7_burnt_8, rX7_burnt_9, rX7_burnt_10, rX7_burnt_12, rX7_burnt_15, rX7_burnt_18, rX7_burnt_19, kS0 hs, kS1 hs, kT1 hs, fS1 hs F, kS2 hs, kT2 hs, fS2 hs F, kS3 hs, kT3 hs, fS3 hs F, kS4 hs, kT4 hs, fS4 hs F, kS5 hs, kT5 hs, fS5 hs F, kS6 hs, kT6 hs, fS6 hs F, kS7 hs, kT7 hs, fS7 hs F, kS8 hs, kT8 hs, fS8 hs F, kS9 hs, kT9 hs, fS9 hs F, kS10 hs, kT10 hs, fS10 hs F, kS11 hs, kT11 hs, fS11 hs F, nS hs, nSs hs, fin_0_2 F, fin_0_3 F, fin_0_4 F, fin_0_5 F, fin_0_6 F, fin_0_7 F, kA_0, kB_0, r0, r2, e0, e1, e2, pCX7_burnt, pSX7_burnt, pOX7_burnt, pLX7_burnt, pCX7_noStreet, pSX7_noStreet, pOX7_noStreet, pLX7_noStreet, pCX7_noHouse, pSX7_noHouse, pOX7_noHouse, pLX7_noHouse, pCX7_outside, pSX7_outside, pOX7_outside, pLX7_outside, pCX7_refuse, pSX7_refuse, pOX7_refuse, pLX7_refuse, ns, c1, show nI 1 = 1 from rfl, nI_0, decide_true, decide_false, bI_t, bI_f, reduceCtorEq, or_self, show ¬ (1 : Int32) = 0 from by decide, tr_R, tr_tr, tr_25, tr_26, tr_27, tr_28, tr_29, tr_30, tr_31, tr_32, tr_33, tr_34, tr_35, tr_36, tr_37, tr_38, tr_39, tr_40, tr_41, tr_42, tr_43, tr_s hs, tr_s1 hs, tr_s2 hs, tr_s3 hs, tr_s4 hs, tr_s5 hs, tr_s6 hs, tr_s7 hs, tr_s8 hs, tr_s9 hs, tr_s10 hs, tr_s11 hs, kl_I, kl_J, kl_R, kl_T, kl_N, Nat.le_refl, Nat.zero_le, List.map_nil, List.map_cons, List.sum_nil, List.sum_cons, c_I, c_J, c_R, c_T, va_rf, hI_wI, hJ_wJ, hR_wR, hI_J, hI_R, hJ_I, hJ_R, hR_I, hR_J, hN_I, hN_J, hN_R, wI_I, wJ_J, upd_at, updL_at, kR_s, Option.toList, List.append_nil, List.nil_append, List.cons_append, if_true, if_false, reduceIte, Bool.false_eq_true, not_true_eq_false, not_false_eq_true, true_and, and_true, false_and, and_false, true_or, or_true,  Nat.reduceEqDiff, Nat.reduceAdd, Nat.reduceLeDiff])
  · rw [sBurnt, if_neg c1]
    by_cases c2 : y < 0 ∨ 90 < y
    · rw [if_pos c2]
      exact qy_tr (v := 2) I (by decide) (fun Q => by
        simp (implicitDefEqProofs := false) only [eX7_burnt, rX7_burnt_0, rX7_burnt_0b, rX7_burnt_1, rX7_burnt_4, rX7_burnt_7, rX7_burnt_7b, rX7_burnt_8, rX7_burnt_9, rX7_burnt_10, rX7_burnt_12, rX7_burnt_15, rX7_burnt_18, rX7_burnt_19, kS0 hs, kS1 hs, kT1 hs, fS1 hs F, kS2 hs, kT2 hs, fS2 hs F, kS3 hs, kT3 hs, fS3 hs F, kS4 hs, kT4 hs, fS4 hs F, kS5 hs, kT5 hs, fS5 hs F, kS6 hs, kT6 hs, fS6 hs F, kS7 hs, kT7 hs, fS7 hs F, kS8 hs, kT8 hs, fS8 hs F, kS9 hs, kT9 hs, fS9 hs F, kS10 hs, kT10 hs, fS10 hs F, kS11 hs, kT11 hs, fS11 hs F, nS hs, nSs hs, fin_0_2 F, fin_0_3 F, fin_0_4 F, fin_0_5 F, fin_0_6 F, fin_0_7 F, kA_0, kB_0, kA_29, kB_29, r0, r2, e0, e1, e2, pCX7_burnt, pSX7_burnt, pOX7_burnt, pLX7_burnt, pCX7_noStreet, pSX7_noStreet, pOX7_noStreet, pLX7_noStreet, pCX7_noHouse, pSX7_noHouse, pOX7_noHouse, pLX7_noHouse, pCX7_outside, pSX7_outside, pOX7_outside, pLX7_outside, pCX7_refuse, pSX7_refuse, pOX7_refuse, pLX7_refuse, ns, c1, ou, c2, show nI 2 = 2 from rfl, nI_0, decide_true, decide_false, bI_t, bI_f, reduceCtorEq, or_self, show ¬ (1 : Int32) = 0 from by decide, tr_R, tr_tr, tr_25, tr_26, tr_27, tr_28, tr_29, tr_30, tr_31, tr_32, tr_33, tr_34, tr_35, tr_36, tr_37, tr_38, tr_39, tr_40, tr_41, tr_42, tr_43, tr_s hs, tr_s1 hs, tr_s2 hs, tr_s3 hs, tr_s4 hs, tr_s5 hs, tr_s6 hs, tr_s7 hs, tr_s8 hs, tr_s9 hs, tr_s10 hs, tr_s11 hs, kl_I, kl_J, kl_R, kl_T, kl_N, Nat.le_refl, Nat.zero_le, List.map_nil, List.map_cons, List.sum_nil, List.sum_cons, c_I, c_J, c_R, c_T, va_rf, hI_wI, hJ_wJ, hR_wR, hI_J, hI_R, hJ_I, hJ_R, hR_I, hR_J, hN_I, hN_J, hN_R, wI_I, wJ_J, upd_at, updL_at, kR_s, Option.toList, List.append_nil, List.nil_append, List.cons_append, if_true, if_false, reduceIte, Bool.false_eq_true, not_true_eq_false, not_false_eq_true, true_and, and_true, false_and, and_false, true_or, or_true,  Nat.reduceEqDiff, Nat.reduceAdd, Nat.reduceLeDiff])
    · rw [if_neg c2]
      obtain ⟨i, hi, rfl⟩ := dy c2
      have dd := c_burntBy (d := d + 8) F1 hf1 w1 b1 tbx.1 (y := i) (by omega)
      exact qy_tr (v := 0) I (by decide) (fun Q => by
        simp (implicitDefEqProofs := false) only [eX7_burnt, rX7_burnt_0, rX7_burnt_0b, rX7_burnt_1, rX7_burnt_4, rX7_burnt_7, rX7_burnt_7b, rX7_burnt_8, rX7_burnt_9, rX7_burnt_10, rX7_burnt_12, rX7_burnt_15, rX7_burnt_18, rX7_burnt_19, rX7_burnt_20, rX7_burnt_20b, rX7_burnt_21, rX7_burnt_24, rX7_burnt_24b, rX7_burnt_25, rX7_burnt_28, rX7_burnt_31, rX7_burnt_32, rX7_burnt_35, kS0 hs, kS1 hs, kT1 hs, fS1 hs F, kS2 hs, kT2 hs, fS2 hs F, kS3 hs, kT3 hs, fS3 hs F, kS4 hs, kT4 hs, fS4 hs F, kS5 hs, kT5 hs, fS5 hs F, kS6 hs, kT6 hs, fS6 hs F, kS7 hs, kT7 hs, fS7 hs F, kS8 hs, kT8 hs, fS8 hs F, kS9 hs, kT9 hs, fS9 hs F, kS10 hs, kT10 hs, fS10 hs F, kS11 hs, kT11 hs, fS11 hs F, nS hs, nSs hs, fin_0_2 F, fin_0_3 F, fin_0_4 F, fin_0_5 F, fin_0_6 F, fin_0_7 F, kA_0, kB_0, kA_29, kB_29, kA_32, kB_32, r0, r2, e0, e1, e2, pCX7_burnt, pSX7_burnt, pOX7_burnt, pLX7_burnt, pCX7_noStreet, pSX7_noStreet, pOX7_noStreet, pLX7_noStreet, pCX7_noHouse, pSX7_noHouse, pOX7_noHouse, pLX7_noHouse, pCX7_outside, pSX7_outside, pOX7_outside, pLX7_outside, pCX7_refuse, pSX7_refuse, pOX7_refuse, pLX7_refuse, pCX0_burntBy, pSX0_burntBy, pOX0_burntBy, pLX0_burntBy, ns, c1, ou, c2, dd, nI_cl (n := i) (by omega), nI_0, decide_true, decide_false, bI_t, bI_f, reduceCtorEq, or_self, show ¬ (1 : Int32) = 0 from by decide, tr_R, tr_tr, tr_25, tr_26, tr_27, tr_28, tr_29, tr_30, tr_31, tr_32, tr_33, tr_34, tr_35, tr_36, tr_37, tr_38, tr_39, tr_40, tr_41, tr_42, tr_43, tr_s hs, tr_s1 hs, tr_s2 hs, tr_s3 hs, tr_s4 hs, tr_s5 hs, tr_s6 hs, tr_s7 hs, tr_s8 hs, tr_s9 hs, tr_s10 hs, tr_s11 hs, kl_I, kl_J, kl_R, kl_T, kl_N, Nat.le_refl, Nat.zero_le, List.map_nil, List.map_cons, List.sum_nil, List.sum_cons, c_I, c_J, c_R, c_T, va_rf, hI_wI, hJ_wJ, hR_wR, hI_J, hI_R, hJ_I, hJ_R, hR_I, hR_J, hN_I, hN_J, hN_R, wI_I, wJ_J, upd_at, updL_at, kR_s, Option.toList, List.append_nil, List.nil_append, List.cons_append, if_true, if_false, reduceIte, Bool.false_eq_true, not_true_eq_false, not_false_eq_true, true_and, and_true, false_and, and_false, true_or, or_true,  Nat.reduceEqDiff, Nat.reduceAdd, Nat.reduceLeDiff])
noncomputable def sNext (S : AS) (y : Int32) : Nat × Int32 := if aN (sA S) = 0 then (1, -1) else if y < 0 ∨ 90 < y then (2, -1) else (0, oI (nxN (sA S) (sX S).1 (sX S).2.1 y.toNatClampNeg))
theorem q_next {d : Nat} {h : qH} {S : AS} {y : Int32} (I : CI h S) : qy (d + 10) mX7_next [.ref (0 : Nat), .int y] h S (sNext S y).1 (some (.int (sNext S y).2)) := by
  obtain ⟨s, tu, F, ⟨r0, r1, r2⟩, w, b, k, st, wc, gc, ⟨tbx, tbp, tbm⟩, tp, e8, e9, ep⟩ := id I
  obtain ⟨e0, e1, e2, e4, e5, e7⟩ := st.2.1
  have hs := w.1
  have ww := w.2.1
  have w3 := w.2.2.1
  have n6 := ww.1
  have p64 := p6 n6
  have bx := st.1
  have F1 : Fin0 (hR (tr h 0)) := F
  have w1 : cS (tr h 0) s (sA S) := cS_tr w
  have b1 : bT (tr h 0) (sA S) := bT_sx b tr_sx (by simp)
  have hf1 : hR (tr h 0) 32 0 = some s := r2
  have ns := c_noStreet (d := d + 8) r0 w
  have ou := fun v => c_outside (d := d + 8) (h := tr h v) (y := y) (lo := 0) (hi := 90)
  by_cases c1 : aN (sA S) = 0
  · rw [sNext, if_pos c1]
    exact qy_tr (v := 1) I (by decide) (fun Q => by
      simp (implicitDefEqProofs := false) only [eX7_next, rX7_next_0, rX7_next_0b, rX7_next_1, rX7_next_4, rX7_next_7, rX7_next_7b, rX7_next_8, rX7_next_9, rX7_next_10, rX7_next_12, rX7_next_15, rX7_next_18, rX7_next_19, kS0 hs, kS1 hs, kT1 hs, fS1 hs F, kS2 hs, kT2 hs, fS2 hs F, kS3 hs, kT3 hs, fS3 hs F, kS4 hs, kT4 hs, fS4 hs F, kS5 hs, kT5 hs, fS5 hs F, kS6 hs, kT6 hs, fS6 hs F, kS7 hs, kT7 hs, fS7 hs F, kS8 hs, kT8 hs, fS8 hs F, kS9 hs, kT9 hs, fS9 hs F, kS10 hs, kT10 hs, fS10 hs F, kS11 hs, kT11 hs, fS11 hs F, nS hs, nSs hs, fin_0_2 F, fin_0_3 F, fin_0_4 F, fin_0_5 F, fin_0_6 F, fin_0_7 F, kA_0, kB_0, r0, r2, e0, e1, e2, pCX7_next, pSX7_next, pOX7_next, pLX7_next, pCX7_noStreet, pSX7_noStreet, pOX7_noStreet, pLX7_noStreet, pCX7_noHouse, pSX7_noHouse, pOX7_noHouse, pLX7_noHouse, pCX7_outside, pSX7_outside, pOX7_outside, pLX7_outside, pCX7_refuse, pSX7_refuse, pOX7_refuse, pLX7_refuse, ns, c1, show nI 1 = 1 from rfl, nI_0, decide_true, decide_false, bI_t, bI_f, reduceCtorEq, or_self, show ¬ (1 : Int32) = 0 from by decide, tr_R, tr_tr, tr_25, tr_26, tr_27, tr_28, tr_29, tr_30, tr_31, tr_32, tr_33, tr_34, tr_35, tr_36, tr_37, tr_38, tr_39, tr_40, tr_41, tr_42, tr_43, tr_s hs, tr_s1 hs, tr_s2 hs, tr_s3 hs, tr_s4 hs, tr_s5 hs, tr_s6 hs, tr_s7 hs, tr_s8 hs, tr_s9 hs, tr_s10 hs, tr_s11 hs, kl_I, kl_J, kl_R, kl_T, kl_N, Nat.le_refl, Nat.zero_le, List.map_nil, List.map_cons, List.sum_nil, List.sum_cons, c_I, c_J, c_R, c_T, va_rf, hI_wI, hJ_wJ, hR_wR, hI_J, hI_R, hJ_I, hJ_R, hR_I, hR_J, hN_I, hN_J, hN_R, wI_I, wJ_J, upd_at, updL_at, kR_s, Option.toList, List.append_nil, List.nil_append, List.cons_append, if_true, if_false, reduceIte, Bool.false_eq_true, not_true_eq_false, not_false_eq_true, true_and, and_true, false_and, and_false, true_or, or_true,  Nat.reduceEqDiff, Nat.reduceAdd, Nat.reduceLeDiff])
  · rw [sNext, if_neg c1]
    by_cases c2 : y < 0 ∨ 90 < y
    · rw [if_pos c2]
      exact qy_tr (v := 2) I (by decide) (fun Q => by
        simp (implicitDefEqProofs := false) only [eX7_next, rX7_next_0, rX7_next_0b, rX7_next_1, rX7_next_4, rX7_next_7, rX7_next_7b, rX7_next_8, rX7_next_9, rX7_next_10, rX7_next_12, rX7_next_15, rX7_next_18, rX7_next_19, kS0 hs, kS1 hs, kT1 hs, fS1 hs F, kS2 hs, kT2 hs, fS2 hs F, kS3 hs, kT3 hs, fS3 hs F, kS4 hs, kT4 hs, fS4 hs F, kS5 hs, kT5 hs, fS5 hs F, kS6 hs, kT6 hs, fS6 hs F, kS7 hs, kT7 hs, fS7 hs F, kS8 hs, kT8 hs, fS8 hs F, kS9 hs, kT9 hs, fS9 hs F, kS10 hs, kT10 hs, fS10 hs F, kS11 hs, kT11 hs, fS11 hs F, nS hs, nSs hs, fin_0_2 F, fin_0_3 F, fin_0_4 F, fin_0_5 F, fin_0_6 F, fin_0_7 F, kA_0, kB_0, kA_29, kB_29, r0, r2, e0, e1, e2, pCX7_next, pSX7_next, pOX7_next, pLX7_next, pCX7_noStreet, pSX7_noStreet, pOX7_noStreet, pLX7_noStreet, pCX7_noHouse, pSX7_noHouse, pOX7_noHouse, pLX7_noHouse, pCX7_outside, pSX7_outside, pOX7_outside, pLX7_outside, pCX7_refuse, pSX7_refuse, pOX7_refuse, pLX7_refuse, ns, c1, ou, c2, show nI 2 = 2 from rfl, nI_0, decide_true, decide_false, bI_t, bI_f, reduceCtorEq, or_self, show ¬ (1 : Int32) = 0 from by decide, tr_R, tr_tr, tr_25, tr_26, tr_27, tr_28, tr_29, tr_30, tr_31, tr_32, tr_33, tr_34, tr_35, tr_36, tr_37, tr_38, tr_39, tr_40, tr_41, tr_42, tr_43, tr_s hs, tr_s1 hs, tr_s2 hs, tr_s3 hs, tr_s4 hs, tr_s5 hs, tr_s6 hs, tr_s7 hs, tr_s8 hs, tr_s9 hs, tr_s10 hs, tr_s11 hs, kl_I, kl_J, kl_R, kl_T, kl_N, Nat.le_refl, Nat.zero_le, List.map_nil, List.map_cons, List.sum_nil, List.sum_cons, c_I, c_J, c_R, c_T, va_rf, hI_wI, hJ_wJ, hR_wR, hI_J, hI_R, hJ_I, hJ_R, hR_I, hR_J, hN_I, hN_J, hN_R, wI_I, wJ_J, upd_at, updL_at, kR_s, Option.toList, List.append_nil, List.nil_append, List.cons_append, if_true, if_false, reduceIte, Bool.false_eq_true, not_true_eq_false, not_false_eq_true, true_and, and_true, false_and, and_false, true_or, or_true,  Nat.reduceEqDiff, Nat.reduceAdd, Nat.reduceLeDiff])
    · rw [if_neg c2]
      obtain ⟨i, hi, rfl⟩ := dy c2
      have dd := c_soonest (d := d + 8) F1 hf1 w1 b1 tbx.1 bx.2.1 (af := i) (by omega)
      exact qy_tr (v := 0) I (by decide) (fun Q => by
        simp (implicitDefEqProofs := false) only [eX7_next, rX7_next_0, rX7_next_0b, rX7_next_1, rX7_next_4, rX7_next_7, rX7_next_7b, rX7_next_8, rX7_next_9, rX7_next_10, rX7_next_12, rX7_next_15, rX7_next_18, rX7_next_19, rX7_next_20, rX7_next_20b, rX7_next_21, rX7_next_24, rX7_next_24b, rX7_next_25, rX7_next_28, rX7_next_31, rX7_next_31b, rX7_next_32, rX7_next_35, rX7_next_38, rX7_next_39, rX7_next_42, kS0 hs, kS1 hs, kT1 hs, fS1 hs F, kS2 hs, kT2 hs, fS2 hs F, kS3 hs, kT3 hs, fS3 hs F, kS4 hs, kT4 hs, fS4 hs F, kS5 hs, kT5 hs, fS5 hs F, kS6 hs, kT6 hs, fS6 hs F, kS7 hs, kT7 hs, fS7 hs F, kS8 hs, kT8 hs, fS8 hs F, kS9 hs, kT9 hs, fS9 hs F, kS10 hs, kT10 hs, fS10 hs F, kS11 hs, kT11 hs, fS11 hs F, nS hs, nSs hs, fin_0_2 F, fin_0_3 F, fin_0_4 F, fin_0_5 F, fin_0_6 F, fin_0_7 F, kA_0, kB_0, kA_29, kB_29, kA_32, kB_32, r0, r2, e0, e1, e2, pCX7_next, pSX7_next, pOX7_next, pLX7_next, pCX7_noStreet, pSX7_noStreet, pOX7_noStreet, pLX7_noStreet, pCX7_noHouse, pSX7_noHouse, pOX7_noHouse, pLX7_noHouse, pCX7_outside, pSX7_outside, pOX7_outside, pLX7_outside, pCX7_refuse, pSX7_refuse, pOX7_refuse, pLX7_refuse, pCX0_soonest, pSX0_soonest, pOX0_soonest, pLX0_soonest, ns, c1, ou, c2, dd, nI_cl (n := i) (by omega), nI_0, decide_true, decide_false, bI_t, bI_f, reduceCtorEq, or_self, show ¬ (1 : Int32) = 0 from by decide, tr_R, tr_tr, tr_25, tr_26, tr_27, tr_28, tr_29, tr_30, tr_31, tr_32, tr_33, tr_34, tr_35, tr_36, tr_37, tr_38, tr_39, tr_40, tr_41, tr_42, tr_43, tr_s hs, tr_s1 hs, tr_s2 hs, tr_s3 hs, tr_s4 hs, tr_s5 hs, tr_s6 hs, tr_s7 hs, tr_s8 hs, tr_s9 hs, tr_s10 hs, tr_s11 hs, kl_I, kl_J, kl_R, kl_T, kl_N, Nat.le_refl, Nat.zero_le, List.map_nil, List.map_cons, List.sum_nil, List.sum_cons, c_I, c_J, c_R, c_T, va_rf, hI_wI, hJ_wJ, hR_wR, hI_J, hI_R, hJ_I, hJ_R, hR_I, hR_J, hN_I, hN_J, hN_R, wI_I, wJ_J, upd_at, updL_at, kR_s, Option.toList, List.append_nil, List.nil_append, List.cons_append, if_true, if_false, reduceIte, Bool.false_eq_true, not_true_eq_false, not_false_eq_true, true_and, and_true, false_and, and_false, true_or, or_true,  Nat.reduceEqDiff, Nat.reduceAdd, Nat.reduceLeDiff])
noncomputable def sAgrees (S : AS) (y : Int32) : Nat × Int32 := if aN (sA S) = 0 then (1, -1) else if y < nI (sX S).2.2 ∨ 90 < y then (2, -1) else (0, nI (agN (sA S) (sX S).1 (sX S).2.1 y.toNatClampNeg))
theorem q_agrees {d : Nat} {h : qH} {S : AS} {y : Int32} (I : CI h S) : qy (d + 10) mX7_agrees [.ref (0 : Nat), .int y] h S (sAgrees S y).1 (some (.int (sAgrees S y).2)) := by
  obtain ⟨s, tu, F, ⟨r0, r1, r2⟩, w, b, k, st, wc, gc, ⟨tbx, tbp, tbm⟩, tp, e8, e9, ep⟩ := id I
  obtain ⟨e0, e1, e2, e4, e5, e7⟩ := st.2.1
  have hs := w.1
  have ww := w.2.1
  have w3 := w.2.2.1
  have n6 := ww.1
  have p64 := p6 n6
  have bx := st.1
  have F1 : Fin0 (hR (tr h 0)) := F
  have w1 : cS (tr h 0) s (sA S) := cS_tr w
  have b1 : bT (tr h 0) (sA S) := bT_sx b tr_sx (by simp)
  have hf1 : hR (tr h 0) 32 0 = some s := r2
  have ns := c_noStreet (d := d + 8) r0 w
  have ou := fun v => c_outside (d := d + 8) (h := tr h v) (y := y) (lo := (nI (sX S).2.2)) (hi := 90)
  by_cases c1 : aN (sA S) = 0
  · rw [sAgrees, if_pos c1]
    exact qy_tr (v := 1) I (by decide) (fun Q => by
      simp (implicitDefEqProofs := false) only [eX7_agrees, rX7_agrees_0, rX7_agrees_0b, rX7_agrees_1, rX7_agrees_4, rX7_agrees_7, rX7_agrees_7b, rX7_agrees_8, rX7_agrees_9, rX7_agrees_9b, rX7_agrees_10, rX7_agrees_13, rX7_agrees_16, rX7_agrees_18, rX7_agrees_21, rX7_agrees_24, rX7_agrees_25, kS0 hs, kS1 hs, kT1 hs, fS1 hs F, kS2 hs, kT2 hs, fS2 hs F, kS3 hs, kT3 hs, fS3 hs F, kS4 hs, kT4 hs, fS4 hs F, kS5 hs, kT5 hs, fS5 hs F, kS6 hs, kT6 hs, fS6 hs F, kS7 hs, kT7 hs, fS7 hs F, kS8 hs, kT8 hs, fS8 hs F, kS9 hs, kT9 hs, fS9 hs F, kS10 hs, kT10 hs, fS10 hs F, kS11 hs, kT11 hs, fS11 hs F, nS hs, nSs hs, fin_0_2 F, fin_0_3 F, fin_0_4 F, fin_0_5 F, fin_0_6 F, fin_0_7 F, kA_0, kB_0, r0, r2, e0, e1, e2, pCX7_agrees, pSX7_agrees, pOX7_agrees, pLX7_agrees, pCX7_noStreet, pSX7_noStreet, pOX7_noStreet, pLX7_noStreet, pCX7_noHouse, pSX7_noHouse, pOX7_noHouse, pLX7_noHouse, pCX7_outside, pSX7_outside, pOX7_outside, pLX7_outside, pCX7_refuse, pSX7_refuse, pOX7_refuse, pLX7_refuse, ns, c1, show nI 1 = 1 from rfl, nI_0, decide_true, decide_false, bI_t, bI_f, reduceCtorEq, or_self, show ¬ (1 : Int32) = 0 from by decide, tr_R, tr_tr, tr_25, tr_26, tr_27, tr_28, tr_29, tr_30, tr_31, tr_32, tr_33, tr_34, tr_35, tr_36, tr_37, tr_38, tr_39, tr_40, tr_41, tr_42, tr_43, tr_s hs, tr_s1 hs, tr_s2 hs, tr_s3 hs, tr_s4 hs, tr_s5 hs, tr_s6 hs, tr_s7 hs, tr_s8 hs, tr_s9 hs, tr_s10 hs, tr_s11 hs, kl_I, kl_J, kl_R, kl_T, kl_N, Nat.le_refl, Nat.zero_le, List.map_nil, List.map_cons, List.sum_nil, List.sum_cons, c_I, c_J, c_R, c_T, va_rf, hI_wI, hJ_wJ, hR_wR, hI_J, hI_R, hJ_I, hJ_R, hR_I, hR_J, hN_I, hN_J, hN_R, wI_I, wJ_J, upd_at, updL_at, kR_s, Option.toList, List.append_nil, List.nil_append, List.cons_append, if_true, if_false, reduceIte, Bool.false_eq_true, not_true_eq_false, not_false_eq_true, true_and, and_true, false_and, and_false, true_or, or_true,  Nat.reduceEqDiff, Nat.reduceAdd, Nat.reduceLeDiff])
  · rw [sAgrees, if_neg c1]
    by_cases c2 : y < (nI (sX S).2.2) ∨ 90 < y
    · rw [if_pos c2]
      exact qy_tr (v := 2) I (by decide) (fun Q => by
        simp (implicitDefEqProofs := false) only [eX7_agrees, rX7_agrees_0, rX7_agrees_0b, rX7_agrees_1, rX7_agrees_4, rX7_agrees_7, rX7_agrees_7b, rX7_agrees_8, rX7_agrees_9, rX7_agrees_9b, rX7_agrees_10, rX7_agrees_13, rX7_agrees_16, rX7_agrees_18, rX7_agrees_21, rX7_agrees_24, rX7_agrees_25, kS0 hs, kS1 hs, kT1 hs, fS1 hs F, kS2 hs, kT2 hs, fS2 hs F, kS3 hs, kT3 hs, fS3 hs F, kS4 hs, kT4 hs, fS4 hs F, kS5 hs, kT5 hs, fS5 hs F, kS6 hs, kT6 hs, fS6 hs F, kS7 hs, kT7 hs, fS7 hs F, kS8 hs, kT8 hs, fS8 hs F, kS9 hs, kT9 hs, fS9 hs F, kS10 hs, kT10 hs, fS10 hs F, kS11 hs, kT11 hs, fS11 hs F, nS hs, nSs hs, fin_0_2 F, fin_0_3 F, fin_0_4 F, fin_0_5 F, fin_0_6 F, fin_0_7 F, kA_0, kB_0, kA_29, kB_29, r0, r2, e0, e1, e2, pCX7_agrees, pSX7_agrees, pOX7_agrees, pLX7_agrees, pCX7_noStreet, pSX7_noStreet, pOX7_noStreet, pLX7_noStreet, pCX7_noHouse, pSX7_noHouse, pOX7_noHouse, pLX7_noHouse, pCX7_outside, pSX7_outside, pOX7_outside, pLX7_outside, pCX7_refuse, pSX7_refuse, pOX7_refuse, pLX7_refuse, ns, c1, ou, c2, show nI 2 = 2 from rfl, nI_0, decide_true, decide_false, bI_t, bI_f, reduceCtorEq, or_self, show ¬ (1 : Int32) = 0 from by decide, tr_R, tr_tr, tr_25, tr_26, tr_27, tr_28, tr_29, tr_30, tr_31, tr_32, tr_33, tr_34, tr_35, tr_36, tr_37, tr_38, tr_39, tr_40, tr_41, tr_42, tr_43, tr_s hs, tr_s1 hs, tr_s2 hs, tr_s3 hs, tr_s4 hs, tr_s5 hs, tr_s6 hs, tr_s7 hs, tr_s8 hs, tr_s9 hs, tr_s10 hs, tr_s11 hs, kl_I, kl_J, kl_R, kl_T, kl_N, Nat.le_refl, Nat.zero_le, List.map_nil, List.map_cons, List.sum_nil, List.sum_cons, c_I, c_J, c_R, c_T, va_rf, hI_wI, hJ_wJ, hR_wR, hI_J, hI_R, hJ_I, hJ_R, hR_I, hR_J, hN_I, hN_J, hN_R, wI_I, wJ_J, upd_at, updL_at, kR_s, Option.toList, List.append_nil, List.nil_append, List.cons_append, if_true, if_false, reduceIte, Bool.false_eq_true, not_true_eq_false, not_false_eq_true, true_and, and_true, false_and, and_false, true_or, or_true,  Nat.reduceEqDiff, Nat.reduceAdd, Nat.reduceLeDiff])
    · rw [if_neg c2]
      obtain ⟨i, hn, hi, rfl⟩ := dy2 bx.2.2 c2
      have dd := c_agreeing (d := d + 7) F1 hf1 w1 b1 tbx.1 bx.2.1 (on := i) (by omega)
      exact qy_tr (v := 0) I (by decide) (fun Q => by
        simp (implicitDefEqProofs := false) only [eX7_agrees, rX7_agrees_0, rX7_agrees_0b, rX7_agrees_1, rX7_agrees_4, rX7_agrees_7, rX7_agrees_7b, rX7_agrees_8, rX7_agrees_9, rX7_agrees_9b, rX7_agrees_10, rX7_agrees_13, rX7_agrees_16, rX7_agrees_18, rX7_agrees_21, rX7_agrees_24, rX7_agrees_25, rX7_agrees_26, rX7_agrees_26b, rX7_agrees_27, rX7_agrees_30, rX7_agrees_30b, rX7_agrees_31, rX7_agrees_34, rX7_agrees_37, rX7_agrees_37b, rX7_agrees_38, rX7_agrees_41, rX7_agrees_44, rX7_agrees_45, rX7_agrees_48, kS0 hs, kS1 hs, kT1 hs, fS1 hs F, kS2 hs, kT2 hs, fS2 hs F, kS3 hs, kT3 hs, fS3 hs F, kS4 hs, kT4 hs, fS4 hs F, kS5 hs, kT5 hs, fS5 hs F, kS6 hs, kT6 hs, fS6 hs F, kS7 hs, kT7 hs, fS7 hs F, kS8 hs, kT8 hs, fS8 hs F, kS9 hs, kT9 hs, fS9 hs F, kS10 hs, kT10 hs, fS10 hs F, kS11 hs, kT11 hs, fS11 hs F, nS hs, nSs hs, fin_0_2 F, fin_0_3 F, fin_0_4 F, fin_0_5 F, fin_0_6 F, fin_0_7 F, kA_0, kB_0, kA_29, kB_29, kA_32, kB_32, r0, r2, e0, e1, e2, pCX7_agrees, pSX7_agrees, pOX7_agrees, pLX7_agrees, pCX7_noStreet, pSX7_noStreet, pOX7_noStreet, pLX7_noStreet, pCX7_noHouse, pSX7_noHouse, pOX7_noHouse, pLX7_noHouse, pCX7_outside, pSX7_outside, pOX7_outside, pLX7_outside, pCX7_refuse, pSX7_refuse, pOX7_refuse, pLX7_refuse, pCX0_agreeing, pSX0_agreeing, pOX0_agreeing, pLX0_agreeing, ns, c1, ou, c2, dd, nI_cl (n := i) (by omega), nI_0, decide_true, decide_false, bI_t, bI_f, reduceCtorEq, or_self, show ¬ (1 : Int32) = 0 from by decide, tr_R, tr_tr, tr_25, tr_26, tr_27, tr_28, tr_29, tr_30, tr_31, tr_32, tr_33, tr_34, tr_35, tr_36, tr_37, tr_38, tr_39, tr_40, tr_41, tr_42, tr_43, tr_s hs, tr_s1 hs, tr_s2 hs, tr_s3 hs, tr_s4 hs, tr_s5 hs, tr_s6 hs, tr_s7 hs, tr_s8 hs, tr_s9 hs, tr_s10 hs, tr_s11 hs, kl_I, kl_J, kl_R, kl_T, kl_N, Nat.le_refl, Nat.zero_le, List.map_nil, List.map_cons, List.sum_nil, List.sum_cons, c_I, c_J, c_R, c_T, va_rf, hI_wI, hJ_wJ, hR_wR, hI_J, hI_R, hJ_I, hJ_R, hR_I, hR_J, hN_I, hN_J, hN_R, wI_I, wJ_J, upd_at, updL_at, kR_s, Option.toList, List.append_nil, List.nil_append, List.cons_append, if_true, if_false, reduceIte, Bool.false_eq_true, not_true_eq_false, not_false_eq_true, true_and, and_true, false_and, and_false, true_or, or_true,  Nat.reduceEqDiff, Nat.reduceAdd, Nat.reduceLeDiff])
