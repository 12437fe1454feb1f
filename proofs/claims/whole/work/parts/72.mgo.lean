/-! ===== the model's reader: tokens ===== -/
def srt (k : Nat) : Nat := if k = 0 then 1 else if k = 1 then 2 else if k = 2 then 3 else if k = 3 then 4 else 0
theorem srt_5 {k : Nat} : ¬ nI (srt k) = 5 := by
  unfold srt
  split
  · decide
  · split
    · decide
    · split
      · decide
      · split <;> decide
/-- what a step of the reader leaves -/
def gx (h h' : qH) : Prop := hR h' = hR h ∧ hN h' = hN h ∧ (∀ b, b ≠ 44 → hI h' b = hI h b ∧ hJ h' b = hJ h b) ∧ ∀ j, j ∉ [8, 9, 10, 11] → hI h' 44 j = hI h 44 j
theorem gx_refl {h : qH} : gx h h := ⟨rfl, rfl, fun _ _ => ⟨rfl, rfl⟩, fun _ _ => rfl⟩
theorem gx_tr {h h1 h2 : qH} (a : gx h h1) (b : gx h1 h2) : gx h h2 := ⟨b.1.trans a.1, b.2.1.trans a.2.1, fun c hc => ⟨(b.2.2.1 c hc).1.trans (a.2.2.1 c hc).1, (b.2.2.1 c hc).2.trans (a.2.2.1 c hc).2⟩, fun j hj => (b.2.2.2 j hj).trans (a.2.2.2 j hj)⟩
theorem gx_w {h : qH} {f : Nat → Int32} (e : ∀ j, j ∉ [8, 9, 10, 11] → f j = hI h 44 j) : gx h (wI h 44 f) := ⟨rfl, rfl, fun b hb => ⟨by rw [hI_wI, if_neg hb], rfl⟩, fun j hj => by rw [hI_wI, if_pos rfl]; exact e j hj⟩
theorem gx_J {h : qH} {f : Nat → Int64} : gx h (wJ h 44 f) := ⟨rfl, rfl, fun b hb => ⟨rfl, by rw [hJ_wJ, if_neg hb]⟩, fun j _ => rfl⟩
/-- the tape as it is read -/
def tpF (h : qH) (n : Nat) (tb : Nat → Int32) : Prop := Fin0 (hR h) ∧ hI h 44 7 = nI n ∧ n ≤ 900 ∧ ∀ i, i < 900 → hI h 45 i = tb i
theorem tpF_gx {h h' : qH} {n : Nat} {tb : Nat → Int32} (t : tpF h n tb) (x : gx h h') : tpF h' n tb := ⟨by rw [x.1]; exact t.1, by rw [x.2.2.2 7 (by decide)]; exact t.2.1, t.2.2.1, by rw [(x.2.2.1 45 (by decide)).1]; exact t.2.2.2⟩
/-- the token at hand -/
def tkF (h : qH) (b : Nat → Nat) (t : tK) : Prop := (t.1 ≠ 4 → hI h 44 8 = nI t.2.2) ∧ hI h 44 9 = nI (srt t.1) ∧ hI h 44 10 = nI t.2.1 ∧ (t.1 = 1 → hJ h 44 14 = lN (wV b t)) ∧ (t.1 = 2 → hI h 44 11 = nI (nV b t))
theorem c_byteAt {d : Nat} {h : qH} {n i : Nat} {tb : Nat → Int32} (tp : tpF h n tb) (hi : i ≤ n) : ∀ Q, WM d mX9_byteAt [.ref (44 : Nat), .int (nI i)] h Q = Q (some (some (.int (if i < n then nI (bB tb i) else -1)))) h := by
  intro Q
  obtain ⟨F, e7, hn, t4⟩ := tp
  by_cases c : i < n
  · rw [if_pos c]
    have g1 : ¬ nI n ≤ nI i := nI_ge c (by omega)
    have v : vp_in (nI i) 900 := nI_vp (by omega) (by decide)
    have cl : (nI i).toNatClampNeg = i := nI_cl (by omega)
    have e : tb i &&& 255 = nI (bB tb i) := (ub_e _).1
    simp (implicitDefEqProofs := false) only [eX9_byteAt, rX9_byteAt_0, rX9_byteAt_1, rX9_byteAt_1b, rX9_byteAt_2, rX9_byteAt_5, rX9_byteAt_8, rX9_byteAt_8b, rX9_byteAt_9, rX9_byteAt_12, rX9_byteAt_13, rX9_byteAt_14, rX9_byteAt_17, rX9_byteAt_18, rX9_byteAt_21, rX9_byteAt_22, kA_44, kB_44, kA_45, kB_45, fin_44_5 F, fin_44_15 F, fin_44_16 F, fin_44_17 F, fin_44_18 F, fin_44_21 F, fin_44_23 F, fin_44_24 F, fin_44_25 F, fin_44_29 F, fin_44_33 F, e7, g1, v, cl, t4 i (by omega), e, pCX9_byteAt, pSX9_byteAt, pOX9_byteAt, pLX9_byteAt, kl_I, kl_J, kl_R, kl_T, kl_N, Nat.le_refl, Nat.zero_le, List.map_nil, List.map_cons, List.sum_nil, List.sum_cons, c_I, c_J, c_R, c_T, va_rf, hI_wI, hJ_wJ, hR_wR, hI_J, hI_R, hJ_I, hJ_R, hR_I, hR_J, hN_I, hN_J, hN_R, wI_I, wJ_J, upd_at, updL_at, kR_s, Option.toList, List.append_nil, List.nil_append, List.cons_append, if_true, if_false, reduceIte, Bool.false_eq_true, not_true_eq_false, not_false_eq_true, true_and, and_true, false_and, and_false, true_or, or_true,  Nat.reduceEqDiff, Nat.reduceAdd, Nat.reduceLeDiff]
  · rw [if_neg c]
    have g1 : nI n ≤ nI i := (nI_leI (by omega) (by omega)).mpr (by omega)
    simp (implicitDefEqProofs := false) only [eX9_byteAt, rX9_byteAt_0, rX9_byteAt_1, rX9_byteAt_1b, rX9_byteAt_2, rX9_byteAt_5, rX9_byteAt_8, rX9_byteAt_8b, rX9_byteAt_9, rX9_byteAt_12, rX9_byteAt_13, rX9_byteAt_14, rX9_byteAt_17, rX9_byteAt_18, rX9_byteAt_21, rX9_byteAt_22, kA_44, kB_44, e7, g1, pCX9_byteAt, pSX9_byteAt, pOX9_byteAt, pLX9_byteAt, kl_I, kl_J, kl_R, kl_T, kl_N, Nat.le_refl, Nat.zero_le, List.map_nil, List.map_cons, List.sum_nil, List.sum_cons, c_I, c_J, c_R, c_T, va_rf, hI_wI, hJ_wJ, hR_wR, hI_J, hI_R, hJ_I, hJ_R, hR_I, hR_J, hN_I, hN_J, hN_R, wI_I, wJ_J, upd_at, updL_at, kR_s, Option.toList, List.append_nil, List.nil_append, List.cons_append, if_true, if_false, reduceIte, Bool.false_eq_true, not_true_eq_false, not_false_eq_true, true_and, and_true, false_and, and_false, true_or, or_true,  Nat.reduceEqDiff, Nat.reduceAdd, Nat.reduceLeDiff]
theorem c_misLetter {d : Nat} {h : qH} {n i : Nat} {tb : Nat → Int32} : ∀ Q, WM d mX9_isLetter [.int (if i < n then nI (bB tb i) else -1)] h Q = Q (some (some (.int (bI (decide (i < n) && isL (bB tb i)))))) h := by
  intro Q
  have bl := bB_lt (tb := tb) i
  by_cases c : i < n
  · have q1 : (nI (bB tb i) < 97) = (bB tb i < 97) := nlt (x := bB tb i) (k := 97) (c := 97) rfl (by omega) (by omega)
    have q2 : (122 < nI (bB tb i)) = (122 < bB tb i) := ngt (x := bB tb i) (k := 122) (c := 122) rfl (by omega) (by omega)
    rw [if_pos c, decide_eq_true c, Bool.true_and]
    by_cases c1 : bB tb i < 97
    · have e : isL (bB tb i) = false := by unfold isL; exact decide_eq_false (by omega)
      rw [e]
      simp (implicitDefEqProofs := false) only [eX9_isLetter, rX9_isLetter_0, rX9_isLetter_1, rX9_isLetter_3, rX9_isLetter_6, rX9_isLetter_7, rX9_isLetter_9, rX9_isLetter_12, rX9_isLetter_13, rX9_isLetter_16, rX9_isLetter_17, q1, c1, bI_f, pCX9_isLetter, pSX9_isLetter, pOX9_isLetter, pLX9_isLetter, kl_I, kl_J, kl_R, kl_T, kl_N, Nat.le_refl, Nat.zero_le, List.map_nil, List.map_cons, List.sum_nil, List.sum_cons, c_I, c_J, c_R, c_T, va_rf, hI_wI, hJ_wJ, hR_wR, hI_J, hI_R, hJ_I, hJ_R, hR_I, hR_J, hN_I, hN_J, hN_R, wI_I, wJ_J, upd_at, updL_at, kR_s, Option.toList, List.append_nil, List.nil_append, List.cons_append, if_true, if_false, reduceIte, Bool.false_eq_true, not_true_eq_false, not_false_eq_true, true_and, and_true, false_and, and_false, true_or, or_true,  Nat.reduceEqDiff, Nat.reduceAdd, Nat.reduceLeDiff]
    · by_cases c2 : 122 < bB tb i
      · have e : isL (bB tb i) = false := by unfold isL; exact decide_eq_false (by omega)
        rw [e]
        simp (implicitDefEqProofs := false) only [eX9_isLetter, rX9_isLetter_0, rX9_isLetter_1, rX9_isLetter_3, rX9_isLetter_6, rX9_isLetter_7, rX9_isLetter_9, rX9_isLetter_12, rX9_isLetter_13, rX9_isLetter_16, rX9_isLetter_17, q1, c1, q2, c2, bI_f, pCX9_isLetter, pSX9_isLetter, pOX9_isLetter, pLX9_isLetter, kl_I, kl_J, kl_R, kl_T, kl_N, Nat.le_refl, Nat.zero_le, List.map_nil, List.map_cons, List.sum_nil, List.sum_cons, c_I, c_J, c_R, c_T, va_rf, hI_wI, hJ_wJ, hR_wR, hI_J, hI_R, hJ_I, hJ_R, hR_I, hR_J, hN_I, hN_J, hN_R, wI_I, wJ_J, upd_at, updL_at, kR_s, Option.toList, List.append_nil, List.nil_append, List.cons_append, if_true, if_false, reduceIte, Bool.false_eq_true, not_true_eq_false, not_false_eq_true, true_and, and_true, false_and, and_false, true_or, or_true,  Nat.reduceEqDiff, Nat.reduceAdd, Nat.reduceLeDiff]
      · have e : isL (bB tb i) = true := by unfold isL; exact decide_eq_true (by omega)
        rw [e]
        simp (implicitDefEqProofs := false) only [eX9_isLetter, rX9_isLetter_0, rX9_isLetter_1, rX9_isLetter_3, rX9_isLetter_6, rX9_isLetter_7, rX9_isLetter_9, rX9_isLetter_12, rX9_isLetter_13, rX9_isLetter_16, rX9_isLetter_17, q1, c1, q2, c2, bI_t, pCX9_isLetter, pSX9_isLetter, pOX9_isLetter, pLX9_isLetter, kl_I, kl_J, kl_R, kl_T, kl_N, Nat.le_refl, Nat.zero_le, List.map_nil, List.map_cons, List.sum_nil, List.sum_cons, c_I, c_J, c_R, c_T, va_rf, hI_wI, hJ_wJ, hR_wR, hI_J, hI_R, hJ_I, hJ_R, hR_I, hR_J, hN_I, hN_J, hN_R, wI_I, wJ_J, upd_at, updL_at, kR_s, Option.toList, List.append_nil, List.nil_append, List.cons_append, if_true, if_false, reduceIte, Bool.false_eq_true, not_true_eq_false, not_false_eq_true, true_and, and_true, false_and, and_false, true_or, or_true,  Nat.reduceEqDiff, Nat.reduceAdd, Nat.reduceLeDiff]
  · rw [if_neg c, decide_eq_false c, Bool.false_and]
    simp (implicitDefEqProofs := false) only [eX9_isLetter, rX9_isLetter_0, rX9_isLetter_1, rX9_isLetter_3, rX9_isLetter_6, rX9_isLetter_7, rX9_isLetter_9, rX9_isLetter_12, rX9_isLetter_13, rX9_isLetter_16, rX9_isLetter_17, show (-1 : Int32) < 97 from by decide, bI_f, pCX9_isLetter, pSX9_isLetter, pOX9_isLetter, pLX9_isLetter, kl_I, kl_J, kl_R, kl_T, kl_N, Nat.le_refl, Nat.zero_le, List.map_nil, List.map_cons, List.sum_nil, List.sum_cons, c_I, c_J, c_R, c_T, va_rf, hI_wI, hJ_wJ, hR_wR, hI_J, hI_R, hJ_I, hJ_R, hR_I, hR_J, hN_I, hN_J, hN_R, wI_I, wJ_J, upd_at, updL_at, kR_s, Option.toList, List.append_nil, List.nil_append, List.cons_append, if_true, if_false, reduceIte, Bool.false_eq_true, not_true_eq_false, not_false_eq_true, true_and, and_true, false_and, and_false, true_or, or_true,  Nat.reduceEqDiff, Nat.reduceAdd, Nat.reduceLeDiff]
theorem c_misDigit {d : Nat} {h : qH} {n i : Nat} {tb : Nat → Int32} : ∀ Q, WM d mX9_isDigit [.int (if i < n then nI (bB tb i) else -1)] h Q = Q (some (some (.int (bI (decide (i < n) && isD (bB tb i)))))) h := by
  intro Q
  have bl := bB_lt (tb := tb) i
  by_cases c : i < n
  · have q1 : (nI (bB tb i) < 48) = (bB tb i < 48) := nlt (x := bB tb i) (k := 48) (c := 48) rfl (by omega) (by omega)
    have q2 : (57 < nI (bB tb i)) = (57 < bB tb i) := ngt (x := bB tb i) (k := 57) (c := 57) rfl (by omega) (by omega)
    rw [if_pos c, decide_eq_true c, Bool.true_and]
    by_cases c1 : bB tb i < 48
    · have e : isD (bB tb i) = false := by unfold isD; exact decide_eq_false (by omega)
      rw [e]
      simp (implicitDefEqProofs := false) only [eX9_isDigit, rX9_isDigit_0, rX9_isDigit_1, rX9_isDigit_3, rX9_isDigit_6, rX9_isDigit_7, rX9_isDigit_9, rX9_isDigit_12, rX9_isDigit_13, rX9_isDigit_16, rX9_isDigit_17, q1, c1, bI_f, pCX9_isDigit, pSX9_isDigit, pOX9_isDigit, pLX9_isDigit, kl_I, kl_J, kl_R, kl_T, kl_N, Nat.le_refl, Nat.zero_le, List.map_nil, List.map_cons, List.sum_nil, List.sum_cons, c_I, c_J, c_R, c_T, va_rf, hI_wI, hJ_wJ, hR_wR, hI_J, hI_R, hJ_I, hJ_R, hR_I, hR_J, hN_I, hN_J, hN_R, wI_I, wJ_J, upd_at, updL_at, kR_s, Option.toList, List.append_nil, List.nil_append, List.cons_append, if_true, if_false, reduceIte, Bool.false_eq_true, not_true_eq_false, not_false_eq_true, true_and, and_true, false_and, and_false, true_or, or_true,  Nat.reduceEqDiff, Nat.reduceAdd, Nat.reduceLeDiff]
    · by_cases c2 : 57 < bB tb i
      · have e : isD (bB tb i) = false := by unfold isD; exact decide_eq_false (by omega)
        rw [e]
        simp (implicitDefEqProofs := false) only [eX9_isDigit, rX9_isDigit_0, rX9_isDigit_1, rX9_isDigit_3, rX9_isDigit_6, rX9_isDigit_7, rX9_isDigit_9, rX9_isDigit_12, rX9_isDigit_13, rX9_isDigit_16, rX9_isDigit_17, q1, c1, q2, c2, bI_f, pCX9_isDigit, pSX9_isDigit, pOX9_isDigit, pLX9_isDigit, kl_I, kl_J, kl_R, kl_T, kl_N, Nat.le_refl, Nat.zero_le, List.map_nil, List.map_cons, List.sum_nil, List.sum_cons, c_I, c_J, c_R, c_T, va_rf, hI_wI, hJ_wJ, hR_wR, hI_J, hI_R, hJ_I, hJ_R, hR_I, hR_J, hN_I, hN_J, hN_R, wI_I, wJ_J, upd_at, updL_at, kR_s, Option.toList, List.append_nil, List.nil_append, List.cons_append, if_true, if_false, reduceIte, Bool.false_eq_true, not_true_eq_false, not_false_eq_true, true_and, and_true, false_and, and_false, true_or, or_true,  Nat.reduceEqDiff, Nat.reduceAdd, Nat.reduceLeDiff]
      · have e : isD (bB tb i) = true := by unfold isD; exact decide_eq_true (by omega)
        rw [e]
        simp (implicitDefEqProofs := false) only [eX9_isDigit, rX9_isDigit_0, rX9_isDigit_1, rX9_isDigit_3, rX9_isDigit_6, rX9_isDigit_7, rX9_isDigit_9, rX9_isDigit_12, rX9_isDigit_13, rX9_isDigit_16, rX9_isDigit_17, q1, c1, q2, c2, bI_t, pCX9_isDigit, pSX9_isDigit, pOX9_isDigit, pLX9_isDigit, kl_I, kl_J, kl_R, kl_T, kl_N, Nat.le_refl, Nat.zero_le, List.map_nil, List.map_cons, List.sum_nil, List.sum_cons, c_I, c_J, c_R, c_T, va_rf, hI_wI, hJ_wJ, hR_wR, hI_J, hI_R, hJ_I, hJ_R, hR_I, hR_J, hN_I, hN_J, hN_R, wI_I, wJ_J, upd_at, updL_at, kR_s, Option.toList, List.append_nil, List.nil_append, List.cons_append, if_true, if_false, reduceIte, Bool.false_eq_true, not_true_eq_false, not_false_eq_true, true_and, and_true, false_and, and_false, true_or, or_true,  Nat.reduceEqDiff, Nat.reduceAdd, Nat.reduceLeDiff]
  · rw [if_neg c, decide_eq_false c, Bool.false_and]
    simp (implicitDefEqProofs := false) only [eX9_isDigit, rX9_isDigit_0, rX9_isDigit_1, rX9_isDigit_3, rX9_isDigit_6, rX9_isDigit_7, rX9_isDigit_9, rX9_isDigit_12, rX9_isDigit_13, rX9_isDigit_16, rX9_isDigit_17, show (-1 : Int32) < 48 from by decide, bI_f, pCX9_isDigit, pSX9_isDigit, pOX9_isDigit, pLX9_isDigit, kl_I, kl_J, kl_R, kl_T, kl_N, Nat.le_refl, Nat.zero_le, List.map_nil, List.map_cons, List.sum_nil, List.sum_cons, c_I, c_J, c_R, c_T, va_rf, hI_wI, hJ_wJ, hR_wR, hI_J, hI_R, hJ_I, hJ_R, hR_I, hR_J, hN_I, hN_J, hN_R, wI_I, wJ_J, upd_at, updL_at, kR_s, Option.toList, List.append_nil, List.nil_append, List.cons_append, if_true, if_false, reduceIte, Bool.false_eq_true, not_true_eq_false, not_false_eq_true, true_and, and_true, false_and, and_false, true_or, or_true,  Nat.reduceEqDiff, Nat.reduceAdd, Nat.reduceLeDiff]
theorem l_go1 {d : Nat} {n : Nat} {tb : Nat → Int32} {o1 o2 : Option Value} : ∀ (k i : Nat), i + k = n → ∀ (h : qH), tpF h n tb → hI h 44 8 = nI i → ∃ h', (∀ Q, WP (d + 1) mX9_goesOn (0, 0) 9 [some (.ref (44 : Nat)), o1, o2] [] h Q = WP (d + 1) mX9_goesOn (0, 0) 35 [some (.ref (44 : Nat)), o1, o2] [] h' Q) ∧ gx h h' ∧ hI h' 44 8 = nI (sk (fun i => decide (bB tb i = 32)) k i) := by
  intro k
  induction k with
  | zero =>
    intro i hi h tp e8
    obtain rfl : i = n := by omega
    have ba := c_byteAt (d := d) tp (Nat.le_refl i)
    rw [if_neg (by omega)] at ba
    refine ⟨h, fun Q => ?_, gx_refl, e8⟩
    simp (implicitDefEqProofs := false) only [rX9_goesOn_9, rX9_goesOn_9b, rX9_goesOn_10, rX9_goesOn_10b, rX9_goesOn_11, rX9_goesOn_14, rX9_goesOn_17, rX9_goesOn_19, rX9_goesOn_22, rX9_goesOn_22b, rX9_goesOn_23, rX9_goesOn_23b, rX9_goesOn_24, rX9_goesOn_27, rX9_goesOn_28, rX9_goesOn_29, kA_44, kB_44, e8, ba, show ¬ (-1 : Int32) = 32 from by decide, pCX9_goesOn, pSX9_goesOn, pOX9_goesOn, pLX9_goesOn, pCX9_byteAt, pSX9_byteAt, pOX9_byteAt, pLX9_byteAt, kl_I, kl_J, kl_R, kl_T, kl_N, Nat.le_refl, Nat.zero_le, List.map_nil, List.map_cons, List.sum_nil, List.sum_cons, c_I, c_J, c_R, c_T, va_rf, hI_wI, hJ_wJ, hR_wR, hI_J, hI_R, hJ_I, hJ_R, hR_I, hR_J, hN_I, hN_J, hN_R, wI_I, wJ_J, upd_at, updL_at, kR_s, Option.toList, List.append_nil, List.nil_append, List.cons_append, if_true, if_false, reduceIte, Bool.false_eq_true, not_true_eq_false, not_false_eq_true, true_and, and_true, false_and, and_false, true_or, or_true,  Nat.reduceEqDiff, Nat.reduceAdd, Nat.reduceLeDiff]
  | succ k ih =>
    intro i hi h tp e8
    have n9 := tp.2.2.1
    have ba := c_byteAt (d := d) (i := i) tp (by omega)
    rw [if_pos (by omega)] at ba
    have bl := bB_lt (tb := tb) i
    have q : (nI (bB tb i) = 32) = (bB tb i = 32) := nq (x := bB tb i) (k := 32) (c := 32) rfl (by omega) (by omega)
    rw [sk]
    by_cases c : bB tb i = 32
    · rw [if_pos (decide_eq_true c)]
      have x1 : gx h (wI h 44 (upd (hI h 44) 8 (nI (i + 1)))) := gx_w (fun j hj => by rw [upd_at, if_neg (fun q => by subst q; revert hj; decide)])
      obtain ⟨h', e1, x2, e2⟩ := ih (i + 1) (by omega) _ (tpF_gx tp x1) (by rw [hI_wI, if_pos rfl, upd_at, if_pos rfl])
      refine ⟨h', fun Q => ?_, gx_tr x1 x2, e2⟩
      have e1 := e1 Q
      simp (implicitDefEqProofs := false) only [rX9_goesOn_9, rX9_goesOn_9b, rX9_goesOn_10, rX9_goesOn_10b, rX9_goesOn_11, rX9_goesOn_14, rX9_goesOn_17, rX9_goesOn_19, rX9_goesOn_22, rX9_goesOn_22b, rX9_goesOn_23, rX9_goesOn_23b, rX9_goesOn_24, rX9_goesOn_27, rX9_goesOn_28, rX9_goesOn_29, kA_44, kB_44, e8, ba, q.trans (eq_true c), nI_1, pCX9_goesOn, pSX9_goesOn, pOX9_goesOn, pLX9_goesOn, pCX9_byteAt, pSX9_byteAt, pOX9_byteAt, pLX9_byteAt, kl_I, kl_J, kl_R, kl_T, kl_N, Nat.le_refl, Nat.zero_le, List.map_nil, List.map_cons, List.sum_nil, List.sum_cons, c_I, c_J, c_R, c_T, va_rf, hI_wI, hJ_wJ, hR_wR, hI_J, hI_R, hJ_I, hJ_R, hR_I, hR_J, hN_I, hN_J, hN_R, wI_I, wJ_J, upd_at, updL_at, kR_s, Option.toList, List.append_nil, List.nil_append, List.cons_append, if_true, if_false, reduceIte, Bool.false_eq_true, not_true_eq_false, not_false_eq_true, true_and, and_true, false_and, and_false, true_or, or_true,  Nat.reduceEqDiff, Nat.reduceAdd, Nat.reduceLeDiff]
      rw [rX9_goesOn_32]
      exact e1
    · rw [if_neg (by simpa using c)]
      refine ⟨h, fun Q => ?_, gx_refl, e8⟩
      simp (implicitDefEqProofs := false) only [rX9_goesOn_9, rX9_goesOn_9b, rX9_goesOn_10, rX9_goesOn_10b, rX9_goesOn_11, rX9_goesOn_14, rX9_goesOn_17, rX9_goesOn_19, rX9_goesOn_22, rX9_goesOn_22b, rX9_goesOn_23, rX9_goesOn_23b, rX9_goesOn_24, rX9_goesOn_27, rX9_goesOn_28, rX9_goesOn_29, kA_44, kB_44, e8, ba, q, c, pCX9_goesOn, pSX9_goesOn, pOX9_goesOn, pLX9_goesOn, pCX9_byteAt, pSX9_byteAt, pOX9_byteAt, pLX9_byteAt, kl_I, kl_J, kl_R, kl_T, kl_N, Nat.le_refl, Nat.zero_le, List.map_nil, List.map_cons, List.sum_nil, List.sum_cons, c_I, c_J, c_R, c_T, va_rf, hI_wI, hJ_wJ, hR_wR, hI_J, hI_R, hJ_I, hJ_R, hR_I, hR_J, hN_I, hN_J, hN_R, wI_I, wJ_J, upd_at, updL_at, kR_s, Option.toList, List.append_nil, List.nil_append, List.cons_append, if_true, if_false, reduceIte, Bool.false_eq_true, not_true_eq_false, not_false_eq_true, true_and, and_true, false_and, and_false, true_or, or_true,  Nat.reduceEqDiff, Nat.reduceAdd, Nat.reduceLeDiff]
theorem l_go2 {d : Nat} {n p : Nat} {tb : Nat → Int32} {z1 : Int32} : ∀ (k c : Nat), p + c + k = n → ∀ (h : qH), tpF h n tb → hI h 44 8 = nI (p + c) → hJ h 44 14 = lN (pW (bB tb) (min c 8) p 0) → ∃ h' e, e = sk (fun i => isL (bB tb i)) k (p + c) ∧ (∀ Q, WP (d + 1) mX9_goesOn (0, 0) 84 [some (.ref (44 : Nat)), some (.int z1), some (.int (nI c))] [] h Q = WP (d + 1) mX9_goesOn (0, 0) 147 [some (.ref (44 : Nat)), some (.int z1), some (.int (nI (e - p)))] [] h' Q) ∧ gx h h' ∧ (∀ j, j ≠ 8 → hI h' 44 j = hI h 44 j) ∧ hI h' 44 8 = nI e ∧ hJ h' 44 14 = lN (pW (bB tb) (min (e - p) 8) p 0) := by
  intro k
  induction k with
  | zero =>
    intro c hi h tp e8 ew
    have ba := c_byteAt (d := d) (i := p + c) tp (by omega)
    have il := c_misLetter (d := d) (h := h) (n := n) (i := p + c) (tb := tb)
    rw [if_neg (by omega)] at ba il
    rw [decide_eq_false (by omega), Bool.false_and, bI_f] at il
    refine ⟨h, p + c, by rw [sk], fun Q => ?_, gx_refl, fun _ _ => rfl, e8, by rw [show p + c - p = c by omega]; exact ew⟩
    rw [show p + c - p = c by omega]
    simp (implicitDefEqProofs := false) only [rX9_goesOn_84, rX9_goesOn_84b, rX9_goesOn_85, rX9_goesOn_85b, rX9_goesOn_86, rX9_goesOn_89, rX9_goesOn_92, rX9_goesOn_95, rX9_goesOn_98, rX9_goesOn_99, rX9_goesOn_101, rX9_goesOn_104, rX9_goesOn_104b, rX9_goesOn_105, rX9_goesOn_108, rX9_goesOn_108b, rX9_goesOn_109, rX9_goesOn_112, rX9_goesOn_113, rX9_goesOn_113b, rX9_goesOn_114, rX9_goesOn_114b, rX9_goesOn_115, rX9_goesOn_118, rX9_goesOn_121, rX9_goesOn_123, rX9_goesOn_124, rX9_goesOn_125, rX9_goesOn_126, rX9_goesOn_127, rX9_goesOn_128, kA_44, kB_44, e8, ba, il, pCX9_goesOn, pSX9_goesOn, pOX9_goesOn, pLX9_goesOn, pCX9_byteAt, pSX9_byteAt, pOX9_byteAt, pLX9_byteAt, pCX9_isLetter, pSX9_isLetter, pOX9_isLetter, pLX9_isLetter, kl_I, kl_J, kl_R, kl_T, kl_N, Nat.le_refl, Nat.zero_le, List.map_nil, List.map_cons, List.sum_nil, List.sum_cons, c_I, c_J, c_R, c_T, va_rf, hI_wI, hJ_wJ, hR_wR, hI_J, hI_R, hJ_I, hJ_R, hR_I, hR_J, hN_I, hN_J, hN_R, wI_I, wJ_J, upd_at, updL_at, kR_s, Option.toList, List.append_nil, List.nil_append, List.cons_append, if_true, if_false, reduceIte, Bool.false_eq_true, not_true_eq_false, not_false_eq_true, true_and, and_true, false_and, and_false, true_or, or_true,  Nat.reduceEqDiff, Nat.reduceAdd, Nat.reduceLeDiff]
  | succ k ih =>
    intro c hi h tp e8 ew
    have n9 := tp.2.2.1
    have ba := c_byteAt (d := d) (i := p + c) tp (by omega)
    have il := c_misLetter (d := d) (h := h) (n := n) (i := p + c) (tb := tb)
    rw [if_pos (by omega)] at ba il
    rw [decide_eq_true (by omega), Bool.true_and] at il
    rw [sk]
    cases hl : isL (bB tb (p + c)) with
    | true =>
      rw [hl, bI_t] at il
      simp only [if_true]
      have l1 : 97 ≤ bB tb (p + c) ∧ bB tb (p + c) ≤ 122 := by simpa [isL] using hl
      have x1 : gx h (wI h 44 (upd (hI h 44) 8 (nI (p + c + 1)))) := gx_w (fun j hj => by rw [upd_at, if_neg (fun q => by subst q; revert hj; decide)])
      have r1 : nI (bB tb (p + c)) - 97 + 1 = nI (bB tb (p + c) - 96) := by
        rw [show (97 : Int32) = nI 97 from rfl, pk_sub (by omega), nI_1]
        congr 1; omega
      have r2 : (nI (bB tb (p + c) - 96)).toInt64 = lN (bB tb (p + c) - 96) := nI_l (by omega)
      have g8 : (8 ≤ nI c) = (8 ≤ c) := nge (x := c) (k := 8) (c := 8) rfl (by omega) (by omega)
      by_cases c8 : 8 ≤ c
      · obtain ⟨h', e, ee, e1, x2, y2, z2, w2⟩ := ih (c + 1) (by omega) _ (tpF_gx tp x1) (by rw [hI_wI, if_pos rfl, upd_at, if_pos rfl]; rfl) (by rw [hJ_I, ew]; congr 2; omega)
        refine ⟨h', e, ee, fun Q => ?_, gx_tr x1 x2, fun j hj => by rw [y2 j hj, hI_wI, if_pos rfl, upd_at, if_neg hj], z2, w2⟩
        have e1 := e1 Q
        simp (implicitDefEqProofs := false) only [rX9_goesOn_84, rX9_goesOn_84b, rX9_goesOn_85, rX9_goesOn_85b, rX9_goesOn_86, rX9_goesOn_89, rX9_goesOn_92, rX9_goesOn_95, rX9_goesOn_98, rX9_goesOn_99, rX9_goesOn_101, rX9_goesOn_104, rX9_goesOn_104b, rX9_goesOn_105, rX9_goesOn_108, rX9_goesOn_108b, rX9_goesOn_109, rX9_goesOn_112, rX9_goesOn_113, rX9_goesOn_113b, rX9_goesOn_114, rX9_goesOn_114b, rX9_goesOn_115, rX9_goesOn_118, rX9_goesOn_121, rX9_goesOn_123, rX9_goesOn_124, rX9_goesOn_125, rX9_goesOn_126, rX9_goesOn_127, rX9_goesOn_128, kA_44, kB_44, e8, ba, il, show ¬ (1 : Int32) = 0 from by decide, g8, c8, pCX9_goesOn, pSX9_goesOn, pOX9_goesOn, pLX9_goesOn, pCX9_byteAt, pSX9_byteAt, pOX9_byteAt, pLX9_byteAt, pCX9_isLetter, pSX9_isLetter, pOX9_isLetter, pLX9_isLetter, kl_I, kl_J, kl_R, kl_T, kl_N, Nat.le_refl, Nat.zero_le, List.map_nil, List.map_cons, List.sum_nil, List.sum_cons, c_I, c_J, c_R, c_T, va_rf, hI_wI, hJ_wJ, hR_wR, hI_J, hI_R, hJ_I, hJ_R, hR_I, hR_J, hN_I, hN_J, hN_R, wI_I, wJ_J, upd_at, updL_at, kR_s, Option.toList, List.append_nil, List.nil_append, List.cons_append, if_true, if_false, reduceIte, Bool.false_eq_true, not_true_eq_false, not_false_eq_true, true_and, and_true, false_and, and_false, true_or, or_true,  Nat.reduceEqDiff, Nat.reduceAdd, Nat.reduceLeDiff]
        rw [rX9_goesOn_131, nI_1]
        simp (implicitDefEqProofs := false) only [rX9_goesOn_134, rX9_goesOn_134b, rX9_goesOn_135, rX9_goesOn_135b, rX9_goesOn_136, rX9_goesOn_139, rX9_goesOn_140, rX9_goesOn_141, rX9_goesOn_144, kA_44, kB_44, e8, nI_1, pCX9_goesOn, pSX9_goesOn, pOX9_goesOn, pLX9_goesOn, kl_I, kl_J, kl_R, kl_T, kl_N, Nat.le_refl, Nat.zero_le, List.map_nil, List.map_cons, List.sum_nil, List.sum_cons, c_I, c_J, c_R, c_T, va_rf, hI_wI, hJ_wJ, hR_wR, hI_J, hI_R, hJ_I, hJ_R, hR_I, hR_J, hN_I, hN_J, hN_R, wI_I, wJ_J, upd_at, updL_at, kR_s, Option.toList, List.append_nil, List.nil_append, List.cons_append, if_true, if_false, reduceIte, Bool.false_eq_true, not_true_eq_false, not_false_eq_true, true_and, and_true, false_and, and_false, true_or, or_true,  Nat.reduceEqDiff, Nat.reduceAdd, Nat.reduceLeDiff]
        exact e1
      · have m1 : min c 8 = c := by omega
        have m2 : min (c + 1) 8 = c + 1 := by omega
        rw [m1] at ew
        have x0 : gx h (wJ h 44 (vp_updL (hJ h 44) 14 (lN (pW (bB tb) (c + 1) p 0)))) := gx_J
        have x1' : gx h (wI (wJ h 44 (vp_updL (hJ h 44) 14 (lN (pW (bB tb) (c + 1) p 0)))) 44 (upd (hI h 44) 8 (nI (p + c + 1)))) := gx_tr x0 (gx_w (fun j hj => by rw [upd_at, if_neg (fun q => by subst q; revert hj; decide)]; rfl))
        obtain ⟨h', e, ee, e1, x2, y2, z2, w2⟩ := ih (c + 1) (by omega) _ (tpF_gx tp x1') (by rw [hI_wI, if_pos rfl, upd_at, if_pos rfl]; rfl) (by rw [hJ_I, hJ_wJ, if_pos rfl, updL_at, if_pos rfl, m2])
        refine ⟨h', e, ee, fun Q => ?_, gx_tr x1' x2, fun j hj => by rw [y2 j hj, hI_wI, if_pos rfl, upd_at, if_neg hj], z2, w2⟩
        have e1 := e1 Q
        have pw : lN 32 * lN (pW (bB tb) c p 0) + lN (bB tb (p + c) - 96) = lN (pW (bB tb) (c + 1) p 0) := by rw [lN_mul, lN_add, pW_s]
        simp (implicitDefEqProofs := false) only [rX9_goesOn_84, rX9_goesOn_84b, rX9_goesOn_85, rX9_goesOn_85b, rX9_goesOn_86, rX9_goesOn_89, rX9_goesOn_92, rX9_goesOn_95, rX9_goesOn_98, rX9_goesOn_99, rX9_goesOn_101, rX9_goesOn_104, rX9_goesOn_104b, rX9_goesOn_105, rX9_goesOn_108, rX9_goesOn_108b, rX9_goesOn_109, rX9_goesOn_112, rX9_goesOn_113, rX9_goesOn_113b, rX9_goesOn_114, rX9_goesOn_114b, rX9_goesOn_115, rX9_goesOn_118, rX9_goesOn_121, rX9_goesOn_123, rX9_goesOn_124, rX9_goesOn_125, rX9_goesOn_126, rX9_goesOn_127, rX9_goesOn_128, kA_44, kB_44, e8, ba, il, show ¬ (1 : Int32) = 0 from by decide, g8, c8, ew, show (32 : Int64) = lN 32 from rfl, r1, r2, pw, pCX9_goesOn, pSX9_goesOn, pOX9_goesOn, pLX9_goesOn, pCX9_byteAt, pSX9_byteAt, pOX9_byteAt, pLX9_byteAt, pCX9_isLetter, pSX9_isLetter, pOX9_isLetter, pLX9_isLetter, kl_I, kl_J, kl_R, kl_T, kl_N, Nat.le_refl, Nat.zero_le, List.map_nil, List.map_cons, List.sum_nil, List.sum_cons, c_I, c_J, c_R, c_T, va_rf, hI_wI, hJ_wJ, hR_wR, hI_J, hI_R, hJ_I, hJ_R, hR_I, hR_J, hN_I, hN_J, hN_R, wI_I, wJ_J, upd_at, updL_at, kR_s, Option.toList, List.append_nil, List.nil_append, List.cons_append, if_true, if_false, reduceIte, Bool.false_eq_true, not_true_eq_false, not_false_eq_true, true_and, and_true, false_and, and_false, true_or, or_true,  Nat.reduceEqDiff, Nat.reduceAdd, Nat.reduceLeDiff]
        rw [rX9_goesOn_131, nI_1]
        simp (implicitDefEqProofs := false) only [rX9_goesOn_134, rX9_goesOn_134b, rX9_goesOn_135, rX9_goesOn_135b, rX9_goesOn_136, rX9_goesOn_139, rX9_goesOn_140, rX9_goesOn_141, rX9_goesOn_144, kA_44, kB_44, e8, nI_1, pCX9_goesOn, pSX9_goesOn, pOX9_goesOn, pLX9_goesOn, kl_I, kl_J, kl_R, kl_T, kl_N, Nat.le_refl, Nat.zero_le, List.map_nil, List.map_cons, List.sum_nil, List.sum_cons, c_I, c_J, c_R, c_T, va_rf, hI_wI, hJ_wJ, hR_wR, hI_J, hI_R, hJ_I, hJ_R, hR_I, hR_J, hN_I, hN_J, hN_R, wI_I, wJ_J, upd_at, updL_at, kR_s, Option.toList, List.append_nil, List.nil_append, List.cons_append, if_true, if_false, reduceIte, Bool.false_eq_true, not_true_eq_false, not_false_eq_true, true_and, and_true, false_and, and_false, true_or, or_true,  Nat.reduceEqDiff, Nat.reduceAdd, Nat.reduceLeDiff]
        exact e1
    | false =>
      rw [hl, bI_f] at il
      simp only [Bool.false_eq_true, if_false]
      refine ⟨h, p + c, rfl, fun Q => ?_, gx_refl, fun _ _ => rfl, e8, by rw [show p + c - p = c by omega]; exact ew⟩
      rw [show p + c - p = c by omega]
      simp (implicitDefEqProofs := false) only [rX9_goesOn_84, rX9_goesOn_84b, rX9_goesOn_85, rX9_goesOn_85b, rX9_goesOn_86, rX9_goesOn_89, rX9_goesOn_92, rX9_goesOn_95, rX9_goesOn_98, rX9_goesOn_99, rX9_goesOn_101, rX9_goesOn_104, rX9_goesOn_104b, rX9_goesOn_105, rX9_goesOn_108, rX9_goesOn_108b, rX9_goesOn_109, rX9_goesOn_112, rX9_goesOn_113, rX9_goesOn_113b, rX9_goesOn_114, rX9_goesOn_114b, rX9_goesOn_115, rX9_goesOn_118, rX9_goesOn_121, rX9_goesOn_123, rX9_goesOn_124, rX9_goesOn_125, rX9_goesOn_126, rX9_goesOn_127, rX9_goesOn_128, kA_44, kB_44, e8, ba, il, pCX9_goesOn, pSX9_goesOn, pOX9_goesOn, pLX9_goesOn, pCX9_byteAt, pSX9_byteAt, pOX9_byteAt, pLX9_byteAt, pCX9_isLetter, pSX9_isLetter, pOX9_isLetter, pLX9_isLetter, kl_I, kl_J, kl_R, kl_T, kl_N, Nat.le_refl, Nat.zero_le, List.map_nil, List.map_cons, List.sum_nil, List.sum_cons, c_I, c_J, c_R, c_T, va_rf, hI_wI, hJ_wJ, hR_wR, hI_J, hI_R, hJ_I, hJ_R, hR_I, hR_J, hN_I, hN_J, hN_R, wI_I, wJ_J, upd_at, updL_at, kR_s, Option.toList, List.append_nil, List.nil_append, List.cons_append, if_true, if_false, reduceIte, Bool.false_eq_true, not_true_eq_false, not_false_eq_true, true_and, and_true, false_and, and_false, true_or, or_true,  Nat.reduceEqDiff, Nat.reduceAdd, Nat.reduceLeDiff]
theorem pD_s {b : Nat → Nat} : ∀ k i v, pD b (k + 1) i v = 10 * pD b k i v + (b (i + k) - 48)
  | 0, i, v => by simp [pD]
  | k + 1, i, v => by
    rw [pD, pD_s k (i + 1), pD, show i + 1 + k = i + (k + 1) by omega]
theorem l_go3 {d : Nat} {n p : Nat} {tb : Nat → Int32} {z1 : Int32} : ∀ (k c : Nat), p + c + k = n → ∀ (h : qH), tpF h n tb → hI h 44 8 = nI (p + c) → hI h 44 11 = nI (pD (bB tb) (min c 3) p 0) → ∃ h' e, e = sk (fun i => isD (bB tb i)) k (p + c) ∧ (∀ Q, WP (d + 1) mX9_goesOn (0, 0) 173 [some (.ref (44 : Nat)), some (.int z1), some (.int (nI c))] [] h Q = WP (d + 1) mX9_goesOn (0, 0) 231 [some (.ref (44 : Nat)), some (.int z1), some (.int (nI (e - p)))] [] h' Q) ∧ gx h h' ∧ (∀ j, j ≠ 8 → j ≠ 11 → hI h' 44 j = hI h 44 j) ∧ hI h' 44 8 = nI e ∧ hI h' 44 11 = nI (pD (bB tb) (min (e - p) 3) p 0) := by
  intro k
  induction k with
  | zero =>
    intro c hi h tp e8 ew
    have ba := c_byteAt (d := d) (i := p + c) tp (by omega)
    have il := c_misDigit (d := d) (h := h) (n := n) (i := p + c) (tb := tb)
    rw [if_neg (by omega)] at ba il
    rw [decide_eq_false (by omega), Bool.false_and, bI_f] at il
    refine ⟨h, p + c, by rw [sk], fun Q => ?_, gx_refl, fun _ _ _ => rfl, e8, by rw [show p + c - p = c by omega]; exact ew⟩
    rw [show p + c - p = c by omega]
    simp (implicitDefEqProofs := false) only [rX9_goesOn_173, rX9_goesOn_173b, rX9_goesOn_174, rX9_goesOn_174b, rX9_goesOn_175, rX9_goesOn_178, rX9_goesOn_181, rX9_goesOn_184, rX9_goesOn_187, rX9_goesOn_188, rX9_goesOn_189, rX9_goesOn_192, rX9_goesOn_192b, rX9_goesOn_193, rX9_goesOn_195, rX9_goesOn_195b, rX9_goesOn_196, rX9_goesOn_199, rX9_goesOn_200, rX9_goesOn_200b, rX9_goesOn_201, rX9_goesOn_201b, rX9_goesOn_202, rX9_goesOn_205, rX9_goesOn_208, rX9_goesOn_209, rX9_goesOn_211, rX9_goesOn_212, kA_44, kB_44, e8, ba, il, pCX9_goesOn, pSX9_goesOn, pOX9_goesOn, pLX9_goesOn, pCX9_byteAt, pSX9_byteAt, pOX9_byteAt, pLX9_byteAt, pCX9_isDigit, pSX9_isDigit, pOX9_isDigit, pLX9_isDigit, kl_I, kl_J, kl_R, kl_T, kl_N, Nat.le_refl, Nat.zero_le, List.map_nil, List.map_cons, List.sum_nil, List.sum_cons, c_I, c_J, c_R, c_T, va_rf, hI_wI, hJ_wJ, hR_wR, hI_J, hI_R, hJ_I, hJ_R, hR_I, hR_J, hN_I, hN_J, hN_R, wI_I, wJ_J, upd_at, updL_at, kR_s, Option.toList, List.append_nil, List.nil_append, List.cons_append, if_true, if_false, reduceIte, Bool.false_eq_true, not_true_eq_false, not_false_eq_true, true_and, and_true, false_and, and_false, true_or, or_true,  Nat.reduceEqDiff, Nat.reduceAdd, Nat.reduceLeDiff]
  | succ k ih =>
    intro c hi h tp e8 ew
    have n9 := tp.2.2.1
    have ba := c_byteAt (d := d) (i := p + c) tp (by omega)
    have il := c_misDigit (d := d) (h := h) (n := n) (i := p + c) (tb := tb)
    rw [if_pos (by omega)] at ba il
    rw [decide_eq_true (by omega), Bool.true_and] at il
    rw [sk]
    cases hl : isD (bB tb (p + c)) with
    | true =>
      rw [hl, bI_t] at il
      simp only [if_true]
      have l1 : 48 ≤ bB tb (p + c) ∧ bB tb (p + c) ≤ 57 := by simpa [isD] using hl
      have x1 : gx h (wI h 44 (upd (hI h 44) 8 (nI (p + c + 1)))) := gx_w (fun j hj => by rw [upd_at, if_neg (fun q => by subst q; revert hj; decide)])
      have g8 : (3 ≤ nI c) = (3 ≤ c) := nge (x := c) (k := 3) (c := 3) rfl (by omega) (by omega)
      by_cases c8 : 3 ≤ c
      · obtain ⟨h', e, ee, e1, x2, y2, z2, w2⟩ := ih (c + 1) (by omega) _ (tpF_gx tp x1) (by rw [hI_wI, if_pos rfl, upd_at, if_pos rfl]; rfl) (by rw [hI_wI, if_pos rfl, upd_at, if_neg (by decide), ew]; congr 2; omega)
        refine ⟨h', e, ee, fun Q => ?_, gx_tr x1 x2, fun j hj h11 => by rw [y2 j hj h11, hI_wI, if_pos rfl, upd_at, if_neg hj], z2, w2⟩
        have e1 := e1 Q
        simp (implicitDefEqProofs := false) only [rX9_goesOn_173, rX9_goesOn_173b, rX9_goesOn_174, rX9_goesOn_174b, rX9_goesOn_175, rX9_goesOn_178, rX9_goesOn_181, rX9_goesOn_184, rX9_goesOn_187, rX9_goesOn_188, rX9_goesOn_189, rX9_goesOn_192, rX9_goesOn_192b, rX9_goesOn_193, rX9_goesOn_195, rX9_goesOn_195b, rX9_goesOn_196, rX9_goesOn_199, rX9_goesOn_200, rX9_goesOn_200b, rX9_goesOn_201, rX9_goesOn_201b, rX9_goesOn_202, rX9_goesOn_205, rX9_goesOn_208, rX9_goesOn_209, rX9_goesOn_211, rX9_goesOn_212, kA_44, kB_44, e8, ba, il, show ¬ (1 : Int32) = 0 from by decide, g8, c8, pCX9_goesOn, pSX9_goesOn, pOX9_goesOn, pLX9_goesOn, pCX9_byteAt, pSX9_byteAt, pOX9_byteAt, pLX9_byteAt, pCX9_isDigit, pSX9_isDigit, pOX9_isDigit, pLX9_isDigit, kl_I, kl_J, kl_R, kl_T, kl_N, Nat.le_refl, Nat.zero_le, List.map_nil, List.map_cons, List.sum_nil, List.sum_cons, c_I, c_J, c_R, c_T, va_rf, hI_wI, hJ_wJ, hR_wR, hI_J, hI_R, hJ_I, hJ_R, hR_I, hR_J, hN_I, hN_J, hN_R, wI_I, wJ_J, upd_at, updL_at, kR_s, Option.toList, List.append_nil, List.nil_append, List.cons_append, if_true, if_false, reduceIte, Bool.false_eq_true, not_true_eq_false, not_false_eq_true, true_and, and_true, false_and, and_false, true_or, or_true,  Nat.reduceEqDiff, Nat.reduceAdd, Nat.reduceLeDiff]
        rw [rX9_goesOn_215, nI_1]
        simp (implicitDefEqProofs := false) only [rX9_goesOn_218, rX9_goesOn_218b, rX9_goesOn_219, rX9_goesOn_219b, rX9_goesOn_220, rX9_goesOn_223, rX9_goesOn_224, rX9_goesOn_225, rX9_goesOn_228, kA_44, kB_44, e8, nI_1, pCX9_goesOn, pSX9_goesOn, pOX9_goesOn, pLX9_goesOn, kl_I, kl_J, kl_R, kl_T, kl_N, Nat.le_refl, Nat.zero_le, List.map_nil, List.map_cons, List.sum_nil, List.sum_cons, c_I, c_J, c_R, c_T, va_rf, hI_wI, hJ_wJ, hR_wR, hI_J, hI_R, hJ_I, hJ_R, hR_I, hR_J, hN_I, hN_J, hN_R, wI_I, wJ_J, upd_at, updL_at, kR_s, Option.toList, List.append_nil, List.nil_append, List.cons_append, if_true, if_false, reduceIte, Bool.false_eq_true, not_true_eq_false, not_false_eq_true, true_and, and_true, false_and, and_false, true_or, or_true,  Nat.reduceEqDiff, Nat.reduceAdd, Nat.reduceLeDiff]
        exact e1
      · have m1 : min c 3 = c := by omega
        have m2 : min (c + 1) 3 = c + 1 := by omega
        rw [m1] at ew
        have x1' : gx h (wI h 44 (upd (upd (hI h 44) 11 (nI (pD (bB tb) (c + 1) p 0))) 8 (nI (p + c + 1)))) := gx_w (fun j hj => by rw [upd_at, if_neg (fun q => by subst q; revert hj; decide), upd_at, if_neg (fun q => by subst q; revert hj; decide)])
        obtain ⟨h', e, ee, e1, x2, y2, z2, w2⟩ := ih (c + 1) (by omega) _ (tpF_gx tp x1') (by rw [hI_wI, if_pos rfl, upd_at, if_pos rfl]; rfl) (by rw [hI_wI, if_pos rfl, upd_at, if_neg (by decide), upd_at, if_pos rfl, m2])
        refine ⟨h', e, ee, fun Q => ?_, gx_tr x1' x2, fun j hj h11 => by rw [y2 j hj h11, hI_wI, if_pos rfl, upd_at, if_neg hj, upd_at, if_neg h11], z2, w2⟩
        have e1 := e1 Q
        have pw : 10 * nI (pD (bB tb) c p 0) + nI (bB tb (p + c)) - 48 = nI (pD (bB tb) (c + 1) p 0) := by
          rw [show (10 : Int32) = nI 10 from rfl, show (48 : Int32) = nI 48 from rfl, nI_mul, nI_add, pk_sub (by omega), pD_s]
          congr 1; omega
        simp (implicitDefEqProofs := false) only [rX9_goesOn_173, rX9_goesOn_173b, rX9_goesOn_174, rX9_goesOn_174b, rX9_goesOn_175, rX9_goesOn_178, rX9_goesOn_181, rX9_goesOn_184, rX9_goesOn_187, rX9_goesOn_188, rX9_goesOn_189, rX9_goesOn_192, rX9_goesOn_192b, rX9_goesOn_193, rX9_goesOn_195, rX9_goesOn_195b, rX9_goesOn_196, rX9_goesOn_199, rX9_goesOn_200, rX9_goesOn_200b, rX9_goesOn_201, rX9_goesOn_201b, rX9_goesOn_202, rX9_goesOn_205, rX9_goesOn_208, rX9_goesOn_209, rX9_goesOn_211, rX9_goesOn_212, kA_44, kB_44, e8, ba, il, show ¬ (1 : Int32) = 0 from by decide, g8, c8, ew, pw, pCX9_goesOn, pSX9_goesOn, pOX9_goesOn, pLX9_goesOn, pCX9_byteAt, pSX9_byteAt, pOX9_byteAt, pLX9_byteAt, pCX9_isDigit, pSX9_isDigit, pOX9_isDigit, pLX9_isDigit, kl_I, kl_J, kl_R, kl_T, kl_N, Nat.le_refl, Nat.zero_le, List.map_nil, List.map_cons, List.sum_nil, List.sum_cons, c_I, c_J, c_R, c_T, va_rf, hI_wI, hJ_wJ, hR_wR, hI_J, hI_R, hJ_I, hJ_R, hR_I, hR_J, hN_I, hN_J, hN_R, wI_I, wJ_J, upd_at, updL_at, kR_s, Option.toList, List.append_nil, List.nil_append, List.cons_append, if_true, if_false, reduceIte, Bool.false_eq_true, not_true_eq_false, not_false_eq_true, true_and, and_true, false_and, and_false, true_or, or_true,  Nat.reduceEqDiff, Nat.reduceAdd, Nat.reduceLeDiff]
        rw [rX9_goesOn_215, nI_1]
        simp (implicitDefEqProofs := false) only [rX9_goesOn_218, rX9_goesOn_218b, rX9_goesOn_219, rX9_goesOn_219b, rX9_goesOn_220, rX9_goesOn_223, rX9_goesOn_224, rX9_goesOn_225, rX9_goesOn_228, kA_44, kB_44, e8, nI_1, pCX9_goesOn, pSX9_goesOn, pOX9_goesOn, pLX9_goesOn, kl_I, kl_J, kl_R, kl_T, kl_N, Nat.le_refl, Nat.zero_le, List.map_nil, List.map_cons, List.sum_nil, List.sum_cons, c_I, c_J, c_R, c_T, va_rf, hI_wI, hJ_wJ, hR_wR, hI_J, hI_R, hJ_I, hJ_R, hR_I, hR_J, hN_I, hN_J, hN_R, wI_I, wJ_J, upd_at, updL_at, kR_s, Option.toList, List.append_nil, List.nil_append, List.cons_append, if_true, if_false, reduceIte, Bool.false_eq_true, not_true_eq_false, not_false_eq_true, true_and, and_true, false_and, and_false, true_or, or_true,  Nat.reduceEqDiff, Nat.reduceAdd, Nat.reduceLeDiff]
        exact e1
    | false =>
      rw [hl, bI_f] at il
      simp only [Bool.false_eq_true, if_false]
      refine ⟨h, p + c, rfl, fun Q => ?_, gx_refl, fun _ _ _ => rfl, e8, by rw [show p + c - p = c by omega]; exact ew⟩
      rw [show p + c - p = c by omega]
      simp (implicitDefEqProofs := false) only [rX9_goesOn_173, rX9_goesOn_173b, rX9_goesOn_174, rX9_goesOn_174b, rX9_goesOn_175, rX9_goesOn_178, rX9_goesOn_181, rX9_goesOn_184, rX9_goesOn_187, rX9_goesOn_188, rX9_goesOn_189, rX9_goesOn_192, rX9_goesOn_192b, rX9_goesOn_193, rX9_goesOn_195, rX9_goesOn_195b, rX9_goesOn_196, rX9_goesOn_199, rX9_goesOn_200, rX9_goesOn_200b, rX9_goesOn_201, rX9_goesOn_201b, rX9_goesOn_202, rX9_goesOn_205, rX9_goesOn_208, rX9_goesOn_209, rX9_goesOn_211, rX9_goesOn_212, kA_44, kB_44, e8, ba, il, pCX9_goesOn, pSX9_goesOn, pOX9_goesOn, pLX9_goesOn, pCX9_byteAt, pSX9_byteAt, pOX9_byteAt, pLX9_byteAt, pCX9_isDigit, pSX9_isDigit, pOX9_isDigit, pLX9_isDigit, kl_I, kl_J, kl_R, kl_T, kl_N, Nat.le_refl, Nat.zero_le, List.map_nil, List.map_cons, List.sum_nil, List.sum_cons, c_I, c_J, c_R, c_T, va_rf, hI_wI, hJ_wJ, hR_wR, hI_J, hI_R, hJ_I, hJ_R, hR_I, hR_J, hN_I, hN_J, hN_R, wI_I, wJ_J, upd_at, updL_at, kR_s, Option.toList, List.append_nil, List.nil_append, List.cons_append, if_true, if_false, reduceIte, Bool.false_eq_true, not_true_eq_false, not_false_eq_true, true_and, and_true, false_and, and_false, true_or, or_true,  Nat.reduceEqDiff, Nat.reduceAdd, Nat.reduceLeDiff]
set_option maxHeartbeats 1000000 in
theorem c_goesOn {d : Nat} {h : qH} {n q : Nat} {tb : Nat → Int32} (tp : tpF h n tb) (hq : q ≤ n) (e8 : hI h 44 8 = nI q) (e9 : ¬ hI h 44 9 = 5) : ∃ h', (∀ Q, WM (d + 1) mX9_goesOn [.ref (44 : Nat)] h Q = Q (some none) h') ∧ gx h h' ∧ tkF h' (bB tb) (tkN (bB tb) n q) := by
  obtain ⟨h1, f1, x1, r8⟩ := l_go1 (d := d) (o1 := none) (o2 := none) (n - q) q (by omega) h tp e8
  have hb := sk_b (f := fun i => decide (bB tb i = 32)) (n - q) q
  have n9 := tp.2.2.1
  unfold tkN
  generalize hp : bE (bB tb) n q = p
  have r8 : hI h1 44 8 = nI p := by rw [r8]; congr 1
  have hpn : p ≤ n := by rw [← hp]; unfold bE; omega
  have x2 : gx h1 (wI h1 44 (upd (upd (hI h1 44) 10 (nI p)) 9 0)) := gx_w (fun j hj => by rw [upd_at, if_neg (fun q => by subst q; revert hj; decide), upd_at, if_neg (fun q => by subst q; revert hj; decide)])
  have tp2 := tpF_gx (tpF_gx tp x1) x2
  have r82 : hI (wI h1 44 (upd (upd (hI h1 44) 10 (nI p)) 9 0)) 44 8 = nI p := by rw [hI_wI, if_pos rfl, upd_at, if_neg (by decide), upd_at, if_neg (by decide)]; exact r8
  have r92 : hI (wI h1 44 (upd (upd (hI h1 44) 10 (nI p)) 9 0)) 44 9 = 0 := by rw [hI_wI, if_pos rfl, upd_at, if_pos rfl]
  have r102 : hI (wI h1 44 (upd (upd (hI h1 44) 10 (nI p)) 9 0)) 44 10 = nI p := by rw [hI_wI, if_pos rfl, upd_at, if_neg (by decide), upd_at, if_pos rfl]
  have ba := c_byteAt (d := d) (i := p) tp2 hpn
  have st : ∀ Q X, WP (d + 1) mX9_goesOn (0, 0) 59 [some (.ref (44 : Nat)), some (.int (if p < n then nI (bB tb p) else -1)), some (.int (nI 0))] [] (wI h1 44 (upd (upd (hI h1 44) 10 (nI p)) 9 0)) Q = X → WM (d + 1) mX9_goesOn [.ref (44 : Nat)] h Q = X := fun Q X hX => by
    have f1 := f1 Q
    simp (implicitDefEqProofs := false) only [eX9_goesOn, rX9_goesOn_0, rX9_goesOn_0b, rX9_goesOn_1, rX9_goesOn_4, rX9_goesOn_5, kA_44, kB_44, e9, pCX9_goesOn, pSX9_goesOn, pOX9_goesOn, pLX9_goesOn, kl_I, kl_J, kl_R, kl_T, kl_N, Nat.le_refl, Nat.zero_le, List.map_nil, List.map_cons, List.sum_nil, List.sum_cons, c_I, c_J, c_R, c_T, va_rf, hI_wI, hJ_wJ, hR_wR, hI_J, hI_R, hJ_I, hJ_R, hR_I, hR_J, hN_I, hN_J, hN_R, wI_I, wJ_J, upd_at, updL_at, kR_s, Option.toList, List.append_nil, List.nil_append, List.cons_append, if_true, if_false, reduceIte, Bool.false_eq_true, not_true_eq_false, not_false_eq_true, true_and, and_true, false_and, and_false, true_or, or_true,  Nat.reduceEqDiff, Nat.reduceAdd, Nat.reduceLeDiff]
    rw [f1]
    simp (implicitDefEqProofs := false) only [rX9_goesOn_35, rX9_goesOn_35b, rX9_goesOn_36, rX9_goesOn_36b, rX9_goesOn_37, rX9_goesOn_40, rX9_goesOn_43, rX9_goesOn_43b, rX9_goesOn_44, rX9_goesOn_45, rX9_goesOn_48, rX9_goesOn_48b, rX9_goesOn_49, rX9_goesOn_49b, rX9_goesOn_50, rX9_goesOn_53, rX9_goesOn_56, rX9_goesOn_57, rX9_goesOn_58, kA_44, kB_44, r8, ba, pCX9_goesOn, pSX9_goesOn, pOX9_goesOn, pLX9_goesOn, pCX9_byteAt, pSX9_byteAt, pOX9_byteAt, pLX9_byteAt, kl_I, kl_J, kl_R, kl_T, kl_N, Nat.le_refl, Nat.zero_le, List.map_nil, List.map_cons, List.sum_nil, List.sum_cons, c_I, c_J, c_R, c_T, va_rf, hI_wI, hJ_wJ, hR_wR, hI_J, hI_R, hJ_I, hJ_R, hR_I, hR_J, hN_I, hN_J, hN_R, wI_I, wJ_J, upd_at, updL_at, kR_s, Option.toList, List.append_nil, List.nil_append, List.cons_append, if_true, if_false, reduceIte, Bool.false_eq_true, not_true_eq_false, not_false_eq_true, true_and, and_true, false_and, and_false, true_or, or_true,  Nat.reduceEqDiff, Nat.reduceAdd, Nat.reduceLeDiff]
    rw [← nI_0]
    exact hX
  clear f1 e8 e9
  generalize wI h1 44 (upd (upd (hI h1 44) 10 (nI p)) 9 0) = h2 at x2 tp2 r82 r92 r102 ba st
  have x12 := gx_tr x1 x2
  have bl := bB_lt (tb := tb) p
  unfold tk1
  have il := c_misLetter (d := d) (h := h2) (n := n) (i := p) (tb := tb)
  have id := c_misDigit (d := d) (h := h2) (n := n) (i := p) (tb := tb)
  by_cases c1 : n ≤ p
  · rw [if_pos c1]
    rw [if_neg (by omega)] at st
    have x3 : gx h2 (wI h2 44 (upd (hI h2 44) 9 1)) := gx_w (fun j hj => by rw [upd_at, if_neg (fun q => by subst q; revert hj; decide)])
    refine ⟨_, fun Q => st Q _ ?_, gx_tr x12 x3, ?_, ?_, ?_, (fun q => by cases q), (fun q => by cases q)⟩
    · simp (implicitDefEqProofs := false) only [rX9_goesOn_59, rX9_goesOn_60, rX9_goesOn_61, rX9_goesOn_64, rX9_goesOn_64b, rX9_goesOn_65, rX9_goesOn_66, rX9_goesOn_69, rX9_goesOn_265, kA_44, kB_44, pCX9_goesOn, pSX9_goesOn, pOX9_goesOn, pLX9_goesOn, kl_I, kl_J, kl_R, kl_T, kl_N, Nat.le_refl, Nat.zero_le, List.map_nil, List.map_cons, List.sum_nil, List.sum_cons, c_I, c_J, c_R, c_T, va_rf, hI_wI, hJ_wJ, hR_wR, hI_J, hI_R, hJ_I, hJ_R, hR_I, hR_J, hN_I, hN_J, hN_R, wI_I, wJ_J, upd_at, updL_at, kR_s, Option.toList, List.append_nil, List.nil_append, List.cons_append, if_true, if_false, reduceIte, Bool.false_eq_true, not_true_eq_false, not_false_eq_true, true_and, and_true, false_and, and_false, true_or, or_true,  Nat.reduceEqDiff, Nat.reduceAdd, Nat.reduceLeDiff]
    · intro _; rw [hI_wI, if_pos rfl, upd_at, if_neg (by decide)]; exact r82
    · rw [hI_wI, if_pos rfl, upd_at, if_pos rfl]; rfl
    · rw [hI_wI, if_pos rfl, upd_at, if_neg (by decide)]; exact r102
  · rw [if_neg c1]
    rw [if_pos (by omega)] at st il id
    rw [decide_eq_true (by omega), Bool.true_and] at il id
    have nm := nM (x := bB tb p) (by omega)
    cases c2 : isL (bB tb p) with
    | true =>
      rw [c2, bI_t] at il
      simp only [if_true]
      have x3 : gx h2 (wJ h2 44 (vp_updL (hJ h2 44) 14 0)) := gx_J
      obtain ⟨h3, e, ee, f3, x4, y3, z3, w3⟩ := l_go2 (d := d) (n := n) (p := p) (tb := tb) (z1 := nI (bB tb p)) (n - p) 0 (by omega) _ (tpF_gx tp2 x3) r82 (by rw [hJ_wJ, if_pos rfl, updL_at, if_pos rfl]; rfl)
      have he : e = wE (bB tb) n p := ee
      have hw := sk_b (f := fun i => isL (bB tb i)) (n - p) p
      rw [Nat.add_zero] at ee
      have el : p ≤ e ∧ e ≤ n := by rw [ee]; omega
      have st2 : ∀ Q X, WP (d + 1) mX9_goesOn (0, 0) 147 [some (.ref (44 : Nat)), some (.int (nI (bB tb p))), some (.int (nI (e - p)))] [] h3 Q = X → WM (d + 1) mX9_goesOn [.ref (44 : Nat)] h Q = X := fun Q X hX => st Q X (by
        have f3 := f3 Q
        simp (implicitDefEqProofs := false) only [rX9_goesOn_59, rX9_goesOn_60, rX9_goesOn_61, rX9_goesOn_64, rX9_goesOn_64b, rX9_goesOn_65, rX9_goesOn_66, rX9_goesOn_69, rX9_goesOn_72, rX9_goesOn_73, rX9_goesOn_76, rX9_goesOn_79, rX9_goesOn_79b, rX9_goesOn_80, rX9_goesOn_81, kA_44, kB_44, nm, il, show ¬ (1 : Int32) = 0 from by decide, pCX9_goesOn, pSX9_goesOn, pOX9_goesOn, pLX9_goesOn, pCX9_isLetter, pSX9_isLetter, pOX9_isLetter, pLX9_isLetter, kl_I, kl_J, kl_R, kl_T, kl_N, Nat.le_refl, Nat.zero_le, List.map_nil, List.map_cons, List.sum_nil, List.sum_cons, c_I, c_J, c_R, c_T, va_rf, hI_wI, hJ_wJ, hR_wR, hI_J, hI_R, hJ_I, hJ_R, hR_I, hR_J, hN_I, hN_J, hN_R, wI_I, wJ_J, upd_at, updL_at, kR_s, Option.toList, List.append_nil, List.nil_append, List.cons_append, if_true, if_false, reduceIte, Bool.false_eq_true, not_true_eq_false, not_false_eq_true, true_and, and_true, false_and, and_false, true_or, or_true,  Nat.reduceEqDiff, Nat.reduceAdd, Nat.reduceLeDiff]
        exact f3.trans hX)
      have g8 : (8 < nI (e - p)) = (8 < e - p) := ngt (x := e - p) (k := 8) (c := 8) rfl (by omega) (by omega)
      have f9 : hI h3 44 9 = 0 := by rw [y3 9 (by decide)]; exact r92
      have f10 : hI h3 44 10 = nI p := by rw [y3 10 (by decide)]; exact r102
      rw [← he]
      by_cases c8 : e - p ≤ 8
      · rw [if_pos c8]
        have x5 : gx h3 (wI h3 44 (upd (hI h3 44) 9 2)) := gx_w (fun j hj => by rw [upd_at, if_neg (fun q => by subst q; revert hj; decide)])
        refine ⟨_, fun Q => st2 Q _ ?_, gx_tr x12 (gx_tr x3 (gx_tr x4 x5)), ?_, ?_, ?_, fun _ => ?_, (fun q => by cases q)⟩
        · simp (implicitDefEqProofs := false) only [rX9_goesOn_147, rX9_goesOn_148, rX9_goesOn_150, rX9_goesOn_153, rX9_goesOn_153b, rX9_goesOn_154, rX9_goesOn_155, rX9_goesOn_158, rX9_goesOn_265, kA_44, kB_44, g8, show ¬ 8 < e - p from by omega, pCX9_goesOn, pSX9_goesOn, pOX9_goesOn, pLX9_goesOn, kl_I, kl_J, kl_R, kl_T, kl_N, Nat.le_refl, Nat.zero_le, List.map_nil, List.map_cons, List.sum_nil, List.sum_cons, c_I, c_J, c_R, c_T, va_rf, hI_wI, hJ_wJ, hR_wR, hI_J, hI_R, hJ_I, hJ_R, hR_I, hR_J, hN_I, hN_J, hN_R, wI_I, wJ_J, upd_at, updL_at, kR_s, Option.toList, List.append_nil, List.nil_append, List.cons_append, if_true, if_false, reduceIte, Bool.false_eq_true, not_true_eq_false, not_false_eq_true, true_and, and_true, false_and, and_false, true_or, or_true,  Nat.reduceEqDiff, Nat.reduceAdd, Nat.reduceLeDiff]
        · intro _; rw [hI_wI, if_pos rfl, upd_at, if_neg (by decide)]; exact z3
        · rw [hI_wI, if_pos rfl, upd_at, if_pos rfl]; rfl
        · rw [hI_wI, if_pos rfl, upd_at, if_neg (by decide)]; exact f10
        · rw [hJ_I, w3, show min (e - p) 8 = e - p by omega]; rfl
      · rw [if_neg c8]
        refine ⟨h3, fun Q => st2 Q _ ?_, gx_tr x12 (gx_tr x3 x4), fun _ => z3, f9, f10, (fun q => by cases q), (fun q => by cases q)⟩
        simp (implicitDefEqProofs := false) only [rX9_goesOn_147, rX9_goesOn_148, rX9_goesOn_150, rX9_goesOn_153, rX9_goesOn_153b, rX9_goesOn_154, rX9_goesOn_155, rX9_goesOn_158, rX9_goesOn_265, kA_44, kB_44, g8, show 8 < e - p from by omega, pCX9_goesOn, pSX9_goesOn, pOX9_goesOn, pLX9_goesOn, kl_I, kl_J, kl_R, kl_T, kl_N, Nat.le_refl, Nat.zero_le, List.map_nil, List.map_cons, List.sum_nil, List.sum_cons, c_I, c_J, c_R, c_T, va_rf, hI_wI, hJ_wJ, hR_wR, hI_J, hI_R, hJ_I, hJ_R, hR_I, hR_J, hN_I, hN_J, hN_R, wI_I, wJ_J, upd_at, updL_at, kR_s, Option.toList, List.append_nil, List.nil_append, List.cons_append, if_true, if_false, reduceIte, Bool.false_eq_true, not_true_eq_false, not_false_eq_true, true_and, and_true, false_and, and_false, true_or, or_true,  Nat.reduceEqDiff, Nat.reduceAdd, Nat.reduceLeDiff]
    | false =>
      rw [c2, bI_f] at il
      simp only [Bool.false_eq_true, if_false]
      cases c3 : isD (bB tb p) with
      | true =>
        rw [c3, bI_t] at id
        simp only [if_true]
        have x3 : gx h2 (wI h2 44 (upd (hI h2 44) 11 0)) := gx_w (fun j hj => by rw [upd_at, if_neg (fun q => by subst q; revert hj; decide)])
        obtain ⟨h3, e, ee, f3, x4, y3, z3, w3⟩ := l_go3 (d := d) (n := n) (p := p) (tb := tb) (z1 := nI (bB tb p)) (n - p) 0 (by omega) _ (tpF_gx tp2 x3) (by rw [hI_wI, if_pos rfl, upd_at, if_neg (by decide)]; exact r82) (by rw [hI_wI, if_pos rfl, upd_at, if_pos rfl]; rfl)
        have he : e = dE (bB tb) n p := ee
        have hw := sk_b (f := fun i => isD (bB tb i)) (n - p) p
        rw [Nat.add_zero] at ee
        have el : p ≤ e ∧ e ≤ n := by rw [ee]; omega
        have st2 : ∀ Q X, WP (d + 1) mX9_goesOn (0, 0) 231 [some (.ref (44 : Nat)), some (.int (nI (bB tb p))), some (.int (nI (e - p)))] [] h3 Q = X → WM (d + 1) mX9_goesOn [.ref (44 : Nat)] h Q = X := fun Q X hX => st Q X (by
          have f3 := f3 Q
          simp (implicitDefEqProofs := false) only [rX9_goesOn_59, rX9_goesOn_60, rX9_goesOn_61, rX9_goesOn_64, rX9_goesOn_64b, rX9_goesOn_65, rX9_goesOn_66, rX9_goesOn_69, rX9_goesOn_72, rX9_goesOn_73, rX9_goesOn_76, rX9_goesOn_161, rX9_goesOn_162, rX9_goesOn_165, rX9_goesOn_168, rX9_goesOn_168b, rX9_goesOn_169, rX9_goesOn_170, kA_44, kB_44, nm, il, id, show ¬ (1 : Int32) = 0 from by decide, pCX9_goesOn, pSX9_goesOn, pOX9_goesOn, pLX9_goesOn, pCX9_isLetter, pSX9_isLetter, pOX9_isLetter, pLX9_isLetter, pCX9_isDigit, pSX9_isDigit, pOX9_isDigit, pLX9_isDigit, kl_I, kl_J, kl_R, kl_T, kl_N, Nat.le_refl, Nat.zero_le, List.map_nil, List.map_cons, List.sum_nil, List.sum_cons, c_I, c_J, c_R, c_T, va_rf, hI_wI, hJ_wJ, hR_wR, hI_J, hI_R, hJ_I, hJ_R, hR_I, hR_J, hN_I, hN_J, hN_R, wI_I, wJ_J, upd_at, updL_at, kR_s, Option.toList, List.append_nil, List.nil_append, List.cons_append, if_true, if_false, reduceIte, Bool.false_eq_true, not_true_eq_false, not_false_eq_true, true_and, and_true, false_and, and_false, true_or, or_true,  Nat.reduceEqDiff, Nat.reduceAdd, Nat.reduceLeDiff]
          exact f3.trans hX)
        have g8 : (3 < nI (e - p)) = (3 < e - p) := ngt (x := e - p) (k := 3) (c := 3) rfl (by omega) (by omega)
        have f9 : hI h3 44 9 = 0 := by rw [y3 9 (by decide) (by decide), hI_wI, if_pos rfl, upd_at, if_neg (by decide)]; exact r92
        have f10 : hI h3 44 10 = nI p := by rw [y3 10 (by decide) (by decide), hI_wI, if_pos rfl, upd_at, if_neg (by decide)]; exact r102
        rw [← he]
        by_cases c8 : e - p ≤ 3
        · rw [if_pos c8]
          have x5 : gx h3 (wI h3 44 (upd (hI h3 44) 9 3)) := gx_w (fun j hj => by rw [upd_at, if_neg (fun q => by subst q; revert hj; decide)])
          refine ⟨_, fun Q => st2 Q _ ?_, gx_tr x12 (gx_tr x3 (gx_tr x4 x5)), ?_, ?_, ?_, (fun q => by cases q), fun _ => ?_⟩
          · simp (implicitDefEqProofs := false) only [rX9_goesOn_231, rX9_goesOn_232, rX9_goesOn_233, rX9_goesOn_236, rX9_goesOn_236b, rX9_goesOn_237, rX9_goesOn_238, rX9_goesOn_241, rX9_goesOn_265, kA_44, kB_44, g8, show ¬ 3 < e - p from by omega, pCX9_goesOn, pSX9_goesOn, pOX9_goesOn, pLX9_goesOn, kl_I, kl_J, kl_R, kl_T, kl_N, Nat.le_refl, Nat.zero_le, List.map_nil, List.map_cons, List.sum_nil, List.sum_cons, c_I, c_J, c_R, c_T, va_rf, hI_wI, hJ_wJ, hR_wR, hI_J, hI_R, hJ_I, hJ_R, hR_I, hR_J, hN_I, hN_J, hN_R, wI_I, wJ_J, upd_at, updL_at, kR_s, Option.toList, List.append_nil, List.nil_append, List.cons_append, if_true, if_false, reduceIte, Bool.false_eq_true, not_true_eq_false, not_false_eq_true, true_and, and_true, false_and, and_false, true_or, or_true,  Nat.reduceEqDiff, Nat.reduceAdd, Nat.reduceLeDiff]
          · intro _; rw [hI_wI, if_pos rfl, upd_at, if_neg (by decide)]; exact z3
          · rw [hI_wI, if_pos rfl, upd_at, if_pos rfl]; rfl
          · rw [hI_wI, if_pos rfl, upd_at, if_neg (by decide)]; exact f10
          · rw [hI_wI, if_pos rfl, upd_at, if_neg (by decide), w3, show min (e - p) 3 = e - p by omega]; rfl
        · rw [if_neg c8]
          refine ⟨h3, fun Q => st2 Q _ ?_, gx_tr x12 (gx_tr x3 x4), fun _ => z3, f9, f10, (fun q => by cases q), (fun q => by cases q)⟩
          simp (implicitDefEqProofs := false) only [rX9_goesOn_231, rX9_goesOn_232, rX9_goesOn_233, rX9_goesOn_236, rX9_goesOn_236b, rX9_goesOn_237, rX9_goesOn_238, rX9_goesOn_241, rX9_goesOn_265, kA_44, kB_44, g8, show 3 < e - p from by omega, pCX9_goesOn, pSX9_goesOn, pOX9_goesOn, pLX9_goesOn, kl_I, kl_J, kl_R, kl_T, kl_N, Nat.le_refl, Nat.zero_le, List.map_nil, List.map_cons, List.sum_nil, List.sum_cons, c_I, c_J, c_R, c_T, va_rf, hI_wI, hJ_wJ, hR_wR, hI_J, hI_R, hJ_I, hJ_R, hR_I, hR_J, hN_I, hN_J, hN_R, wI_I, wJ_J, upd_at, updL_at, kR_s, Option.toList, List.append_nil, List.nil_append, List.cons_append, if_true, if_false, reduceIte, Bool.false_eq_true, not_true_eq_false, not_false_eq_true, true_and, and_true, false_and, and_false, true_or, or_true,  Nat.reduceEqDiff, Nat.reduceAdd, Nat.reduceLeDiff]
      | false =>
        rw [c3, bI_f] at id
        simp only [Bool.false_eq_true, if_false]
        have q59 : (nI (bB tb p) = 59) = (bB tb p = 59) := nq (x := bB tb p) (k := 59) (c := 59) rfl (by omega) (by omega)
        by_cases c4 : bB tb p = 59
        · rw [if_pos c4]
          have x5 : gx h2 (wI h2 44 (upd (upd (hI h2 44) 9 4) 8 (nI (p + 1)))) := gx_w (fun j hj => by rw [upd_at, if_neg (fun q => by subst q; revert hj; decide), upd_at, if_neg (fun q => by subst q; revert hj; decide)])
          refine ⟨_, fun Q => st Q _ ?_, gx_tr x12 x5, ?_, ?_, ?_, (fun q => by cases q), (fun q => by cases q)⟩
          · simp (implicitDefEqProofs := false) only [rX9_goesOn_59, rX9_goesOn_60, rX9_goesOn_61, rX9_goesOn_64, rX9_goesOn_64b, rX9_goesOn_65, rX9_goesOn_66, rX9_goesOn_69, rX9_goesOn_72, rX9_goesOn_73, rX9_goesOn_76, rX9_goesOn_161, rX9_goesOn_162, rX9_goesOn_165, rX9_goesOn_244, rX9_goesOn_245, rX9_goesOn_247, rX9_goesOn_250, rX9_goesOn_250b, rX9_goesOn_251, rX9_goesOn_252, rX9_goesOn_255, rX9_goesOn_255b, rX9_goesOn_256, rX9_goesOn_256b, rX9_goesOn_257, rX9_goesOn_260, rX9_goesOn_261, rX9_goesOn_262, rX9_goesOn_265, kA_44, kB_44, nm, il, id, q59.trans (eq_true c4), r82, nI_1, pCX9_goesOn, pSX9_goesOn, pOX9_goesOn, pLX9_goesOn, pCX9_isLetter, pSX9_isLetter, pOX9_isLetter, pLX9_isLetter, pCX9_isDigit, pSX9_isDigit, pOX9_isDigit, pLX9_isDigit, kl_I, kl_J, kl_R, kl_T, kl_N, Nat.le_refl, Nat.zero_le, List.map_nil, List.map_cons, List.sum_nil, List.sum_cons, c_I, c_J, c_R, c_T, va_rf, hI_wI, hJ_wJ, hR_wR, hI_J, hI_R, hJ_I, hJ_R, hR_I, hR_J, hN_I, hN_J, hN_R, wI_I, wJ_J, upd_at, updL_at, kR_s, Option.toList, List.append_nil, List.nil_append, List.cons_append, if_true, if_false, reduceIte, Bool.false_eq_true, not_true_eq_false, not_false_eq_true, true_and, and_true, false_and, and_false, true_or, or_true,  Nat.reduceEqDiff, Nat.reduceAdd, Nat.reduceLeDiff]
          · intro _; rw [hI_wI, if_pos rfl, upd_at, if_pos rfl]
          · rw [hI_wI, if_pos rfl, upd_at, if_neg (by decide), upd_at, if_pos rfl]; rfl
          · rw [hI_wI, if_pos rfl, upd_at, if_neg (by decide), upd_at, if_neg (by decide)]; exact r102
        · rw [if_neg c4]
          refine ⟨h2, fun Q => st Q _ ?_, x12, ?_, r92, r102, (fun q => by cases q), (fun q => by cases q)⟩
          · simp (implicitDefEqProofs := false) only [rX9_goesOn_59, rX9_goesOn_60, rX9_goesOn_61, rX9_goesOn_64, rX9_goesOn_64b, rX9_goesOn_65, rX9_goesOn_66, rX9_goesOn_69, rX9_goesOn_72, rX9_goesOn_73, rX9_goesOn_76, rX9_goesOn_161, rX9_goesOn_162, rX9_goesOn_165, rX9_goesOn_244, rX9_goesOn_245, rX9_goesOn_247, rX9_goesOn_265, kA_44, kB_44, nm, il, id, q59, c4, pCX9_goesOn, pSX9_goesOn, pOX9_goesOn, pLX9_goesOn, pCX9_isLetter, pSX9_isLetter, pOX9_isLetter, pLX9_isLetter, pCX9_isDigit, pSX9_isDigit, pOX9_isDigit, pLX9_isDigit, kl_I, kl_J, kl_R, kl_T, kl_N, Nat.le_refl, Nat.zero_le, List.map_nil, List.map_cons, List.sum_nil, List.sum_cons, c_I, c_J, c_R, c_T, va_rf, hI_wI, hJ_wJ, hR_wR, hI_J, hI_R, hJ_I, hJ_R, hR_I, hR_J, hN_I, hN_J, hN_R, wI_I, wJ_J, upd_at, updL_at, kR_s, Option.toList, List.append_nil, List.nil_append, List.cons_append, if_true, if_false, reduceIte, Bool.false_eq_true, not_true_eq_false, not_false_eq_true, true_and, and_true, false_and, and_false, true_or, or_true,  Nat.reduceEqDiff, Nat.reduceAdd, Nat.reduceLeDiff]
          · intro q; exact absurd rfl q
