/-! ===== the class's reader: tokens, words ===== -/
def bB (tb : Nat → Int32) : Nat → Nat := fun i => ub (tb i)
theorem bB_lt {tb : Nat → Int32} (i : Nat) : bB tb i < 256 := (ub_e _).2
def RS (h : qH) (s n : Nat) (tb : Nat → Int32) (st : PS) (t : tK) : Prop := Fin0 (hR h) ∧ hR h 27 2 = some s ∧ cS h s st.1 ∧ (∀ j, j < aN st.1 → hJ h 28 j = lN (st.2.1 j) ∧ st.2.1 j < 2 ^ 40) ∧ hI h 27 4 = bI st.2.2 ∧ (hI h 27 3 = nI n ∧ hI h 27 5 = nI t.1 ∧ hI h 27 6 = nI t.2.1 ∧ hI h 27 7 = nI t.2.2) ∧ tOK (bB tb) n t ∧ n ≤ 900 ∧ (∀ i, i < 900 → hI h 26 i = tb i) ∧ hI h 27 9 = 0
theorem c_isLetter {d : Nat} {h : qH} {v : Nat} (hv : v < 256) : ∀ Q, WM d mX2_isLetter [.int (nI v)] h Q = Q (some (some (.int (bI (isL v))))) h := by
  intro Q
  have q1 : (nI v < 97) = (v < 97) := nlt (x := v) (k := 97) (c := 97) rfl (by omega) (by omega)
  have q2 : (122 < nI v) = (122 < v) := ngt (x := v) (k := 122) (c := 122) rfl (by omega) (by omega)
  unfold isL
  by_cases c1 : v < 97
  · have e : decide (97 ≤ v ∧ v ≤ 122) = false := decide_eq_false (by omega)
    rw [e]
    simp (implicitDefEqProofs := false) only [eX2_isLetter, rX2_isLetter_0, rX2_isLetter_1, rX2_isLetter_3, rX2_isLetter_6, rX2_isLetter_7, rX2_isLetter_9, rX2_isLetter_12, rX2_isLetter_13, rX2_isLetter_16, rX2_isLetter_17, pCX2_isLetter, pSX2_isLetter, pOX2_isLetter, pLX2_isLetter, q1, c1, bI_f, kl_I, kl_J, kl_R, kl_T, kl_N, Nat.le_refl, Nat.zero_le, List.map_nil, List.map_cons, List.sum_nil, List.sum_cons, c_I, c_J, c_R, c_T, va_rf, hI_wI, hJ_wJ, hR_wR, hI_J, hI_R, hJ_I, hJ_R, hR_I, hR_J, hN_I, hN_J, hN_R, wI_I, wJ_J, upd_at, updL_at, kR_s, Option.toList, List.append_nil, List.nil_append, List.cons_append, if_true, if_false, reduceIte, Bool.false_eq_true, not_true_eq_false, not_false_eq_true, true_and, and_true, false_and, and_false, true_or, or_true,  Nat.reduceEqDiff, Nat.reduceAdd, Nat.reduceLeDiff]
  · by_cases c2 : 122 < v
    · have e : decide (97 ≤ v ∧ v ≤ 122) = false := decide_eq_false (by omega)
      rw [e]
      simp (implicitDefEqProofs := false) only [eX2_isLetter, rX2_isLetter_0, rX2_isLetter_1, rX2_isLetter_3, rX2_isLetter_6, rX2_isLetter_7, rX2_isLetter_9, rX2_isLetter_12, rX2_isLetter_13, rX2_isLetter_16, rX2_isLetter_17, pCX2_isLetter, pSX2_isLetter, pOX2_isLetter, pLX2_isLetter, q1, c1, q2, c2, bI_f, kl_I, kl_J, kl_R, kl_T, kl_N, Nat.le_refl, Nat.zero_le, List.map_nil, List.map_cons, List.sum_nil, List.sum_cons, c_I, c_J, c_R, c_T, va_rf, hI_wI, hJ_wJ, hR_wR, hI_J, hI_R, hJ_I, hJ_R, hR_I, hR_J, hN_I, hN_J, hN_R, wI_I, wJ_J, upd_at, updL_at, kR_s, Option.toList, List.append_nil, List.nil_append, List.cons_append, if_true, if_false, reduceIte, Bool.false_eq_true, not_true_eq_false, not_false_eq_true, true_and, and_true, false_and, and_false, true_or, or_true,  Nat.reduceEqDiff, Nat.reduceAdd, Nat.reduceLeDiff]
    · have e : decide (97 ≤ v ∧ v ≤ 122) = true := decide_eq_true (by omega)
      rw [e]
      simp (implicitDefEqProofs := false) only [eX2_isLetter, rX2_isLetter_0, rX2_isLetter_1, rX2_isLetter_3, rX2_isLetter_6, rX2_isLetter_7, rX2_isLetter_9, rX2_isLetter_12, rX2_isLetter_13, rX2_isLetter_16, rX2_isLetter_17, pCX2_isLetter, pSX2_isLetter, pOX2_isLetter, pLX2_isLetter, q1, c1, q2, c2, bI_t, kl_I, kl_J, kl_R, kl_T, kl_N, Nat.le_refl, Nat.zero_le, List.map_nil, List.map_cons, List.sum_nil, List.sum_cons, c_I, c_J, c_R, c_T, va_rf, hI_wI, hJ_wJ, hR_wR, hI_J, hI_R, hJ_I, hJ_R, hR_I, hR_J, hN_I, hN_J, hN_R, wI_I, wJ_J, upd_at, updL_at, kR_s, Option.toList, List.append_nil, List.nil_append, List.cons_append, if_true, if_false, reduceIte, Bool.false_eq_true, not_true_eq_false, not_false_eq_true, true_and, and_true, false_and, and_false, true_or, or_true,  Nat.reduceEqDiff, Nat.reduceAdd, Nat.reduceLeDiff]
theorem c_isDigit {d : Nat} {h : qH} {v : Nat} (hv : v < 256) : ∀ Q, WM d mX2_isDigit [.int (nI v)] h Q = Q (some (some (.int (bI (isD v))))) h := by
  intro Q
  have q1 : (nI v < 48) = (v < 48) := nlt (x := v) (k := 48) (c := 48) rfl (by omega) (by omega)
  have q2 : (57 < nI v) = (57 < v) := ngt (x := v) (k := 57) (c := 57) rfl (by omega) (by omega)
  unfold isD
  by_cases c1 : v < 48
  · have e : decide (48 ≤ v ∧ v ≤ 57) = false := decide_eq_false (by omega)
    rw [e]
    simp (implicitDefEqProofs := false) only [eX2_isDigit, rX2_isDigit_0, rX2_isDigit_1, rX2_isDigit_3, rX2_isDigit_6, rX2_isDigit_7, rX2_isDigit_9, rX2_isDigit_12, rX2_isDigit_13, rX2_isDigit_16, rX2_isDigit_17, pCX2_isDigit, pSX2_isDigit, pOX2_isDigit, pLX2_isDigit, q1, c1, bI_f, kl_I, kl_J, kl_R, kl_T, kl_N, Nat.le_refl, Nat.zero_le, List.map_nil, List.map_cons, List.sum_nil, List.sum_cons, c_I, c_J, c_R, c_T, va_rf, hI_wI, hJ_wJ, hR_wR, hI_J, hI_R, hJ_I, hJ_R, hR_I, hR_J, hN_I, hN_J, hN_R, wI_I, wJ_J, upd_at, updL_at, kR_s, Option.toList, List.append_nil, List.nil_append, List.cons_append, if_true, if_false, reduceIte, Bool.false_eq_true, not_true_eq_false, not_false_eq_true, true_and, and_true, false_and, and_false, true_or, or_true,  Nat.reduceEqDiff, Nat.reduceAdd, Nat.reduceLeDiff]
  · by_cases c2 : 57 < v
    · have e : decide (48 ≤ v ∧ v ≤ 57) = false := decide_eq_false (by omega)
      rw [e]
      simp (implicitDefEqProofs := false) only [eX2_isDigit, rX2_isDigit_0, rX2_isDigit_1, rX2_isDigit_3, rX2_isDigit_6, rX2_isDigit_7, rX2_isDigit_9, rX2_isDigit_12, rX2_isDigit_13, rX2_isDigit_16, rX2_isDigit_17, pCX2_isDigit, pSX2_isDigit, pOX2_isDigit, pLX2_isDigit, q1, c1, q2, c2, bI_f, kl_I, kl_J, kl_R, kl_T, kl_N, Nat.le_refl, Nat.zero_le, List.map_nil, List.map_cons, List.sum_nil, List.sum_cons, c_I, c_J, c_R, c_T, va_rf, hI_wI, hJ_wJ, hR_wR, hI_J, hI_R, hJ_I, hJ_R, hR_I, hR_J, hN_I, hN_J, hN_R, wI_I, wJ_J, upd_at, updL_at, kR_s, Option.toList, List.append_nil, List.nil_append, List.cons_append, if_true, if_false, reduceIte, Bool.false_eq_true, not_true_eq_false, not_false_eq_true, true_and, and_true, false_and, and_false, true_or, or_true,  Nat.reduceEqDiff, Nat.reduceAdd, Nat.reduceLeDiff]
    · have e : decide (48 ≤ v ∧ v ≤ 57) = true := decide_eq_true (by omega)
      rw [e]
      simp (implicitDefEqProofs := false) only [eX2_isDigit, rX2_isDigit_0, rX2_isDigit_1, rX2_isDigit_3, rX2_isDigit_6, rX2_isDigit_7, rX2_isDigit_9, rX2_isDigit_12, rX2_isDigit_13, rX2_isDigit_16, rX2_isDigit_17, pCX2_isDigit, pSX2_isDigit, pOX2_isDigit, pLX2_isDigit, q1, c1, q2, c2, bI_t, kl_I, kl_J, kl_R, kl_T, kl_N, Nat.le_refl, Nat.zero_le, List.map_nil, List.map_cons, List.sum_nil, List.sum_cons, c_I, c_J, c_R, c_T, va_rf, hI_wI, hJ_wJ, hR_wR, hI_J, hI_R, hJ_I, hJ_R, hR_I, hR_J, hN_I, hN_J, hN_R, wI_I, wJ_J, upd_at, updL_at, kR_s, Option.toList, List.append_nil, List.nil_append, List.cons_append, if_true, if_false, reduceIte, Bool.false_eq_true, not_true_eq_false, not_false_eq_true, true_and, and_true, false_and, and_false, true_or, or_true,  Nat.reduceEqDiff, Nat.reduceAdd, Nat.reduceLeDiff]
theorem u6same {h : qH} {j : Nat} {v : Int32} (e : hI h 27 j = v) : wI h 27 (upd (hI h 27) j v) = h := wI_eq (by funext k; rw [upd_at]; split <;> simp_all)
theorem l_st1 {d : Nat} {n : Nat} {tb : Nat → Int32} (hn : n ≤ 900) {Q : Option (Option Value) → qH → Prop} : ∀ (k i : Nat), i + k = n → ∀ (h : qH) (F : Fin0 (hR h)) (e3 : hI h 27 3 = nI n) (e6 : hI h 27 6 = nI i) (tp : ∀ i, i < 900 → hI h 26 i = tb i), WP (d + 1) mX2_step (0, 0) 8 [some (.ref (27 : Nat))] [] h Q = WP (d + 1) mX2_step (0, 0) 48 [some (.ref (27 : Nat))] [] (wI h 27 (upd (hI h 27) 6 (nI (sk (fun i => decide (bB tb i = 32)) k i)))) Q := by
  intro k
  induction k with
  | zero =>
    intro i hi h F e3 e6 tp
    obtain rfl : i = n := by omega
    rw [sk, u6same e6]
    simp (implicitDefEqProofs := false) only [rX2_step_8, rX2_step_8b, rX2_step_9, rX2_step_12, rX2_step_12b, rX2_step_13, rX2_step_16, rX2_step_19, rX2_step_19b, rX2_step_20, rX2_step_23, rX2_step_23b, rX2_step_24, rX2_step_27, rX2_step_30, rX2_step_32, rX2_step_35, rX2_step_35b, rX2_step_36, rX2_step_36b, rX2_step_37, rX2_step_40, rX2_step_41, rX2_step_42, fin_27_0 F, fin_27_1 F, kA_27, kB_27, pCX2_step, pSX2_step, pOX2_step, pLX2_step, e3, e6, Int32.le_refl, kl_I, kl_J, kl_R, kl_T, kl_N, Nat.le_refl, Nat.zero_le, List.map_nil, List.map_cons, List.sum_nil, List.sum_cons, c_I, c_J, c_R, c_T, va_rf, hI_wI, hJ_wJ, hR_wR, hI_J, hI_R, hJ_I, hJ_R, hR_I, hR_J, hN_I, hN_J, hN_R, wI_I, wJ_J, upd_at, updL_at, kR_s, Option.toList, List.append_nil, List.nil_append, List.cons_append, if_true, if_false, reduceIte, Bool.false_eq_true, not_true_eq_false, not_false_eq_true, true_and, and_true, false_and, and_false, true_or, or_true,  Nat.reduceEqDiff, Nat.reduceAdd, Nat.reduceLeDiff]
  | succ k ih =>
    intro i hi h F e3 e6 tp
    have g1 : ¬ nI n ≤ nI i := nI_ge (by omega) (by omega)
    have at1 : ∀ Q, WM d mX5_at [.ref (25 : Nat), .int (nI i)] h Q = Q (some (some (.int (nI (bB tb i))))) h := by rw [show bB tb i = ub (hI h 26 i) by rw [tp i (by omega)]; rfl]; exact c_at F (by omega)
    have bl := bB_lt (tb := tb) i
    have q : (nI (bB tb i) = 32) = (bB tb i = 32) := nq (x := bB tb i) (k := 32) (c := 32) rfl (by omega) (by omega)
    rw [sk]
    by_cases c : (fun i => decide (bB tb i = 32)) i = true
    · rw [if_pos c]
      have c2 : bB tb i = 32 := by simpa using c
      simp (implicitDefEqProofs := false) only [rX2_step_8, rX2_step_8b, rX2_step_9, rX2_step_12, rX2_step_12b, rX2_step_13, rX2_step_16, rX2_step_19, rX2_step_19b, rX2_step_20, rX2_step_23, rX2_step_23b, rX2_step_24, rX2_step_27, rX2_step_30, rX2_step_32, rX2_step_35, rX2_step_35b, rX2_step_36, rX2_step_36b, rX2_step_37, rX2_step_40, rX2_step_41, rX2_step_42, fin_27_0 F, fin_27_1 F, kA_25, kB_25, kA_27, kB_27, pCX2_step, pSX2_step, pOX2_step, pLX2_step, pCX5_at, pSX5_at, pOX5_at, pLX5_at, e3, e6, g1, at1, q, c2, show nI 32 = 32 from rfl, nI_1, kl_I, kl_J, kl_R, kl_T, kl_N, Nat.le_refl, Nat.zero_le, List.map_nil, List.map_cons, List.sum_nil, List.sum_cons, c_I, c_J, c_R, c_T, va_rf, hI_wI, hJ_wJ, hR_wR, hI_J, hI_R, hJ_I, hJ_R, hR_I, hR_J, hN_I, hN_J, hN_R, wI_I, wJ_J, upd_at, updL_at, kR_s, Option.toList, List.append_nil, List.nil_append, List.cons_append, if_true, if_false, reduceIte, Bool.false_eq_true, not_true_eq_false, not_false_eq_true, true_and, and_true, false_and, and_false, true_or, or_true,  Nat.reduceEqDiff, Nat.reduceAdd, Nat.reduceLeDiff]
      rw [rX2_step_45]
      have := ih (i + 1) (by omega) (wI h 27 (upd (hI h 27) 6 (nI (i + 1)))) F (by rw [hI_wI, if_pos rfl, upd_at, if_neg (by decide)]; exact e3) (by rw [hI_wI, if_pos rfl, upd_at, if_pos rfl]) (fun j hj => by rw [hI_wI, if_neg (by decide)]; exact tp j hj)
      rw [this, wI_I, hI_wI, if_pos rfl, upd_upd]
    · rw [if_neg c, u6same e6]
      have c2 : ¬ bB tb i = 32 := by simpa using c
      simp (implicitDefEqProofs := false) only [rX2_step_8, rX2_step_8b, rX2_step_9, rX2_step_12, rX2_step_12b, rX2_step_13, rX2_step_16, rX2_step_19, rX2_step_19b, rX2_step_20, rX2_step_23, rX2_step_23b, rX2_step_24, rX2_step_27, rX2_step_30, rX2_step_32, rX2_step_35, rX2_step_35b, rX2_step_36, rX2_step_36b, rX2_step_37, rX2_step_40, rX2_step_41, rX2_step_42, fin_27_0 F, fin_27_1 F, kA_25, kB_25, kA_27, kB_27, pCX2_step, pSX2_step, pOX2_step, pLX2_step, pCX5_at, pSX5_at, pOX5_at, pLX5_at, e3, e6, g1, at1, q, c2, kl_I, kl_J, kl_R, kl_T, kl_N, Nat.le_refl, Nat.zero_le, List.map_nil, List.map_cons, List.sum_nil, List.sum_cons, c_I, c_J, c_R, c_T, va_rf, hI_wI, hJ_wJ, hR_wR, hI_J, hI_R, hJ_I, hJ_R, hR_I, hR_J, hN_I, hN_J, hN_R, wI_I, wJ_J, upd_at, updL_at, kR_s, Option.toList, List.append_nil, List.nil_append, List.cons_append, if_true, if_false, reduceIte, Bool.false_eq_true, not_true_eq_false, not_false_eq_true, true_and, and_true, false_and, and_false, true_or, or_true,  Nat.reduceEqDiff, Nat.reduceAdd, Nat.reduceLeDiff]
theorem l_st2 {d : Nat} {n : Nat} {tb : Nat → Int32} (hn : n ≤ 900) {Q : Option (Option Value) → qH → Prop} : ∀ (k i : Nat), i + k = n → ∀ (h : qH) (F : Fin0 (hR h)) (e3 : hI h 27 3 = nI n) (e6 : hI h 27 7 = nI i) (tp : ∀ i, i < 900 → hI h 26 i = tb i), WP (d + 1) mX2_step (0, 0) 92 [some (.ref (27 : Nat))] [] h Q = WP (d + 1) mX2_step (0, 0) 133 [some (.ref (27 : Nat))] [] (wI h 27 (upd (hI h 27) 7 (nI (sk (fun i => isL (bB tb i)) k i)))) Q := by
  intro k
  induction k with
  | zero =>
    intro i hi h F e3 e6 tp
    obtain rfl : i = n := by omega
    rw [sk, u6same e6]
    simp (implicitDefEqProofs := false) only [rX2_step_92, rX2_step_92b, rX2_step_93, rX2_step_96, rX2_step_96b, rX2_step_97, rX2_step_100, rX2_step_103, rX2_step_103b, rX2_step_104, rX2_step_107, rX2_step_107b, rX2_step_108, rX2_step_111, rX2_step_114, rX2_step_117, rX2_step_120, rX2_step_120b, rX2_step_121, rX2_step_121b, rX2_step_122, rX2_step_125, rX2_step_126, rX2_step_127, fin_27_0 F, fin_27_1 F, kA_27, kB_27, pCX2_step, pSX2_step, pOX2_step, pLX2_step, e3, e6, Int32.le_refl, kl_I, kl_J, kl_R, kl_T, kl_N, Nat.le_refl, Nat.zero_le, List.map_nil, List.map_cons, List.sum_nil, List.sum_cons, c_I, c_J, c_R, c_T, va_rf, hI_wI, hJ_wJ, hR_wR, hI_J, hI_R, hJ_I, hJ_R, hR_I, hR_J, hN_I, hN_J, hN_R, wI_I, wJ_J, upd_at, updL_at, kR_s, Option.toList, List.append_nil, List.nil_append, List.cons_append, if_true, if_false, reduceIte, Bool.false_eq_true, not_true_eq_false, not_false_eq_true, true_and, and_true, false_and, and_false, true_or, or_true,  Nat.reduceEqDiff, Nat.reduceAdd, Nat.reduceLeDiff]
  | succ k ih =>
    intro i hi h F e3 e6 tp
    have g1 : ¬ nI n ≤ nI i := nI_ge (by omega) (by omega)
    have at1 : ∀ Q, WM d mX5_at [.ref (25 : Nat), .int (nI i)] h Q = Q (some (some (.int (nI (bB tb i))))) h := by rw [show bB tb i = ub (hI h 26 i) by rw [tp i (by omega)]; rfl]; exact c_at F (by omega)
    have bl := bB_lt (tb := tb) i
    have il := c_isLetter (d := d) (h := h) bl
    rw [sk]
    by_cases c : (fun i => isL (bB tb i)) i = true
    · rw [if_pos c]
      have c2 : isL (bB tb i) = true := c
      simp (implicitDefEqProofs := false) only [rX2_step_92, rX2_step_92b, rX2_step_93, rX2_step_96, rX2_step_96b, rX2_step_97, rX2_step_100, rX2_step_103, rX2_step_103b, rX2_step_104, rX2_step_107, rX2_step_107b, rX2_step_108, rX2_step_111, rX2_step_114, rX2_step_117, rX2_step_120, rX2_step_120b, rX2_step_121, rX2_step_121b, rX2_step_122, rX2_step_125, rX2_step_126, rX2_step_127, fin_27_0 F, fin_27_1 F, kA_25, kB_25, kA_27, kB_27, pCX2_step, pSX2_step, pOX2_step, pLX2_step, pCX5_at, pSX5_at, pOX5_at, pLX5_at, pCX2_isLetter, pSX2_isLetter, pOX2_isLetter, pLX2_isLetter, e3, e6, g1, at1, il, c2, bI_t, show ¬ (1 : Int32) = 0 from by decide, nI_1, kl_I, kl_J, kl_R, kl_T, kl_N, Nat.le_refl, Nat.zero_le, List.map_nil, List.map_cons, List.sum_nil, List.sum_cons, c_I, c_J, c_R, c_T, va_rf, hI_wI, hJ_wJ, hR_wR, hI_J, hI_R, hJ_I, hJ_R, hR_I, hR_J, hN_I, hN_J, hN_R, wI_I, wJ_J, upd_at, updL_at, kR_s, Option.toList, List.append_nil, List.nil_append, List.cons_append, if_true, if_false, reduceIte, Bool.false_eq_true, not_true_eq_false, not_false_eq_true, true_and, and_true, false_and, and_false, true_or, or_true,  Nat.reduceEqDiff, Nat.reduceAdd, Nat.reduceLeDiff]
      rw [rX2_step_130]
      have := ih (i + 1) (by omega) (wI h 27 (upd (hI h 27) 7 (nI (i + 1)))) F (by rw [hI_wI, if_pos rfl, upd_at, if_neg (by decide)]; exact e3) (by rw [hI_wI, if_pos rfl, upd_at, if_pos rfl]) (fun j hj => by rw [hI_wI, if_neg (by decide)]; exact tp j hj)
      rw [this, wI_I, hI_wI, if_pos rfl, upd_upd]
    · rw [if_neg c, u6same e6]
      have c2 : isL (bB tb i) = false := by simpa using c
      simp (implicitDefEqProofs := false) only [rX2_step_92, rX2_step_92b, rX2_step_93, rX2_step_96, rX2_step_96b, rX2_step_97, rX2_step_100, rX2_step_103, rX2_step_103b, rX2_step_104, rX2_step_107, rX2_step_107b, rX2_step_108, rX2_step_111, rX2_step_114, rX2_step_117, rX2_step_120, rX2_step_120b, rX2_step_121, rX2_step_121b, rX2_step_122, rX2_step_125, rX2_step_126, rX2_step_127, fin_27_0 F, fin_27_1 F, kA_25, kB_25, kA_27, kB_27, pCX2_step, pSX2_step, pOX2_step, pLX2_step, pCX5_at, pSX5_at, pOX5_at, pLX5_at, pCX2_isLetter, pSX2_isLetter, pOX2_isLetter, pLX2_isLetter, e3, e6, g1, at1, il, c2, bI_f, kl_I, kl_J, kl_R, kl_T, kl_N, Nat.le_refl, Nat.zero_le, List.map_nil, List.map_cons, List.sum_nil, List.sum_cons, c_I, c_J, c_R, c_T, va_rf, hI_wI, hJ_wJ, hR_wR, hI_J, hI_R, hJ_I, hJ_R, hR_I, hR_J, hN_I, hN_J, hN_R, wI_I, wJ_J, upd_at, updL_at, kR_s, Option.toList, List.append_nil, List.nil_append, List.cons_append, if_true, if_false, reduceIte, Bool.false_eq_true, not_true_eq_false, not_false_eq_true, true_and, and_true, false_and, and_false, true_or, or_true,  Nat.reduceEqDiff, Nat.reduceAdd, Nat.reduceLeDiff]
theorem l_st3 {d : Nat} {n : Nat} {tb : Nat → Int32} (hn : n ≤ 900) {Q : Option (Option Value) → qH → Prop} : ∀ (k i : Nat), i + k = n → ∀ (h : qH) (F : Fin0 (hR h)) (e3 : hI h 27 3 = nI n) (e6 : hI h 27 7 = nI i) (tp : ∀ i, i < 900 → hI h 26 i = tb i), WP (d + 1) mX2_step (0, 0) 176 [some (.ref (27 : Nat))] [] h Q = WP (d + 1) mX2_step (0, 0) 217 [some (.ref (27 : Nat))] [] (wI h 27 (upd (hI h 27) 7 (nI (sk (fun i => isD (bB tb i)) k i)))) Q := by
  intro k
  induction k with
  | zero =>
    intro i hi h F e3 e6 tp
    obtain rfl : i = n := by omega
    rw [sk, u6same e6]
    simp (implicitDefEqProofs := false) only [rX2_step_176, rX2_step_176b, rX2_step_177, rX2_step_180, rX2_step_180b, rX2_step_181, rX2_step_184, rX2_step_187, rX2_step_187b, rX2_step_188, rX2_step_191, rX2_step_191b, rX2_step_192, rX2_step_195, rX2_step_198, rX2_step_201, rX2_step_204, rX2_step_204b, rX2_step_205, rX2_step_205b, rX2_step_206, rX2_step_209, rX2_step_210, rX2_step_211, fin_27_0 F, fin_27_1 F, kA_27, kB_27, pCX2_step, pSX2_step, pOX2_step, pLX2_step, e3, e6, Int32.le_refl, kl_I, kl_J, kl_R, kl_T, kl_N, Nat.le_refl, Nat.zero_le, List.map_nil, List.map_cons, List.sum_nil, List.sum_cons, c_I, c_J, c_R, c_T, va_rf, hI_wI, hJ_wJ, hR_wR, hI_J, hI_R, hJ_I, hJ_R, hR_I, hR_J, hN_I, hN_J, hN_R, wI_I, wJ_J, upd_at, updL_at, kR_s, Option.toList, List.append_nil, List.nil_append, List.cons_append, if_true, if_false, reduceIte, Bool.false_eq_true, not_true_eq_false, not_false_eq_true, true_and, and_true, false_and, and_false, true_or, or_true,  Nat.reduceEqDiff, Nat.reduceAdd, Nat.reduceLeDiff]
  | succ k ih =>
    intro i hi h F e3 e6 tp
    have g1 : ¬ nI n ≤ nI i := nI_ge (by omega) (by omega)
    have at1 : ∀ Q, WM d mX5_at [.ref (25 : Nat), .int (nI i)] h Q = Q (some (some (.int (nI (bB tb i))))) h := by rw [show bB tb i = ub (hI h 26 i) by rw [tp i (by omega)]; rfl]; exact c_at F (by omega)
    have bl := bB_lt (tb := tb) i
    have il := c_isDigit (d := d) (h := h) bl
    rw [sk]
    by_cases c : (fun i => isD (bB tb i)) i = true
    · rw [if_pos c]
      have c2 : isD (bB tb i) = true := c
      simp (implicitDefEqProofs := false) only [rX2_step_176, rX2_step_176b, rX2_step_177, rX2_step_180, rX2_step_180b, rX2_step_181, rX2_step_184, rX2_step_187, rX2_step_187b, rX2_step_188, rX2_step_191, rX2_step_191b, rX2_step_192, rX2_step_195, rX2_step_198, rX2_step_201, rX2_step_204, rX2_step_204b, rX2_step_205, rX2_step_205b, rX2_step_206, rX2_step_209, rX2_step_210, rX2_step_211, fin_27_0 F, fin_27_1 F, kA_25, kB_25, kA_27, kB_27, pCX2_step, pSX2_step, pOX2_step, pLX2_step, pCX5_at, pSX5_at, pOX5_at, pLX5_at, pCX2_isDigit, pSX2_isDigit, pOX2_isDigit, pLX2_isDigit, e3, e6, g1, at1, il, c2, bI_t, show ¬ (1 : Int32) = 0 from by decide, nI_1, kl_I, kl_J, kl_R, kl_T, kl_N, Nat.le_refl, Nat.zero_le, List.map_nil, List.map_cons, List.sum_nil, List.sum_cons, c_I, c_J, c_R, c_T, va_rf, hI_wI, hJ_wJ, hR_wR, hI_J, hI_R, hJ_I, hJ_R, hR_I, hR_J, hN_I, hN_J, hN_R, wI_I, wJ_J, upd_at, updL_at, kR_s, Option.toList, List.append_nil, List.nil_append, List.cons_append, if_true, if_false, reduceIte, Bool.false_eq_true, not_true_eq_false, not_false_eq_true, true_and, and_true, false_and, and_false, true_or, or_true,  Nat.reduceEqDiff, Nat.reduceAdd, Nat.reduceLeDiff]
      rw [rX2_step_214]
      have := ih (i + 1) (by omega) (wI h 27 (upd (hI h 27) 7 (nI (i + 1)))) F (by rw [hI_wI, if_pos rfl, upd_at, if_neg (by decide)]; exact e3) (by rw [hI_wI, if_pos rfl, upd_at, if_pos rfl]) (fun j hj => by rw [hI_wI, if_neg (by decide)]; exact tp j hj)
      rw [this, wI_I, hI_wI, if_pos rfl, upd_upd]
    · rw [if_neg c, u6same e6]
      have c2 : isD (bB tb i) = false := by simpa using c
      simp (implicitDefEqProofs := false) only [rX2_step_176, rX2_step_176b, rX2_step_177, rX2_step_180, rX2_step_180b, rX2_step_181, rX2_step_184, rX2_step_187, rX2_step_187b, rX2_step_188, rX2_step_191, rX2_step_191b, rX2_step_192, rX2_step_195, rX2_step_198, rX2_step_201, rX2_step_204, rX2_step_204b, rX2_step_205, rX2_step_205b, rX2_step_206, rX2_step_209, rX2_step_210, rX2_step_211, fin_27_0 F, fin_27_1 F, kA_25, kB_25, kA_27, kB_27, pCX2_step, pSX2_step, pOX2_step, pLX2_step, pCX5_at, pSX5_at, pOX5_at, pLX5_at, pCX2_isDigit, pSX2_isDigit, pOX2_isDigit, pLX2_isDigit, e3, e6, g1, at1, il, c2, bI_f, kl_I, kl_J, kl_R, kl_T, kl_N, Nat.le_refl, Nat.zero_le, List.map_nil, List.map_cons, List.sum_nil, List.sum_cons, c_I, c_J, c_R, c_T, va_rf, hI_wI, hJ_wJ, hR_wR, hI_J, hI_R, hJ_I, hJ_R, hR_I, hR_J, hN_I, hN_J, hN_R, wI_I, wJ_J, upd_at, updL_at, kR_s, Option.toList, List.append_nil, List.nil_append, List.cons_append, if_true, if_false, reduceIte, Bool.false_eq_true, not_true_eq_false, not_false_eq_true, true_and, and_true, false_and, and_false, true_or, or_true,  Nat.reduceEqDiff, Nat.reduceAdd, Nat.reduceLeDiff]
theorem c_step0 {d : Nat} {h : qH} {n q : Nat} {tb : Nat → Int32} (hn : n ≤ 900) (hq : q ≤ n) (F : Fin0 (hR h)) (e3 : hI h 27 3 = nI n) (e7 : hI h 27 7 = nI q) (tp : ∀ i, i < 900 → hI h 26 i = tb i) : ∃ h', (∀ Q, WM (d + 1) mX2_step [.ref (27 : Nat)] h Q = Q (some none) h') ∧ sx [27] h h' ∧ (∀ j, j ≠ 5 → j ≠ 6 → j ≠ 7 → hI h' 27 j = hI h 27 j) ∧ hI h' 27 5 = nI (tkN (bB tb) n q).1 ∧ hI h' 27 6 = nI (tkN (bB tb) n q).2.1 ∧ hI h' 27 7 = nI (tkN (bB tb) n q).2.2 := by
  have hb := sk_b (f := fun i => decide (bB tb i = 32)) (n - q) q
  have hbe : bE (bB tb) n q = sk (fun i => decide (bB tb i = 32)) (n - q) q := rfl
  rw [← hbe] at hb
  let p := bE (bB tb) n q
  have hp : p ≤ n := by simp only [p]; omega
  -- behind the blanks
  let h1 : qH := wI h 27 (upd (upd (hI h 27) 6 (nI p)) 7 (nI p))
  have F1 : Fin0 (hR h1) := F
  have a3 : hI h1 27 3 = nI n := by simp only [h1]; rw [hI_wI, if_pos rfl, upd_at, if_neg (by decide), upd_at, if_neg (by decide)]; exact e3
  have a6 : hI h1 27 6 = nI p := by simp only [h1]; rw [hI_wI, if_pos rfl, upd_at, if_neg (by decide), upd_at, if_pos rfl]
  have a7 : hI h1 27 7 = nI p := by simp only [h1]; rw [hI_wI, if_pos rfl, upd_at, if_pos rfl]
  have t1 : ∀ i, i < 900 → hI h1 26 i = tb i := fun i hi => by simp only [h1]; rw [hI_wI, if_neg (by decide)]; exact tp i hi
  have x1 : sx [27] h h1 := sx_w sx_refl (by simp)
  have o1 : ∀ j, j ≠ 5 → j ≠ 6 → j ≠ 7 → hI h1 27 j = hI h 27 j := fun j h5 h6 h7 => by simp only [h1]; rw [hI_wI, if_pos rfl, upd_at, if_neg h7, upd_at, if_neg h6]
  have pre : ∀ Q, WM (d + 1) mX2_step [.ref (27 : Nat)] h Q = WP (d + 1) mX2_step (0, 0) 56 [some (.ref (27 : Nat))] [] h1 Q := fun Q => by
    have l := l_st1 (d := d) (tb := tb) hn (Q := Q) (n - q) q (by omega) (wI h 27 (upd (hI h 27) 6 (nI q))) F (by rw [hI_wI, if_pos rfl, upd_at, if_neg (by decide)]; exact e3) (by rw [hI_wI, if_pos rfl, upd_at, if_pos rfl]) (fun j hj => by rw [hI_wI, if_neg (by decide)]; exact tp j hj)
    rw [wI_I, hI_wI, if_pos rfl, upd_upd, ← hbe] at l
    simp (implicitDefEqProofs := false) only [eX2_step, rX2_step_0, rX2_step_0b, rX2_step_1, rX2_step_1b, rX2_step_2, rX2_step_5, fin_27_0 F, fin_27_1 F, kA_27, kB_27, pCX2_step, pSX2_step, pOX2_step, pLX2_step, e7, kl_I, kl_J, kl_R, kl_T, kl_N, Nat.le_refl, Nat.zero_le, List.map_nil, List.map_cons, List.sum_nil, List.sum_cons, c_I, c_J, c_R, c_T, va_rf, hI_wI, hJ_wJ, hR_wR, hI_J, hI_R, hJ_I, hJ_R, hR_I, hR_J, hN_I, hN_J, hN_R, wI_I, wJ_J, upd_at, updL_at, kR_s, Option.toList, List.append_nil, List.nil_append, List.cons_append, if_true, if_false, reduceIte, Bool.false_eq_true, not_true_eq_false, not_false_eq_true, true_and, and_true, false_and, and_false, true_or, or_true,  Nat.reduceEqDiff, Nat.reduceAdd, Nat.reduceLeDiff]
    rw [l]
    simp (implicitDefEqProofs := false) only [rX2_step_48, rX2_step_48b, rX2_step_49, rX2_step_49b, rX2_step_50, rX2_step_53, fin_27_0 F, fin_27_1 F, kA_27, kB_27, pCX2_step, pSX2_step, pOX2_step, pLX2_step, kl_I, kl_J, kl_R, kl_T, kl_N, Nat.le_refl, Nat.zero_le, List.map_nil, List.map_cons, List.sum_nil, List.sum_cons, c_I, c_J, c_R, c_T, va_rf, hI_wI, hJ_wJ, hR_wR, hI_J, hI_R, hJ_I, hJ_R, hR_I, hR_J, hN_I, hN_J, hN_R, wI_I, wJ_J, upd_at, updL_at, kR_s, Option.toList, List.append_nil, List.nil_append, List.cons_append, if_true, if_false, reduceIte, Bool.false_eq_true, not_true_eq_false, not_false_eq_true, true_and, and_true, false_and, and_false, true_or, or_true,  Nat.reduceEqDiff, Nat.reduceAdd, Nat.reduceLeDiff]
    rfl
  -- a value, a stop
  have fin : ∀ (v e : Nat), (∀ Q, WP (d + 1) mX2_step (0, 0) 56 [some (.ref (27 : Nat))] [] h1 Q = Q (some none) (wI h1 27 (upd (upd (hI h1 27) 7 (nI e)) 5 (nI v)))) → tkN (bB tb) n q = (v, p, e) → ∃ h', (∀ Q, WM (d + 1) mX2_step [.ref (27 : Nat)] h Q = Q (some none) h') ∧ sx [27] h h' ∧ (∀ j, j ≠ 5 → j ≠ 6 → j ≠ 7 → hI h' 27 j = hI h 27 j) ∧ hI h' 27 5 = nI (tkN (bB tb) n q).1 ∧ hI h' 27 6 = nI (tkN (bB tb) n q).2.1 ∧ hI h' 27 7 = nI (tkN (bB tb) n q).2.2 := fun v e w tk => by
    refine ⟨_, fun Q => (pre Q).trans (w Q), sx_w x1 (by simp), fun j h5 h6 h7 => ?_, ?_, ?_, ?_⟩
    · rw [hI_wI, if_pos rfl, upd_at, if_neg h5, upd_at, if_neg h7]; exact o1 j h5 h6 h7
    · rw [hI_wI, if_pos rfl, upd_at, if_pos rfl, tk]
    · rw [hI_wI, if_pos rfl, upd_at, if_neg (by decide), upd_at, if_neg (by decide), tk]; exact a6
    · rw [hI_wI, if_pos rfl, upd_at, if_neg (by decide), upd_at, if_pos rfl, tk]
  have same : upd (hI h1 27) 7 (nI p) = hI h1 27 := by funext j; rw [upd_at]; split <;> simp_all
  have sw : ∀ (f : Nat → Int32) (x y : Int32), upd (upd f 5 x) 7 y = upd (upd f 7 y) 5 x := fun f x y => by
    funext j
    simp only [upd_at]
    by_cases c : j = 7
    · subst c; simp
    · simp [c]
  by_cases c1 : n ≤ p
  · have e : p = n := by omega
    refine fin 0 p (fun Q => ?_) (by unfold tkN tk1; rw [if_pos c1])
    have g : ¬ nI p < nI n := nI_nlt c1 (by omega)
    rw [same]
    simp (implicitDefEqProofs := false) only [rX2_step_56, rX2_step_56b, rX2_step_57, rX2_step_60, rX2_step_60b, rX2_step_61, rX2_step_64, rX2_step_67, rX2_step_67b, rX2_step_68, rX2_step_69, rX2_step_72, rX2_step_277, fin_27_0 F1, fin_27_1 F1, kA_27, kB_27, pCX2_step, pSX2_step, pOX2_step, pLX2_step, a3, a6, g, nI_0, kl_I, kl_J, kl_R, kl_T, kl_N, Nat.le_refl, Nat.zero_le, List.map_nil, List.map_cons, List.sum_nil, List.sum_cons, c_I, c_J, c_R, c_T, va_rf, hI_wI, hJ_wJ, hR_wR, hI_J, hI_R, hJ_I, hJ_R, hR_I, hR_J, hN_I, hN_J, hN_R, wI_I, wJ_J, upd_at, updL_at, kR_s, Option.toList, List.append_nil, List.nil_append, List.cons_append, if_true, if_false, reduceIte, Bool.false_eq_true, not_true_eq_false, not_false_eq_true, true_and, and_true, false_and, and_false, true_or, or_true,  Nat.reduceEqDiff, Nat.reduceAdd, Nat.reduceLeDiff]
  · have g : nI p < nI n := nI_lt (by omega) (by omega)
    have at1 : ∀ Q, WM d mX5_at [.ref (25 : Nat), .int (nI p)] h1 Q = Q (some (some (.int (nI (bB tb p))))) h1 := by rw [show bB tb p = ub (hI h1 26 p) by rw [t1 p (by omega)]; rfl]; exact c_at F1 (by omega)
    have bl := bB_lt (tb := tb) p
    have il := c_isLetter (d := d) (h := h1) bl
    have id' := c_isDigit (d := d) (h := h1) bl
    by_cases c2 : isL (bB tb p) = true
    · have hw := sk_b (f := fun i => isL (bB tb i)) (n - p) p
      have we : wE (bB tb) n p = sk (fun i => isL (bB tb i)) (n - p) p := rfl
      rw [← we] at hw
      have l := fun Q => l_st2 (d := d) hn (Q := Q) (n - p) p (by omega) h1 F1 a3 a7 t1
      rw [← we] at l
      have q8 : (8 < nI (wE (bB tb) n p - p)) = (8 < wE (bB tb) n p - p) := ngt (x := wE (bB tb) n p - p) (k := 8) (c := 8) rfl (by omega) (by omega)
      refine fin (if wE (bB tb) n p - p ≤ 8 then 1 else 4) (wE (bB tb) n p) (fun Q => ?_) (by unfold tkN tk1; rw [if_neg c1, if_pos c2])
      simp (implicitDefEqProofs := false) only [rX2_step_56, rX2_step_56b, rX2_step_57, rX2_step_60, rX2_step_60b, rX2_step_61, rX2_step_64, rX2_step_67, rX2_step_67b, rX2_step_68, rX2_step_69, rX2_step_72, rX2_step_75, rX2_step_75b, rX2_step_76, rX2_step_79, rX2_step_79b, rX2_step_80, rX2_step_83, rX2_step_86, rX2_step_89, fin_27_0 F1, fin_27_1 F1, kA_25, kB_25, kA_27, kB_27, pCX2_step, pSX2_step, pOX2_step, pLX2_step, pCX5_at, pSX5_at, pOX5_at, pLX5_at, pCX2_isLetter, pSX2_isLetter, pOX2_isLetter, pLX2_isLetter, a3, a6, g, at1, il, c2, bI_t, show ¬ (1 : Int32) = 0 from by decide, kl_I, kl_J, kl_R, kl_T, kl_N, Nat.le_refl, Nat.zero_le, List.map_nil, List.map_cons, List.sum_nil, List.sum_cons, c_I, c_J, c_R, c_T, va_rf, hI_wI, hJ_wJ, hR_wR, hI_J, hI_R, hJ_I, hJ_R, hR_I, hR_J, hN_I, hN_J, hN_R, wI_I, wJ_J, upd_at, updL_at, kR_s, Option.toList, List.append_nil, List.nil_append, List.cons_append, if_true, if_false, reduceIte, Bool.false_eq_true, not_true_eq_false, not_false_eq_true, true_and, and_true, false_and, and_false, true_or, or_true,  Nat.reduceEqDiff, Nat.reduceAdd, Nat.reduceLeDiff]
      rw [l]
      by_cases c3 : wE (bB tb) n p - p ≤ 8
      · rw [if_pos c3]
        simp (implicitDefEqProofs := false) only [rX2_step_133, rX2_step_133b, rX2_step_134, rX2_step_134b, rX2_step_135, rX2_step_138, rX2_step_138b, rX2_step_139, rX2_step_142, rX2_step_143, rX2_step_145, rX2_step_148, rX2_step_149, rX2_step_152, rX2_step_153, rX2_step_156, rX2_step_277, fin_27_0 F1, fin_27_1 F1, kA_27, kB_27, pCX2_step, pSX2_step, pOX2_step, pLX2_step, a6, pk_sub hw.1, q8, show ¬ 8 < wE (bB tb) n p - p from by omega, show nI 1 = 1 from rfl, kl_I, kl_J, kl_R, kl_T, kl_N, Nat.le_refl, Nat.zero_le, List.map_nil, List.map_cons, List.sum_nil, List.sum_cons, c_I, c_J, c_R, c_T, va_rf, hI_wI, hJ_wJ, hR_wR, hI_J, hI_R, hJ_I, hJ_R, hR_I, hR_J, hN_I, hN_J, hN_R, wI_I, wJ_J, upd_at, updL_at, kR_s, Option.toList, List.append_nil, List.nil_append, List.cons_append, if_true, if_false, reduceIte, Bool.false_eq_true, not_true_eq_false, not_false_eq_true, true_and, and_true, false_and, and_false, true_or, or_true,  Nat.reduceEqDiff, Nat.reduceAdd, Nat.reduceLeDiff]
      · rw [if_neg c3]
        simp (implicitDefEqProofs := false) only [rX2_step_133, rX2_step_133b, rX2_step_134, rX2_step_134b, rX2_step_135, rX2_step_138, rX2_step_138b, rX2_step_139, rX2_step_142, rX2_step_143, rX2_step_145, rX2_step_148, rX2_step_149, rX2_step_152, rX2_step_153, rX2_step_156, rX2_step_277, fin_27_0 F1, fin_27_1 F1, kA_27, kB_27, pCX2_step, pSX2_step, pOX2_step, pLX2_step, a6, pk_sub hw.1, q8, show 8 < wE (bB tb) n p - p from by omega, show nI 4 = 4 from rfl, kl_I, kl_J, kl_R, kl_T, kl_N, Nat.le_refl, Nat.zero_le, List.map_nil, List.map_cons, List.sum_nil, List.sum_cons, c_I, c_J, c_R, c_T, va_rf, hI_wI, hJ_wJ, hR_wR, hI_J, hI_R, hJ_I, hJ_R, hR_I, hR_J, hN_I, hN_J, hN_R, wI_I, wJ_J, upd_at, updL_at, kR_s, Option.toList, List.append_nil, List.nil_append, List.cons_append, if_true, if_false, reduceIte, Bool.false_eq_true, not_true_eq_false, not_false_eq_true, true_and, and_true, false_and, and_false, true_or, or_true,  Nat.reduceEqDiff, Nat.reduceAdd, Nat.reduceLeDiff]
    · have c2' : isL (bB tb p) = false := by simpa using c2
      by_cases c3 : isD (bB tb p) = true
      · have hw := sk_b (f := fun i => isD (bB tb i)) (n - p) p
        have we : dE (bB tb) n p = sk (fun i => isD (bB tb i)) (n - p) p := rfl
        rw [← we] at hw
        have l := fun Q => l_st3 (d := d) hn (Q := Q) (n - p) p (by omega) h1 F1 a3 a7 t1
        rw [← we] at l
        have q8 : (3 < nI (dE (bB tb) n p - p)) = (3 < dE (bB tb) n p - p) := ngt (x := dE (bB tb) n p - p) (k := 3) (c := 3) rfl (by omega) (by omega)
        refine fin (if dE (bB tb) n p - p ≤ 3 then 2 else 4) (dE (bB tb) n p) (fun Q => ?_) (by unfold tkN tk1; rw [if_neg c1, if_neg c2, if_pos c3])
        simp (implicitDefEqProofs := false) only [rX2_step_56, rX2_step_56b, rX2_step_57, rX2_step_60, rX2_step_60b, rX2_step_61, rX2_step_64, rX2_step_67, rX2_step_67b, rX2_step_68, rX2_step_69, rX2_step_72, rX2_step_75, rX2_step_75b, rX2_step_76, rX2_step_79, rX2_step_79b, rX2_step_80, rX2_step_83, rX2_step_86, rX2_step_89, rX2_step_159, rX2_step_159b, rX2_step_160, rX2_step_163, rX2_step_163b, rX2_step_164, rX2_step_167, rX2_step_170, rX2_step_173, fin_27_0 F1, fin_27_1 F1, kA_25, kB_25, kA_27, kB_27, pCX2_step, pSX2_step, pOX2_step, pLX2_step, pCX5_at, pSX5_at, pOX5_at, pLX5_at, pCX2_isLetter, pSX2_isLetter, pOX2_isLetter, pLX2_isLetter, pCX2_isDigit, pSX2_isDigit, pOX2_isDigit, pLX2_isDigit, a3, a6, g, at1, il, id', c2', c3, bI_t, bI_f, show ¬ (1 : Int32) = 0 from by decide, kl_I, kl_J, kl_R, kl_T, kl_N, Nat.le_refl, Nat.zero_le, List.map_nil, List.map_cons, List.sum_nil, List.sum_cons, c_I, c_J, c_R, c_T, va_rf, hI_wI, hJ_wJ, hR_wR, hI_J, hI_R, hJ_I, hJ_R, hR_I, hR_J, hN_I, hN_J, hN_R, wI_I, wJ_J, upd_at, updL_at, kR_s, Option.toList, List.append_nil, List.nil_append, List.cons_append, if_true, if_false, reduceIte, Bool.false_eq_true, not_true_eq_false, not_false_eq_true, true_and, and_true, false_and, and_false, true_or, or_true,  Nat.reduceEqDiff, Nat.reduceAdd, Nat.reduceLeDiff]
        rw [l]
        by_cases c4 : dE (bB tb) n p - p ≤ 3
        · rw [if_pos c4]
          simp (implicitDefEqProofs := false) only [rX2_step_217, rX2_step_217b, rX2_step_218, rX2_step_218b, rX2_step_219, rX2_step_222, rX2_step_222b, rX2_step_223, rX2_step_226, rX2_step_227, rX2_step_228, rX2_step_231, rX2_step_232, rX2_step_235, rX2_step_236, rX2_step_239, rX2_step_277, fin_27_0 F1, fin_27_1 F1, kA_27, kB_27, pCX2_step, pSX2_step, pOX2_step, pLX2_step, a6, pk_sub hw.1, q8, show ¬ 3 < dE (bB tb) n p - p from by omega, show nI 2 = 2 from rfl, kl_I, kl_J, kl_R, kl_T, kl_N, Nat.le_refl, Nat.zero_le, List.map_nil, List.map_cons, List.sum_nil, List.sum_cons, c_I, c_J, c_R, c_T, va_rf, hI_wI, hJ_wJ, hR_wR, hI_J, hI_R, hJ_I, hJ_R, hR_I, hR_J, hN_I, hN_J, hN_R, wI_I, wJ_J, upd_at, updL_at, kR_s, Option.toList, List.append_nil, List.nil_append, List.cons_append, if_true, if_false, reduceIte, Bool.false_eq_true, not_true_eq_false, not_false_eq_true, true_and, and_true, false_and, and_false, true_or, or_true,  Nat.reduceEqDiff, Nat.reduceAdd, Nat.reduceLeDiff]
        · rw [if_neg c4]
          simp (implicitDefEqProofs := false) only [rX2_step_217, rX2_step_217b, rX2_step_218, rX2_step_218b, rX2_step_219, rX2_step_222, rX2_step_222b, rX2_step_223, rX2_step_226, rX2_step_227, rX2_step_228, rX2_step_231, rX2_step_232, rX2_step_235, rX2_step_236, rX2_step_239, rX2_step_277, fin_27_0 F1, fin_27_1 F1, kA_27, kB_27, pCX2_step, pSX2_step, pOX2_step, pLX2_step, a6, pk_sub hw.1, q8, show 3 < dE (bB tb) n p - p from by omega, show nI 4 = 4 from rfl, kl_I, kl_J, kl_R, kl_T, kl_N, Nat.le_refl, Nat.zero_le, List.map_nil, List.map_cons, List.sum_nil, List.sum_cons, c_I, c_J, c_R, c_T, va_rf, hI_wI, hJ_wJ, hR_wR, hI_J, hI_R, hJ_I, hJ_R, hR_I, hR_J, hN_I, hN_J, hN_R, wI_I, wJ_J, upd_at, updL_at, kR_s, Option.toList, List.append_nil, List.nil_append, List.cons_append, if_true, if_false, reduceIte, Bool.false_eq_true, not_true_eq_false, not_false_eq_true, true_and, and_true, false_and, and_false, true_or, or_true,  Nat.reduceEqDiff, Nat.reduceAdd, Nat.reduceLeDiff]
      · have c3' : isD (bB tb p) = false := by simpa using c3
        have q59 : (nI (bB tb p) = 59) = (bB tb p = 59) := nq (x := bB tb p) (k := 59) (c := 59) rfl (by omega) (by omega)
        refine fin (if bB tb p = 59 then 3 else 4) (p + 1) (fun Q => ?_) (by unfold tkN tk1; rw [if_neg c1, if_neg c2, if_neg c3])
        by_cases c4 : bB tb p = 59
        · rw [if_pos c4]
          have q59' : (nI (bB tb p) = 59) = True := by rw [q59]; exact eq_true c4
          simp (implicitDefEqProofs := false) only [rX2_step_56, rX2_step_56b, rX2_step_57, rX2_step_60, rX2_step_60b, rX2_step_61, rX2_step_64, rX2_step_67, rX2_step_67b, rX2_step_68, rX2_step_69, rX2_step_72, rX2_step_75, rX2_step_75b, rX2_step_76, rX2_step_79, rX2_step_79b, rX2_step_80, rX2_step_83, rX2_step_86, rX2_step_89, rX2_step_159, rX2_step_159b, rX2_step_160, rX2_step_163, rX2_step_163b, rX2_step_164, rX2_step_167, rX2_step_170, rX2_step_173, rX2_step_242, rX2_step_242b, rX2_step_243, rX2_step_243b, rX2_step_244, rX2_step_247, rX2_step_247b, rX2_step_248, rX2_step_251, rX2_step_254, rX2_step_256, rX2_step_259, rX2_step_260, rX2_step_263, rX2_step_264, rX2_step_267, rX2_step_267b, rX2_step_268, rX2_step_268b, rX2_step_269, rX2_step_272, rX2_step_273, rX2_step_274, rX2_step_277, fin_27_0 F1, fin_27_1 F1, kA_25, kB_25, kA_27, kB_27, pCX2_step, pSX2_step, pOX2_step, pLX2_step, pCX5_at, pSX5_at, pOX5_at, pLX5_at, pCX2_isLetter, pSX2_isLetter, pOX2_isLetter, pLX2_isLetter, pCX2_isDigit, pSX2_isDigit, pOX2_isDigit, pLX2_isDigit, a3, a6, a7, g, at1, il, id', c2', c3', bI_f, q59', show nI 3 = 3 from rfl, nI_1, sw, kl_I, kl_J, kl_R, kl_T, kl_N, Nat.le_refl, Nat.zero_le, List.map_nil, List.map_cons, List.sum_nil, List.sum_cons, c_I, c_J, c_R, c_T, va_rf, hI_wI, hJ_wJ, hR_wR, hI_J, hI_R, hJ_I, hJ_R, hR_I, hR_J, hN_I, hN_J, hN_R, wI_I, wJ_J, upd_at, updL_at, kR_s, Option.toList, List.append_nil, List.nil_append, List.cons_append, if_true, if_false, reduceIte, Bool.false_eq_true, not_true_eq_false, not_false_eq_true, true_and, and_true, false_and, and_false, true_or, or_true,  Nat.reduceEqDiff, Nat.reduceAdd, Nat.reduceLeDiff]
        · rw [if_neg c4]
          simp (implicitDefEqProofs := false) only [rX2_step_56, rX2_step_56b, rX2_step_57, rX2_step_60, rX2_step_60b, rX2_step_61, rX2_step_64, rX2_step_67, rX2_step_67b, rX2_step_68, rX2_step_69, rX2_step_72, rX2_step_75, rX2_step_75b, rX2_step_76, rX2_step_79, rX2_step_79b, rX2_step_80, rX2_step_83, rX2_step_86, rX2_step_89, rX2_step_159, rX2_step_159b, rX2_step_160, rX2_step_163, rX2_step_163b, rX2_step_164, rX2_step_167, rX2_step_170, rX2_step_173, rX2_step_242, rX2_step_242b, rX2_step_243, rX2_step_243b, rX2_step_244, rX2_step_247, rX2_step_247b, rX2_step_248, rX2_step_251, rX2_step_254, rX2_step_256, rX2_step_259, rX2_step_260, rX2_step_263, rX2_step_264, rX2_step_267, rX2_step_267b, rX2_step_268, rX2_step_268b, rX2_step_269, rX2_step_272, rX2_step_273, rX2_step_274, rX2_step_277, fin_27_0 F1, fin_27_1 F1, kA_25, kB_25, kA_27, kB_27, pCX2_step, pSX2_step, pOX2_step, pLX2_step, pCX5_at, pSX5_at, pOX5_at, pLX5_at, pCX2_isLetter, pSX2_isLetter, pOX2_isLetter, pLX2_isLetter, pCX2_isDigit, pSX2_isDigit, pOX2_isDigit, pLX2_isDigit, a3, a6, a7, g, at1, il, id', c2', c3', bI_f, q59, c4, show nI 4 = 4 from rfl, nI_1, sw, kl_I, kl_J, kl_R, kl_T, kl_N, Nat.le_refl, Nat.zero_le, List.map_nil, List.map_cons, List.sum_nil, List.sum_cons, c_I, c_J, c_R, c_T, va_rf, hI_wI, hJ_wJ, hR_wR, hI_J, hI_R, hJ_I, hJ_R, hR_I, hR_J, hN_I, hN_J, hN_R, wI_I, wJ_J, upd_at, updL_at, kR_s, Option.toList, List.append_nil, List.nil_append, List.cons_append, if_true, if_false, reduceIte, Bool.false_eq_true, not_true_eq_false, not_false_eq_true, true_and, and_true, false_and, and_false, true_or, or_true,  Nat.reduceEqDiff, Nat.reduceAdd, Nat.reduceLeDiff]
theorem c_step {d : Nat} {h : qH} {s n : Nat} {tb : Nat → Int32} {st : PS} {t : tK} (r : RS h s n tb st t) : ∃ h', (∀ Q, WM (d + 1) mX2_step [.ref (27 : Nat)] h Q = Q (some none) h') ∧ sx [27] h h' ∧ (∀ j, j ≠ 5 → j ≠ 6 → j ≠ 7 → hI h' 27 j = hI h 27 j) ∧ RS h' s n tb st (tkN (bB tb) n t.2.2) := by
  obtain ⟨F, r2, w, nm, op, ⟨e3, e5, e6, e7⟩, ok, hn, tp, e9⟩ := r
  obtain ⟨h', k1, k2, k3, k5, k6, k7⟩ := c_step0 (d := d) hn ok.2.2.1 F e3 e7 tp
  refine ⟨h', k1, k2, k3, Fin_sx F k2, by rw [k2.1]; exact r2, cS_sx w k2 (by simp), by rw [k2.2.1]; exact nm, by rw [k3 4 (by decide) (by decide) (by decide)]; exact op, ⟨by rw [k3 3 (by decide) (by decide) (by decide)]; exact e3, k5, k6, k7⟩, (tkN_ok ok.2.2.1).1, hn, by rw [k2.2.2.2 26 (by simp)]; exact tp, by rw [k3 9 (by decide) (by decide) (by decide)]; exact e9⟩
