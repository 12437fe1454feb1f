/-! ===== reading rows of days ===== -/
theorem ix6 (t i : Nat) : nI t * 6 + nI i = nI (t * 6 + i) := by rw [show (6 : Int32) = nI 6 from rfl, nI_mul, nI_add]
/-- those that burn on day y or ahead -/
def byP (r : Nat → Nat) (y j : Nat) : Bool := decide (r j ≤ y)
theorem l_bitsBy {d : Nat} {h : qH} {s A len tt y : Nat} {a : aS} {r : Nat → Nat} {Q : Option (Option Value) → qH → Prop} (F : Fin0 (hR h)) (hf : hR h 32 0 = some s) (w : cS h s a) (hA1 : (kd A).1 = 11) (hA2 : (kd A).2 = len) (hl : len < 2 ^ 31) (hb : tt * 6 + aN a ≤ len) (hr : ∀ j, j < aN a → hI h A (tt * 6 + j) = nI (r j)) (hk : ∀ j, j < aN a → r j ≤ 1000) (hy : y < 2 ^ 31) : ∀ (k i : Nat), i + k = aN a → WP d mX0_bitsBy (0, 0) 6 [some (.ref (32 : Nat)), some (.ref A), some (.int (nI tt)), some (.int (nI y)), some (.int (nI (bm (byP r y) i))), some (.int (nI i))] [] h Q = Q (some (some (.int (nI (bm (byP r y) (aN a)))))) h := by
  have hs := w.1
  have ww := w.2.1
  have w3 := w.2.2.1
  have h6 := ww.1
  intro k
  induction k with
  | zero =>
    intro i hi
    obtain rfl : i = aN a := by omega
    simp (implicitDefEqProofs := false) only [rX0_bitsBy_0, rX0_bitsBy_1, rX0_bitsBy_3, rX0_bitsBy_4, rX0_bitsBy_6, rX0_bitsBy_8, rX0_bitsBy_8b, rX0_bitsBy_9, rX0_bitsBy_12, rX0_bitsBy_15, rX0_bitsBy_18, rX0_bitsBy_18b, rX0_bitsBy_19, rX0_bitsBy_20, rX0_bitsBy_22, rX0_bitsBy_23, rX0_bitsBy_25, rX0_bitsBy_26, rX0_bitsBy_27, rX0_bitsBy_28, rX0_bitsBy_31, rX0_bitsBy_33, rX0_bitsBy_34, rX0_bitsBy_36, rX0_bitsBy_37, rX0_bitsBy_38, rX0_bitsBy_40, rX0_bitsBy_46, rX0_bitsBy_48, kS0 hs, kS1 hs, kT1 hs, fS1 hs F, kS2 hs, kT2 hs, fS2 hs F, kS3 hs, kT3 hs, fS3 hs F, kS4 hs, kT4 hs, fS4 hs F, kS5 hs, kT5 hs, fS5 hs F, kS6 hs, kT6 hs, fS6 hs F, kS7 hs, kT7 hs, fS7 hs F, kS8 hs, kT8 hs, fS8 hs F, kS9 hs, kT9 hs, fS9 hs F, kS10 hs, kT10 hs, fS10 hs F, kS11 hs, kT11 hs, fS11 hs F, nS hs, nSs hs, kA_32, kB_32, hf, pCX0_bitsBy, pSX0_bitsBy, pOX0_bitsBy, pLX0_bitsBy, w3.2.1, Int32.le_refl, kl_I, kl_J, kl_R, kl_T, kl_N, Nat.le_refl, Nat.zero_le, List.map_nil, List.map_cons, List.sum_nil, List.sum_cons, c_I, c_J, c_R, c_T, va_rf, hI_wI, hJ_wJ, hR_wR, hI_J, hI_R, hJ_I, hJ_R, hR_I, hR_J, hN_I, hN_J, hN_R, wI_I, wJ_J, upd_at, updL_at, kR_s, Option.toList, List.append_nil, List.nil_append, List.cons_append, if_true, if_false, reduceIte, Bool.false_eq_true, not_true_eq_false, not_false_eq_true, true_and, and_true, false_and, and_false,  Nat.reduceEqDiff, Nat.reduceAdd, Nat.reduceLeDiff]
  | succ k ih =>
    intro i hi
    have hlt : i < aN a := by omega
    have g1 : ¬ nI (aN a) ≤ nI i := nI_ge hlt (by omega)
    have v6 : vp_in (nI (tt * 6 + i)) len := nI_vp (by omega) (by omega)
    have cl : (nI (tt * 6 + i)).toNatClampNeg = tt * 6 + i := nI_cl (by omega)
    have k1 := hk i hlt
    have q1 : (nI y < nI (r i)) = (y < r i) := propext (nI_ltI (by omega) (by omega))
    have i1 := ih (i + 1) (by omega)
    by_cases c1 : y < r i
    · rw [bm_f (by simp [byP]; omega)] at i1
      simp (implicitDefEqProofs := false) only [rX0_bitsBy_0, rX0_bitsBy_1, rX0_bitsBy_3, rX0_bitsBy_4, rX0_bitsBy_6, rX0_bitsBy_8, rX0_bitsBy_8b, rX0_bitsBy_9, rX0_bitsBy_12, rX0_bitsBy_15, rX0_bitsBy_18, rX0_bitsBy_18b, rX0_bitsBy_19, rX0_bitsBy_20, rX0_bitsBy_22, rX0_bitsBy_23, rX0_bitsBy_25, rX0_bitsBy_26, rX0_bitsBy_27, rX0_bitsBy_28, rX0_bitsBy_31, rX0_bitsBy_33, rX0_bitsBy_34, rX0_bitsBy_36, rX0_bitsBy_37, rX0_bitsBy_38, rX0_bitsBy_40, rX0_bitsBy_46, rX0_bitsBy_48, kS0 hs, kS1 hs, kT1 hs, fS1 hs F, kS2 hs, kT2 hs, fS2 hs F, kS3 hs, kT3 hs, fS3 hs F, kS4 hs, kT4 hs, fS4 hs F, kS5 hs, kT5 hs, fS5 hs F, kS6 hs, kT6 hs, fS6 hs F, kS7 hs, kT7 hs, fS7 hs F, kS8 hs, kT8 hs, fS8 hs F, kS9 hs, kT9 hs, fS9 hs F, kS10 hs, kT10 hs, fS10 hs F, kS11 hs, kT11 hs, fS11 hs F, nS hs, nSs hs, kA_32, kB_32, hf, pCX0_bitsBy, pSX0_bitsBy, pOX0_bitsBy, pLX0_bitsBy, w3.2.1, g1, ix6, hA1, hA2, v6, cl, hr i hlt, q1, c1, kl_I, kl_J, kl_R, kl_T, kl_N, Nat.le_refl, Nat.zero_le, List.map_nil, List.map_cons, List.sum_nil, List.sum_cons, c_I, c_J, c_R, c_T, va_rf, hI_wI, hJ_wJ, hR_wR, hI_J, hI_R, hJ_I, hJ_R, hR_I, hR_J, hN_I, hN_J, hN_R, wI_I, wJ_J, upd_at, updL_at, kR_s, Option.toList, List.append_nil, List.nil_append, List.cons_append, if_true, if_false, reduceIte, Bool.false_eq_true, not_true_eq_false, not_false_eq_true, true_and, and_true, false_and, and_false,  Nat.reduceEqDiff, Nat.reduceAdd, Nat.reduceLeDiff]
      rw [rX0_bitsBy_43, nI_1, i1]
    · rw [bm_t (by simp [byP]; omega)] at i1
      simp (implicitDefEqProofs := false) only [rX0_bitsBy_0, rX0_bitsBy_1, rX0_bitsBy_3, rX0_bitsBy_4, rX0_bitsBy_6, rX0_bitsBy_8, rX0_bitsBy_8b, rX0_bitsBy_9, rX0_bitsBy_12, rX0_bitsBy_15, rX0_bitsBy_18, rX0_bitsBy_18b, rX0_bitsBy_19, rX0_bitsBy_20, rX0_bitsBy_22, rX0_bitsBy_23, rX0_bitsBy_25, rX0_bitsBy_26, rX0_bitsBy_27, rX0_bitsBy_28, rX0_bitsBy_31, rX0_bitsBy_33, rX0_bitsBy_34, rX0_bitsBy_36, rX0_bitsBy_37, rX0_bitsBy_38, rX0_bitsBy_40, rX0_bitsBy_46, rX0_bitsBy_48, kS0 hs, kS1 hs, kT1 hs, fS1 hs F, kS2 hs, kT2 hs, fS2 hs F, kS3 hs, kT3 hs, fS3 hs F, kS4 hs, kT4 hs, fS4 hs F, kS5 hs, kT5 hs, fS5 hs F, kS6 hs, kT6 hs, fS6 hs F, kS7 hs, kT7 hs, fS7 hs F, kS8 hs, kT8 hs, fS8 hs F, kS9 hs, kT9 hs, fS9 hs F, kS10 hs, kT10 hs, fS10 hs F, kS11 hs, kT11 hs, fS11 hs F, nS hs, nSs hs, kA_32, kB_32, hf, pCX0_bitsBy, pSX0_bitsBy, pOX0_bitsBy, pLX0_bitsBy, w3.2.1, g1, ix6, hA1, hA2, v6, cl, hr i hlt, q1, c1, bt_shl (j := i) (by omega), bt_or, kl_I, kl_J, kl_R, kl_T, kl_N, Nat.le_refl, Nat.zero_le, List.map_nil, List.map_cons, List.sum_nil, List.sum_cons, c_I, c_J, c_R, c_T, va_rf, hI_wI, hJ_wJ, hR_wR, hI_J, hI_R, hJ_I, hJ_R, hR_I, hR_J, hN_I, hN_J, hN_R, wI_I, wJ_J, upd_at, updL_at, kR_s, Option.toList, List.append_nil, List.nil_append, List.cons_append, if_true, if_false, reduceIte, Bool.false_eq_true, not_true_eq_false, not_false_eq_true, true_and, and_true, false_and, and_false,  Nat.reduceEqDiff, Nat.reduceAdd, Nat.reduceLeDiff]
      rw [rX0_bitsBy_43, nI_1, i1]
theorem c_bitsBy {d : Nat} {h : qH} {s A len tt y : Nat} {a : aS} {r : Nat → Nat} (F : Fin0 (hR h)) (hf : hR h 32 0 = some s) (w : cS h s a) (hA1 : (kd A).1 = 11) (hA2 : (kd A).2 = len) (hl : len < 2 ^ 31) (hb : tt * 6 + aN a ≤ len) (hr : ∀ j, j < aN a → hI h A (tt * 6 + j) = nI (r j)) (hk : ∀ j, j < aN a → r j ≤ 1000) (hy : y < 2 ^ 31) : ∀ Q, WM d mX0_bitsBy [.ref (32 : Nat), .ref A, .int (nI tt), .int (nI y)] h Q = Q (some (some (.int (nI (bm (byP r y) (aN a)))))) h := by
  intro Q
  simp (implicitDefEqProofs := false) only [eX0_bitsBy, rX0_bitsBy_0, rX0_bitsBy_1, rX0_bitsBy_3, rX0_bitsBy_4, kl_I, kl_J, kl_R, kl_T, kl_N, Nat.le_refl, Nat.zero_le, List.map_nil, List.map_cons, List.sum_nil, List.sum_cons, c_I, c_J, c_R, c_T, va_rf, hI_wI, hJ_wJ, hR_wR, hI_J, hI_R, hJ_I, hJ_R, hR_I, hR_J, hN_I, hN_J, hN_R, wI_I, wJ_J, upd_at, updL_at, kR_s, Option.toList, List.append_nil, List.nil_append, List.cons_append, if_true, if_false, reduceIte, Bool.false_eq_true, not_true_eq_false, not_false_eq_true, true_and, and_true, false_and, and_false,  Nat.reduceEqDiff, Nat.reduceAdd, Nat.reduceLeDiff]
  exact l_bitsBy F hf w hA1 hA2 hl hb hr hk hy (aN a) 0 (by omega)
/-- the first of those that burn soonest later than a day: from i on, the best so far and its day -/
def sooL (r : Nat → Nat) (wi af : Nat) : Nat → Nat → Option Nat → Nat → Option Nat
  | 0, _, b, _ => b
  | k + 1, i, b, y => if wi.testBit i = false ∧ af < r i ∧ r i < y then sooL r wi af k (i + 1) (some i) (r i) else sooL r wi af k (i + 1) b y
def sooN (n : Nat) (r : Nat → Nat) (wi af : Nat) : Option Nat := sooL r wi af n 0 none 1000
theorem l_soonestIn {d : Nat} {h : qH} {s A len tt wi af : Nat} {a : aS} {r : Nat → Nat} {Q : Option (Option Value) → qH → Prop} (F : Fin0 (hR h)) (hf : hR h 32 0 = some s) (w : cS h s a) (hA1 : (kd A).1 = 11) (hA2 : (kd A).2 = len) (hl : len < 2 ^ 31) (hb : tt * 6 + aN a ≤ len) (hr : ∀ j, j < aN a → hI h A (tt * 6 + j) = nI (r j)) (hk : ∀ j, j < aN a → r j ≤ 1000) (hw : wi < 64) (hy : af < 2 ^ 31) : ∀ (k i : Nat), i + k = aN a → ∀ (b : Option Nat) (y : Nat) (o8 : Option Value) (_ : y ≤ 1000), WP d mX0_soonestIn (0, 0) 12 [some (.ref (32 : Nat)), some (.ref A), some (.int (nI tt)), some (.int (nI wi)), some (.int (nI af)), some (.int (oI b)), some (.int (nI y)), some (.int (nI i)), o8] [] h Q = Q (some (some (.int (oI (sooL r wi af k i b y))))) h := by
  have hs := w.1
  have ww := w.2.1
  have w3 := w.2.2.1
  have h6 := ww.1
  intro k
  induction k with
  | zero =>
    intro i hi b y o8 _
    obtain rfl : i = aN a := by omega
    simp (implicitDefEqProofs := false) only [rX0_soonestIn_0, rX0_soonestIn_2, rX0_soonestIn_4, rX0_soonestIn_7, rX0_soonestIn_9, rX0_soonestIn_10, rX0_soonestIn_12, rX0_soonestIn_14, rX0_soonestIn_14b, rX0_soonestIn_15, rX0_soonestIn_18, rX0_soonestIn_21, rX0_soonestIn_24, rX0_soonestIn_24b, rX0_soonestIn_25, rX0_soonestIn_26, rX0_soonestIn_28, rX0_soonestIn_29, rX0_soonestIn_31, rX0_soonestIn_32, rX0_soonestIn_33, rX0_soonestIn_35, rX0_soonestIn_36, rX0_soonestIn_38, rX0_soonestIn_39, rX0_soonestIn_40, rX0_soonestIn_41, rX0_soonestIn_44, rX0_soonestIn_46, rX0_soonestIn_48, rX0_soonestIn_51, rX0_soonestIn_53, rX0_soonestIn_55, rX0_soonestIn_58, rX0_soonestIn_60, rX0_soonestIn_62, rX0_soonestIn_64, rX0_soonestIn_66, rX0_soonestIn_72, rX0_soonestIn_74, kS0 hs, kS1 hs, kT1 hs, fS1 hs F, kS2 hs, kT2 hs, fS2 hs F, kS3 hs, kT3 hs, fS3 hs F, kS4 hs, kT4 hs, fS4 hs F, kS5 hs, kT5 hs, fS5 hs F, kS6 hs, kT6 hs, fS6 hs F, kS7 hs, kT7 hs, fS7 hs F, kS8 hs, kT8 hs, fS8 hs F, kS9 hs, kT9 hs, fS9 hs F, kS10 hs, kT10 hs, fS10 hs F, kS11 hs, kT11 hs, fS11 hs F, nS hs, nSs hs, kA_32, kB_32, hf, pCX0_soonestIn, pSX0_soonestIn, pOX0_soonestIn, pLX0_soonestIn, w3.2.1, Int32.le_refl, kl_I, kl_J, kl_R, kl_T, kl_N, Nat.le_refl, Nat.zero_le, List.map_nil, List.map_cons, List.sum_nil, List.sum_cons, c_I, c_J, c_R, c_T, va_rf, hI_wI, hJ_wJ, hR_wR, hI_J, hI_R, hJ_I, hJ_R, hR_I, hR_J, hN_I, hN_J, hN_R, wI_I, wJ_J, upd_at, updL_at, kR_s, Option.toList, List.append_nil, List.nil_append, List.cons_append, if_true, if_false, reduceIte, Bool.false_eq_true, not_true_eq_false, not_false_eq_true, true_and, and_true, false_and, and_false,  Nat.reduceEqDiff, Nat.reduceAdd, Nat.reduceLeDiff]
    rfl
  | succ k ih =>
    intro i hi b y o8 hy1
    have hlt : i < aN a := by omega
    have g1 : ¬ nI (aN a) ≤ nI i := nI_ge hlt (by omega)
    have v6 : vp_in (nI (tt * 6 + i)) len := nI_vp (by omega) (by omega)
    have cl : (nI (tt * 6 + i)).toNatClampNeg = tt * 6 + i := nI_cl (by omega)
    have bt := bt_t (t := wi) (j := i) (by omega) (by omega)
    have k1 := hk i hlt
    have q1 : (nI (r i) ≤ nI af) = (r i ≤ af) := propext (nI_leI (by omega) (by omega))
    have q2 : (nI y ≤ nI (r i)) = (y ≤ r i) := propext (nI_leI (by omega) (by omega))
    simp (implicitDefEqProofs := false) only [rX0_soonestIn_0, rX0_soonestIn_2, rX0_soonestIn_4, rX0_soonestIn_7, rX0_soonestIn_9, rX0_soonestIn_10, rX0_soonestIn_12, rX0_soonestIn_14, rX0_soonestIn_14b, rX0_soonestIn_15, rX0_soonestIn_18, rX0_soonestIn_21, rX0_soonestIn_24, rX0_soonestIn_24b, rX0_soonestIn_25, rX0_soonestIn_26, rX0_soonestIn_28, rX0_soonestIn_29, rX0_soonestIn_31, rX0_soonestIn_32, rX0_soonestIn_33, rX0_soonestIn_35, rX0_soonestIn_36, rX0_soonestIn_38, rX0_soonestIn_39, rX0_soonestIn_40, rX0_soonestIn_41, rX0_soonestIn_44, rX0_soonestIn_46, rX0_soonestIn_48, rX0_soonestIn_51, rX0_soonestIn_53, rX0_soonestIn_55, rX0_soonestIn_58, rX0_soonestIn_60, rX0_soonestIn_62, rX0_soonestIn_64, rX0_soonestIn_66, rX0_soonestIn_72, rX0_soonestIn_74, kS0 hs, kS1 hs, kT1 hs, fS1 hs F, kS2 hs, kT2 hs, fS2 hs F, kS3 hs, kT3 hs, fS3 hs F, kS4 hs, kT4 hs, fS4 hs F, kS5 hs, kT5 hs, fS5 hs F, kS6 hs, kT6 hs, fS6 hs F, kS7 hs, kT7 hs, fS7 hs F, kS8 hs, kT8 hs, fS8 hs F, kS9 hs, kT9 hs, fS9 hs F, kS10 hs, kT10 hs, fS10 hs F, kS11 hs, kT11 hs, fS11 hs F, nS hs, nSs hs, kA_32, kB_32, hf, pCX0_soonestIn, pSX0_soonestIn, pOX0_soonestIn, pLX0_soonestIn, w3.2.1, g1, ix6, hA1, hA2, v6, cl, hr i hlt, bt, q1, q2, sooL, kl_I, kl_J, kl_R, kl_T, kl_N, Nat.le_refl, Nat.zero_le, List.map_nil, List.map_cons, List.sum_nil, List.sum_cons, c_I, c_J, c_R, c_T, va_rf, hI_wI, hJ_wJ, hR_wR, hI_J, hI_R, hJ_I, hJ_R, hR_I, hR_J, hN_I, hN_J, hN_R, wI_I, wJ_J, upd_at, updL_at, kR_s, Option.toList, List.append_nil, List.nil_append, List.cons_append, if_true, if_false, reduceIte, Bool.false_eq_true, not_true_eq_false, not_false_eq_true, true_and, and_true, false_and, and_false,  Nat.reduceEqDiff, Nat.reduceAdd, Nat.reduceLeDiff]
    by_cases c1 : wi.testBit i = true
    · simp only [c1]
      simp (implicitDefEqProofs := false) only [show ¬ (1 : Int32) = 0 from by decide, kl_I, kl_J, kl_R, kl_T, kl_N, Nat.le_refl, Nat.zero_le, List.map_nil, List.map_cons, List.sum_nil, List.sum_cons, c_I, c_J, c_R, c_T, va_rf, hI_wI, hJ_wJ, hR_wR, hI_J, hI_R, hJ_I, hJ_R, hR_I, hR_J, hN_I, hN_J, hN_R, wI_I, wJ_J, upd_at, updL_at, kR_s, Option.toList, List.append_nil, List.nil_append, List.cons_append, if_true, if_false, reduceIte, Bool.false_eq_true, not_true_eq_false, not_false_eq_true, true_and, and_true, false_and, and_false,  Nat.reduceEqDiff, Nat.reduceAdd, Nat.reduceLeDiff]
      try simp only [false_and, if_false, Bool.true_eq_false]
      rw [rX0_soonestIn_69, nI_1]
      exact ih (i + 1) (by omega) b y _ hy1
    · have c1' : wi.testBit i = false := by simpa using c1
      simp only [c1']
      by_cases c2 : r i ≤ af
      · simp (implicitDefEqProofs := false) only [c2, show ¬ af < r i from by omega, kl_I, kl_J, kl_R, kl_T, kl_N, Nat.le_refl, Nat.zero_le, List.map_nil, List.map_cons, List.sum_nil, List.sum_cons, c_I, c_J, c_R, c_T, va_rf, hI_wI, hJ_wJ, hR_wR, hI_J, hI_R, hJ_I, hJ_R, hR_I, hR_J, hN_I, hN_J, hN_R, wI_I, wJ_J, upd_at, updL_at, kR_s, Option.toList, List.append_nil, List.nil_append, List.cons_append, if_true, if_false, reduceIte, Bool.false_eq_true, not_true_eq_false, not_false_eq_true, true_and, and_true, false_and, and_false,  Nat.reduceEqDiff, Nat.reduceAdd, Nat.reduceLeDiff]
        rw [rX0_soonestIn_69, nI_1]
        exact ih (i + 1) (by omega) b y _ hy1
      · by_cases c3 : y ≤ r i
        · simp (implicitDefEqProofs := false) only [c2, c3, show af < r i from by omega, show ¬ r i < y from by omega, kl_I, kl_J, kl_R, kl_T, kl_N, Nat.le_refl, Nat.zero_le, List.map_nil, List.map_cons, List.sum_nil, List.sum_cons, c_I, c_J, c_R, c_T, va_rf, hI_wI, hJ_wJ, hR_wR, hI_J, hI_R, hJ_I, hJ_R, hR_I, hR_J, hN_I, hN_J, hN_R, wI_I, wJ_J, upd_at, updL_at, kR_s, Option.toList, List.append_nil, List.nil_append, List.cons_append, if_true, if_false, reduceIte, Bool.false_eq_true, not_true_eq_false, not_false_eq_true, true_and, and_true, false_and, and_false,  Nat.reduceEqDiff, Nat.reduceAdd, Nat.reduceLeDiff]
          rw [rX0_soonestIn_69, nI_1]
          exact ih (i + 1) (by omega) b y _ hy1
        · simp (implicitDefEqProofs := false) only [c2, c3, show af < r i from by omega, show r i < y from by omega, kl_I, kl_J, kl_R, kl_T, kl_N, Nat.le_refl, Nat.zero_le, List.map_nil, List.map_cons, List.sum_nil, List.sum_cons, c_I, c_J, c_R, c_T, va_rf, hI_wI, hJ_wJ, hR_wR, hI_J, hI_R, hJ_I, hJ_R, hR_I, hR_J, hN_I, hN_J, hN_R, wI_I, wJ_J, upd_at, updL_at, kR_s, Option.toList, List.append_nil, List.nil_append, List.cons_append, if_true, if_false, reduceIte, Bool.false_eq_true, not_true_eq_false, not_false_eq_true, true_and, and_true, false_and, and_false,  Nat.reduceEqDiff, Nat.reduceAdd, Nat.reduceLeDiff]
          rw [rX0_soonestIn_69, nI_1]
          exact ih (i + 1) (by omega) (some i) (r i) _ (by omega)
theorem c_soonestIn {d : Nat} {h : qH} {s A len tt wi af : Nat} {a : aS} {r : Nat → Nat} (F : Fin0 (hR h)) (hf : hR h 32 0 = some s) (w : cS h s a) (hA1 : (kd A).1 = 11) (hA2 : (kd A).2 = len) (hl : len < 2 ^ 31) (hb : tt * 6 + aN a ≤ len) (hr : ∀ j, j < aN a → hI h A (tt * 6 + j) = nI (r j)) (hk : ∀ j, j < aN a → r j ≤ 1000) (hw : wi < 64) (hy : af < 2 ^ 31) : ∀ Q, WM d mX0_soonestIn [.ref (32 : Nat), .ref A, .int (nI tt), .int (nI wi), .int (nI af)] h Q = Q (some (some (.int (oI (sooN (aN a) r wi af))))) h := by
  intro Q
  simp (implicitDefEqProofs := false) only [eX0_soonestIn, rX0_soonestIn_0, rX0_soonestIn_2, rX0_soonestIn_4, rX0_soonestIn_7, rX0_soonestIn_9, rX0_soonestIn_10, kl_I, kl_J, kl_R, kl_T, kl_N, Nat.le_refl, Nat.zero_le, List.map_nil, List.map_cons, List.sum_nil, List.sum_cons, c_I, c_J, c_R, c_T, va_rf, hI_wI, hJ_wJ, hR_wR, hI_J, hI_R, hJ_I, hJ_R, hR_I, hR_J, hN_I, hN_J, hN_R, wI_I, wJ_J, upd_at, updL_at, kR_s, Option.toList, List.append_nil, List.nil_append, List.cons_append, if_true, if_false, reduceIte, Bool.false_eq_true, not_true_eq_false, not_false_eq_true, true_and, and_true, false_and, and_false,  Nat.reduceEqDiff, Nat.reduceAdd, Nat.reduceLeDiff]
  exact l_soonestIn F hf w hA1 hA2 hl hb hr hk hw hy (aN a) 0 (by omega) none 1000 none (by omega)
/-! ===== by who was told ===== -/
noncomputable def dayN (a : aS) (t : Nat) : Nat → Nat := sprN a (cutN a t) none (ownN a t 63)
theorem sprN_le {a : aS} {cut : Nat} {wo : Option Nat} {own : Nat → Nat} (h : ∀ j, j < aN a → own j ≤ 1000) (j : Nat) : sprN a cut wo own j ≤ 1000 := by
  unfold sprN
  exact rnd_k (r := (row0 a own, true)) 6 (row0_k h) j
theorem dayN_le {a : aS} (w : aW a) (t j : Nat) : dayN a t j ≤ 1000 := sprN_le (fun _ hj => ownN_le w hj) j
/-- the rows by who was told stand -/
def bT (h : qH) (a : aS) : Prop := ∀ t, t < 2 ^ aN a → ∀ j, j < aN a → hI h 35 (t * 6 + j) = nI (dayN a t j)
theorem tIx {a : aS} (w : aW a) {t : Nat} (ht : t < 2 ^ aN a) : t * 6 + aN a ≤ 384 ∧ t < 64 := by
  have := p6 w.1
  have := w.1
  omega
theorem c_dayOf {d : Nat} {h : qH} {a : aS} {t j : Nat} (F : Fin0 (hR h)) (ww : aW a) (b : bT h a) (ht : t < 2 ^ aN a) (hj : j < aN a) : ∀ Q, WM d mX0_dayOf [.ref (32 : Nat), .int (nI t), .int (nI j)] h Q = Q (some (some (.int (nI (dayN a t j))))) h := by
  intro Q
  have := tIx ww ht
  have v : vp_in (nI (t * 6 + j)) 384 := nI_vp (by omega) (by omega)
  have cl : (nI (t * 6 + j)).toNatClampNeg = t * 6 + j := nI_cl (by omega)
  simp (implicitDefEqProofs := false) only [eX0_dayOf, rX0_dayOf_0, rX0_dayOf_0b, rX0_dayOf_1, rX0_dayOf_4, rX0_dayOf_5, rX0_dayOf_7, rX0_dayOf_8, rX0_dayOf_9, rX0_dayOf_10, rX0_dayOf_11, fin_32_1 F, fin_32_2 F, fin_32_3 F, fin_32_4 F, kA_32, kB_32, kA_35, kB_35, pCX0_dayOf, pSX0_dayOf, pOX0_dayOf, pLX0_dayOf, ix6, v, cl, b t ht j hj, kl_I, kl_J, kl_R, kl_T, kl_N, Nat.le_refl, Nat.zero_le, List.map_nil, List.map_cons, List.sum_nil, List.sum_cons, c_I, c_J, c_R, c_T, va_rf, hI_wI, hJ_wJ, hR_wR, hI_J, hI_R, hJ_I, hJ_R, hR_I, hR_J, hN_I, hN_J, hN_R, wI_I, wJ_J, upd_at, updL_at, kR_s, Option.toList, List.append_nil, List.nil_append, List.cons_append, if_true, if_false, reduceIte, Bool.false_eq_true, not_true_eq_false, not_false_eq_true, true_and, and_true, false_and, and_false,  Nat.reduceEqDiff, Nat.reduceAdd, Nat.reduceLeDiff]
noncomputable def bbN (a : aS) (t y : Nat) : Nat := bm (byP (dayN a t) y) (aN a)
theorem c_burntBy {d : Nat} {h : qH} {s : Nat} {a : aS} {t y : Nat} (F : Fin0 (hR h)) (hf : hR h 32 0 = some s) (w : cS h s a) (b : bT h a) (ht : t < 2 ^ aN a) (hy : y < 2 ^ 31) : ∀ Q, WM (d + 1) mX0_burntBy [.ref (32 : Nat), .int (nI t), .int (nI y)] h Q = Q (some (some (.int (nI (bbN a t y))))) h := by
  intro Q
  have := tIx w.2.1 ht
  simp (implicitDefEqProofs := false) only [eX0_burntBy, rX0_burntBy_0, rX0_burntBy_0b, rX0_burntBy_1, rX0_burntBy_1b, rX0_burntBy_2, rX0_burntBy_5, rX0_burntBy_6, rX0_burntBy_7, rX0_burntBy_10, fin_32_1 F, fin_32_2 F, fin_32_3 F, fin_32_4 F, kA_32, kB_32, kA_35, kB_35, pCX0_burntBy, pSX0_burntBy, pOX0_burntBy, pLX0_burntBy, pCX0_bitsBy, pSX0_bitsBy, pOX0_bitsBy, pLX0_bitsBy, c_bitsBy (A := 35) (len := 384) F hf w kA_35 kB_35 (by omega) this.1 (b t ht) (fun j _ => dayN_le w.2.1 t j) hy, kl_I, kl_J, kl_R, kl_T, kl_N, Nat.le_refl, Nat.zero_le, List.map_nil, List.map_cons, List.sum_nil, List.sum_cons, c_I, c_J, c_R, c_T, va_rf, hI_wI, hJ_wJ, hR_wR, hI_J, hI_R, hJ_I, hJ_R, hR_I, hR_J, hN_I, hN_J, hN_R, wI_I, wJ_J, upd_at, updL_at, kR_s, Option.toList, List.append_nil, List.nil_append, List.cons_append, if_true, if_false, reduceIte, Bool.false_eq_true, not_true_eq_false, not_false_eq_true, true_and, and_true, false_and, and_false,  Nat.reduceEqDiff, Nat.reduceAdd, Nat.reduceLeDiff]
  rfl
noncomputable def nxN (a : aS) (t wi af : Nat) : Option Nat := sooN (aN a) (dayN a t) wi af
theorem c_soonest {d : Nat} {h : qH} {s : Nat} {a : aS} {t wi af : Nat} (F : Fin0 (hR h)) (hf : hR h 32 0 = some s) (w : cS h s a) (b : bT h a) (ht : t < 2 ^ aN a) (hw : wi < 64) (hy : af < 2 ^ 31) : ∀ Q, WM (d + 1) mX0_soonest [.ref (32 : Nat), .int (nI t), .int (nI wi), .int (nI af)] h Q = Q (some (some (.int (oI (nxN a t wi af))))) h := by
  intro Q
  have := tIx w.2.1 ht
  simp (implicitDefEqProofs := false) only [eX0_soonest, rX0_soonest_0, rX0_soonest_0b, rX0_soonest_1, rX0_soonest_1b, rX0_soonest_2, rX0_soonest_5, rX0_soonest_6, rX0_soonest_7, rX0_soonest_8, rX0_soonest_11, fin_32_1 F, fin_32_2 F, fin_32_3 F, fin_32_4 F, kA_32, kB_32, kA_35, kB_35, pCX0_soonest, pSX0_soonest, pOX0_soonest, pLX0_soonest, pCX0_soonestIn, pSX0_soonestIn, pOX0_soonestIn, pLX0_soonestIn, c_soonestIn (A := 35) (len := 384) F hf w kA_35 kB_35 (by omega) this.1 (b t ht) (fun j _ => dayN_le w.2.1 t j) hw hy, kl_I, kl_J, kl_R, kl_T, kl_N, Nat.le_refl, Nat.zero_le, List.map_nil, List.map_cons, List.sum_nil, List.sum_cons, c_I, c_J, c_R, c_T, va_rf, hI_wI, hJ_wJ, hR_wR, hI_J, hI_R, hJ_I, hJ_R, hR_I, hR_J, hN_I, hN_J, hN_R, wI_I, wJ_J, upd_at, updL_at, kR_s, Option.toList, List.append_nil, List.nil_append, List.cons_append, if_true, if_false, reduceIte, Bool.false_eq_true, not_true_eq_false, not_false_eq_true, true_and, and_true, false_and, and_false,  Nat.reduceEqDiff, Nat.reduceAdd, Nat.reduceLeDiff]
  rfl
