/-! ===== the model: ways ===== -/
theorem l_gtc {d : Nat} {h : qH} {s : Nat} {a : aS} {x : sT} (k : mK h s a) (v : vF (hI h 46) a x) (h9 : x.2.2 ≤ 90) {Q : Option (Option Value) → qH → Prop} : ∀ (m i : Nat), i + m = aGl a → WP d mX9_glassesToCome (0, 0) 4 [some (.ref (44 : Nat)), some (.int (nI (gcN a x.2.2 i))), some (.int (nI i))] [] h Q = Q (some (some (.int (nI (gcN a x.2.2 (aGl a)))))) h := by
  have hs := k.2.2.1.1
  have f := k.2.2.1.2.1
  have ww := k.2.2.1.2.2.1
  have F := k.1
  have e1 := k.2.2.1.2.2.2.1.2.2.2.2.2.1
  have g4 := ww.2.2.2.2.2.2.2.1
  intro m
  induction m with
  | zero =>
    intro i hi
    obtain rfl : i = aGl a := by omega
    simp (implicitDefEqProofs := false) only [rX9_glassesToCome_4, rX9_glassesToCome_5, rX9_glassesToCome_5b, rX9_glassesToCome_6, rX9_glassesToCome_9, rX9_glassesToCome_12, rX9_glassesToCome_15, rX9_glassesToCome_16, rX9_glassesToCome_16b, rX9_glassesToCome_17, rX9_glassesToCome_20, rX9_glassesToCome_23, rX9_glassesToCome_24, rX9_glassesToCome_25, rX9_glassesToCome_25b, rX9_glassesToCome_26, rX9_glassesToCome_29, rX9_glassesToCome_31, rX9_glassesToCome_32, rX9_glassesToCome_35, rX9_glassesToCome_36, rX9_glassesToCome_39, rX9_glassesToCome_40, rX9_glassesToCome_41, rX9_glassesToCome_48, rX9_glassesToCome_49, kA_44, kB_44, kU0 hs, nU hs, k.2.1, e1, pCX9_glassesToCome, pSX9_glassesToCome, pOX9_glassesToCome, pLX9_glassesToCome, Int32.le_refl, kl_I, kl_J, kl_R, kl_T, kl_N, Nat.le_refl, Nat.zero_le, List.map_nil, List.map_cons, List.sum_nil, List.sum_cons, c_I, c_J, c_R, c_T, va_rf, hI_wI, hJ_wJ, hR_wR, hI_J, hI_R, hJ_I, hJ_R, hR_I, hR_J, hN_I, hN_J, hN_R, wI_I, wJ_J, upd_at, updL_at, kR_s, Option.toList, List.append_nil, List.nil_append, List.cons_append, if_true, if_false, reduceIte, Bool.false_eq_true, not_true_eq_false, not_false_eq_true, true_and, and_true, false_and, and_false, true_or, or_true,  Nat.reduceEqDiff, Nat.reduceAdd, Nat.reduceLeDiff]
  | succ m ih =>
    intro i hi
    have hlt : i < aGl a := by omega
    have g1 : ¬ nI (aGl a) ≤ nI i := nI_ge hlt (by omega)
    have v4 : vp_in (nI i) 4 := nI_vp (by omega) (by decide)
    have cl : (nI i).toNatClampNeg = i := nI_cl (by omega)
    have v9 : vp_in 9 10 := nI_vp (i := 9) (by omega) (by decide)
    have cl9 : (9 : Int32).toNatClampNeg = 9 := rfl
    have gd := k.2.2.1.2.2.2.2.2.2.1 i hlt
    have g30 := ww.2.2.2.2.2.2.2.2.1 i hlt
    have q1 : (nI (aGd a i) < nI x.2.2) = (aGd a i < x.2.2) := propext (nI_ltI (by omega) (by omega))
    have i1 := ih (i + 1) (by omega)
    rw [gcN] at i1
    by_cases c : aGd a i < x.2.2
    · rw [if_neg (by omega)] at i1
      simp (implicitDefEqProofs := false) only [rX9_glassesToCome_4, rX9_glassesToCome_5, rX9_glassesToCome_5b, rX9_glassesToCome_6, rX9_glassesToCome_9, rX9_glassesToCome_12, rX9_glassesToCome_15, rX9_glassesToCome_16, rX9_glassesToCome_16b, rX9_glassesToCome_17, rX9_glassesToCome_20, rX9_glassesToCome_23, rX9_glassesToCome_24, rX9_glassesToCome_25, rX9_glassesToCome_25b, rX9_glassesToCome_26, rX9_glassesToCome_29, rX9_glassesToCome_31, rX9_glassesToCome_32, rX9_glassesToCome_35, rX9_glassesToCome_36, rX9_glassesToCome_39, rX9_glassesToCome_40, rX9_glassesToCome_41, kA_44, kB_44, kA_46, kB_46, fin_44_5 F, fin_44_15 F, fin_44_16 F, fin_44_17 F, fin_44_18 F, fin_44_21 F, fin_44_23 F, fin_44_24 F, fin_44_25 F, fin_44_29 F, fin_44_33 F, kU0 hs, kU1 hs, kV1 hs, fU1 f, kU2 hs, kV2 hs, fU2 f, kU3 hs, kV3 hs, fU3 f, kU4 hs, kV4 hs, fU4 f, kU5 hs, kV5 hs, fU5 f, kU6 hs, kV6 hs, fU6 f, kU7 hs, kV7 hs, fU7 f, kU8 hs, kV8 hs, fU8 f, kU9 hs, kV9 hs, fU9 f, kU10 hs, kV10 hs, fU10 f, kU11 hs, kV11 hs, fU11 f, kU12 hs, kV12 hs, fU12 f, nU hs, nUk hs, k.2.1, e1, g1, v4, cl, v9, cl9, gd, v.2.2.2.2, q1, c, show (0 : Int32) = nI 0 from rfl, nI_add, pCX9_glassesToCome, pSX9_glassesToCome, pOX9_glassesToCome, pLX9_glassesToCome, kl_I, kl_J, kl_R, kl_T, kl_N, Nat.le_refl, Nat.zero_le, List.map_nil, List.map_cons, List.sum_nil, List.sum_cons, c_I, c_J, c_R, c_T, va_rf, hI_wI, hJ_wJ, hR_wR, hI_J, hI_R, hJ_I, hJ_R, hR_I, hR_J, hN_I, hN_J, hN_R, wI_I, wJ_J, upd_at, updL_at, kR_s, Option.toList, List.append_nil, List.nil_append, List.cons_append, if_true, if_false, reduceIte, Bool.false_eq_true, not_true_eq_false, not_false_eq_true, true_and, and_true, false_and, and_false, true_or, or_true,  Nat.reduceEqDiff, Nat.reduceAdd, Nat.reduceLeDiff]
      rw [rX9_glassesToCome_42, nI_1]
      simp (implicitDefEqProofs := false) only [rX9_glassesToCome_45, kl_I, kl_J, kl_R, kl_T, kl_N, Nat.le_refl, Nat.zero_le, List.map_nil, List.map_cons, List.sum_nil, List.sum_cons, c_I, c_J, c_R, c_T, va_rf, hI_wI, hJ_wJ, hR_wR, hI_J, hI_R, hJ_I, hJ_R, hR_I, hR_J, hN_I, hN_J, hN_R, wI_I, wJ_J, upd_at, updL_at, kR_s, Option.toList, List.append_nil, List.nil_append, List.cons_append, if_true, if_false, reduceIte, Bool.false_eq_true, not_true_eq_false, not_false_eq_true, true_and, and_true, false_and, and_false, true_or, or_true,  Nat.reduceEqDiff, Nat.reduceAdd, Nat.reduceLeDiff]
      exact i1
    · rw [if_pos (by omega)] at i1
      simp (implicitDefEqProofs := false) only [rX9_glassesToCome_4, rX9_glassesToCome_5, rX9_glassesToCome_5b, rX9_glassesToCome_6, rX9_glassesToCome_9, rX9_glassesToCome_12, rX9_glassesToCome_15, rX9_glassesToCome_16, rX9_glassesToCome_16b, rX9_glassesToCome_17, rX9_glassesToCome_20, rX9_glassesToCome_23, rX9_glassesToCome_24, rX9_glassesToCome_25, rX9_glassesToCome_25b, rX9_glassesToCome_26, rX9_glassesToCome_29, rX9_glassesToCome_31, rX9_glassesToCome_32, rX9_glassesToCome_35, rX9_glassesToCome_36, rX9_glassesToCome_39, rX9_glassesToCome_40, rX9_glassesToCome_41, kA_44, kB_44, kA_46, kB_46, fin_44_5 F, fin_44_15 F, fin_44_16 F, fin_44_17 F, fin_44_18 F, fin_44_21 F, fin_44_23 F, fin_44_24 F, fin_44_25 F, fin_44_29 F, fin_44_33 F, kU0 hs, kU1 hs, kV1 hs, fU1 f, kU2 hs, kV2 hs, fU2 f, kU3 hs, kV3 hs, fU3 f, kU4 hs, kV4 hs, fU4 f, kU5 hs, kV5 hs, fU5 f, kU6 hs, kV6 hs, fU6 f, kU7 hs, kV7 hs, fU7 f, kU8 hs, kV8 hs, fU8 f, kU9 hs, kV9 hs, fU9 f, kU10 hs, kV10 hs, fU10 f, kU11 hs, kV11 hs, fU11 f, kU12 hs, kV12 hs, fU12 f, nU hs, nUk hs, k.2.1, e1, g1, v4, cl, v9, cl9, gd, v.2.2.2.2, q1, c, nI_1, pCX9_glassesToCome, pSX9_glassesToCome, pOX9_glassesToCome, pLX9_glassesToCome, kl_I, kl_J, kl_R, kl_T, kl_N, Nat.le_refl, Nat.zero_le, List.map_nil, List.map_cons, List.sum_nil, List.sum_cons, c_I, c_J, c_R, c_T, va_rf, hI_wI, hJ_wJ, hR_wR, hI_J, hI_R, hJ_I, hJ_R, hR_I, hR_J, hN_I, hN_J, hN_R, wI_I, wJ_J, upd_at, updL_at, kR_s, Option.toList, List.append_nil, List.nil_append, List.cons_append, if_true, if_false, reduceIte, Bool.false_eq_true, not_true_eq_false, not_false_eq_true, true_and, and_true, false_and, and_false, true_or, or_true,  Nat.reduceEqDiff, Nat.reduceAdd, Nat.reduceLeDiff]
      rw [rX9_glassesToCome_42, nI_1]
      simp (implicitDefEqProofs := false) only [rX9_glassesToCome_45, kl_I, kl_J, kl_R, kl_T, kl_N, Nat.le_refl, Nat.zero_le, List.map_nil, List.map_cons, List.sum_nil, List.sum_cons, c_I, c_J, c_R, c_T, va_rf, hI_wI, hJ_wJ, hR_wR, hI_J, hI_R, hJ_I, hJ_R, hR_I, hR_J, hN_I, hN_J, hN_R, wI_I, wJ_J, upd_at, updL_at, kR_s, Option.toList, List.append_nil, List.nil_append, List.cons_append, if_true, if_false, reduceIte, Bool.false_eq_true, not_true_eq_false, not_false_eq_true, true_and, and_true, false_and, and_false, true_or, or_true,  Nat.reduceEqDiff, Nat.reduceAdd, Nat.reduceLeDiff]
      exact i1
theorem c_gtc {d : Nat} {h : qH} {s : Nat} {a : aS} {x : sT} (k : mK h s a) (v : vF (hI h 46) a x) (h9 : x.2.2 ≤ 90) : ∀ Q, WM d mX9_glassesToCome [.ref (44 : Nat)] h Q = Q (some (some (.int (nI (glL a x.2.2).length)))) h := by
  intro Q
  have l := l_gtc (d := d) (Q := Q) k v h9 (aGl a) 0 (by omega)
  rw [gc_all k.2.2.1.2.2.1] at l
  simp (implicitDefEqProofs := false) only [eX9_glassesToCome, rX9_glassesToCome_0, rX9_glassesToCome_1, rX9_glassesToCome_2, rX9_glassesToCome_3, kl_I, kl_J, kl_R, kl_T, kl_N, Nat.le_refl, Nat.zero_le, List.map_nil, List.map_cons, List.sum_nil, List.sum_cons, c_I, c_J, c_R, c_T, va_rf, hI_wI, hJ_wJ, hR_wR, hI_J, hI_R, hJ_I, hJ_R, hR_I, hR_J, hN_I, hN_J, hN_R, wI_I, wJ_J, upd_at, updL_at, kR_s, Option.toList, List.append_nil, List.nil_append, List.cons_append, if_true, if_false, reduceIte, Bool.false_eq_true, not_true_eq_false, not_false_eq_true, true_and, and_true, false_and, and_false, true_or, or_true,  Nat.reduceEqDiff, Nat.reduceAdd, Nat.reduceLeDiff]
  exact l
theorem gl_4 {a : aS} (w : aW a) {y : Nat} : (glL a y).length ≤ 4 := by
  have := w.2.2.2.2.2.2.2.1
  rw [glL_len]; omega
theorem l_codes {d : Nat} {h : qH} {s : Nat} {a : aS} {x : sT} (k : mK h s a) (v : vF (hI h 46) a x) (h9 : x.2.2 ≤ 90) {Q : Option (Option Value) → qH → Prop} : ∀ (m i : Nat), i + m = (glL a x.2.2).length → WP (d + 1) mX9_codes (0, 0) 4 [some (.ref (44 : Nat)), some (.int (nI (aN a ^ i))), some (.int (nI i))] [] h Q = Q (some (some (.int (nI (wcC a x))))) h := by
  have hs := k.2.2.1.1
  have ww := k.2.2.1.2.2.1
  have gt := c_gtc (d := d) k v h9
  have e1 := k.2.2.1.2.2.2.1.2.1
  have l4 := gl_4 ww (y := x.2.2)
  intro m
  induction m with
  | zero =>
    intro i hi
    obtain rfl : i = (glL a x.2.2).length := by omega
    simp (implicitDefEqProofs := false) only [rX9_codes_4, rX9_codes_5, rX9_codes_5b, rX9_codes_6, rX9_codes_9, rX9_codes_12, rX9_codes_13, rX9_codes_13b, rX9_codes_14, rX9_codes_17, rX9_codes_20, rX9_codes_21, rX9_codes_28, rX9_codes_29, kA_44, kB_44, gt, wcC, pCX9_codes, pSX9_codes, pOX9_codes, pLX9_codes, pCX9_glassesToCome, pSX9_glassesToCome, pOX9_glassesToCome, pLX9_glassesToCome, Int32.le_refl, kl_I, kl_J, kl_R, kl_T, kl_N, Nat.le_refl, Nat.zero_le, List.map_nil, List.map_cons, List.sum_nil, List.sum_cons, c_I, c_J, c_R, c_T, va_rf, hI_wI, hJ_wJ, hR_wR, hI_J, hI_R, hJ_I, hJ_R, hR_I, hR_J, hN_I, hN_J, hN_R, wI_I, wJ_J, upd_at, updL_at, kR_s, Option.toList, List.append_nil, List.nil_append, List.cons_append, if_true, if_false, reduceIte, Bool.false_eq_true, not_true_eq_false, not_false_eq_true, true_and, and_true, false_and, and_false, true_or, or_true,  Nat.reduceEqDiff, Nat.reduceAdd, Nat.reduceLeDiff]
  | succ m ih =>
    intro i hi
    have g1 : ¬ nI (glL a x.2.2).length ≤ nI i := nI_ge (by omega) (by omega)
    have i1 := ih (i + 1) (by omega)
    rw [Nat.pow_succ] at i1
    simp (implicitDefEqProofs := false) only [rX9_codes_4, rX9_codes_5, rX9_codes_5b, rX9_codes_6, rX9_codes_9, rX9_codes_12, rX9_codes_13, rX9_codes_13b, rX9_codes_14, rX9_codes_17, rX9_codes_20, rX9_codes_21, kA_44, kB_44, kU0 hs, nU hs, k.2.1, e1, gt, g1, nI_mul, pCX9_codes, pSX9_codes, pOX9_codes, pLX9_codes, pCX9_glassesToCome, pSX9_glassesToCome, pOX9_glassesToCome, pLX9_glassesToCome, kl_I, kl_J, kl_R, kl_T, kl_N, Nat.le_refl, Nat.zero_le, List.map_nil, List.map_cons, List.sum_nil, List.sum_cons, c_I, c_J, c_R, c_T, va_rf, hI_wI, hJ_wJ, hR_wR, hI_J, hI_R, hJ_I, hJ_R, hR_I, hR_J, hN_I, hN_J, hN_R, wI_I, wJ_J, upd_at, updL_at, kR_s, Option.toList, List.append_nil, List.nil_append, List.cons_append, if_true, if_false, reduceIte, Bool.false_eq_true, not_true_eq_false, not_false_eq_true, true_and, and_true, false_and, and_false, true_or, or_true,  Nat.reduceEqDiff, Nat.reduceAdd, Nat.reduceLeDiff]
    rw [rX9_codes_22, nI_1]
    simp (implicitDefEqProofs := false) only [rX9_codes_25, kl_I, kl_J, kl_R, kl_T, kl_N, Nat.le_refl, Nat.zero_le, List.map_nil, List.map_cons, List.sum_nil, List.sum_cons, c_I, c_J, c_R, c_T, va_rf, hI_wI, hJ_wJ, hR_wR, hI_J, hI_R, hJ_I, hJ_R, hR_I, hR_J, hN_I, hN_J, hN_R, wI_I, wJ_J, upd_at, updL_at, kR_s, Option.toList, List.append_nil, List.nil_append, List.cons_append, if_true, if_false, reduceIte, Bool.false_eq_true, not_true_eq_false, not_false_eq_true, true_and, and_true, false_and, and_false, true_or, or_true,  Nat.reduceEqDiff, Nat.reduceAdd, Nat.reduceLeDiff]
    exact i1
theorem c_codes {d : Nat} {h : qH} {s : Nat} {a : aS} {x : sT} (k : mK h s a) (v : vF (hI h 46) a x) (h9 : x.2.2 ≤ 90) : ∀ Q, WM (d + 1) mX9_codes [.ref (44 : Nat)] h Q = Q (some (some (.int (nI (wcC a x))))) h := by
  intro Q
  have l := l_codes (d := d) (Q := Q) k v h9 (glL a x.2.2).length 0 (by omega)
  rw [Nat.pow_zero] at l
  simp (implicitDefEqProofs := false) only [eX9_codes, rX9_codes_0, rX9_codes_1, rX9_codes_2, rX9_codes_3, kl_I, kl_J, kl_R, kl_T, kl_N, Nat.le_refl, Nat.zero_le, List.map_nil, List.map_cons, List.sum_nil, List.sum_cons, c_I, c_J, c_R, c_T, va_rf, hI_wI, hJ_wJ, hR_wR, hI_J, hI_R, hJ_I, hJ_R, hR_I, hR_J, hN_I, hN_J, hN_R, wI_I, wJ_J, upd_at, updL_at, kR_s, Option.toList, List.append_nil, List.nil_append, List.cons_append, if_true, if_false, reduceIte, Bool.false_eq_true, not_true_eq_false, not_false_eq_true, true_and, and_true, false_and, and_false, true_or, or_true,  Nat.reduceEqDiff, Nat.reduceAdd, Nat.reduceLeDiff]
  exact l
def noBurn (a : aS) (t y D : Nat) : Prop := ¬ dayN a t D ≤ y
def on_lt (a : aS) (t _w y D : Nat) : Prop := noBurn a t y D
theorem ag_day {a : aS} {t w y D : Nat} (h : (agN a t w y).testBit D = true) (hd : D < aN a) : on_lt a t w y D := by
  unfold agN at h
  rw [bm_bit] at h
  simp only [agP, Bool.and_eq_true, decide_eq_true_eq] at h
  unfold on_lt noBurn
  have := h.2.1
  omega
set_option maxHeartbeats 2000000 in
theorem l_isWay {d : Nat} {s C : Nat} {a : aS} {w : Nat} {yy : Nat} {y0 : Nat} (hn : 0 < aN a) (hw : w < 64) (hC : C < 2 ^ 31) : ∀ (ys : List Nat) (j t : Nat) (h : qH) (o5 o6 o7 : Option Value), j + ys.length = y0 → y0 ≤ aGl a → (∀ i, i < ys.length → aGd a (aGl a - y0 + j + i) = ys.getD i 0) → mK h s a → t < 2 ^ aN a → vF (hI h 47) a (t, w, yy) → atR h a (dayN a t) → ∃ h', (∀ Q, WP (d + 5) mX9_isWay (0, 0) 17 [some (.ref (44 : Nat)), some (.int (nI C)), some (.int (nI y0)), some (.int (nI (aN a ^ ys.length))), some (.int (nI j)), o5, o6, o7] [] h Q = Q (some (some (.int (bI (wyN a w ys C t).isSome)))) h') ∧ sx [47, 50, 51, 52] h h' ∧ (∀ i, i < j → hI h' 52 i = hI h 52 i) ∧ ∀ p, wyN a w ys C t = some p → (∀ i, i < ys.length → hI h' 52 (j + i) = oI (p.2.getD i none)) ∧ atR h' a (dayN a p.1) := by
  intro ys
  induction ys with
  | nil =>
    intro j t h o5 o6 o7 hj hy hg k ht v at0
    refine ⟨h, fun Q => ?_, sx_refl, fun _ _ => rfl, fun p hp => ?_⟩
    · simp only [List.length_nil, Nat.add_zero] at hj
      subst hj
      simp (implicitDefEqProofs := false) only [rX9_isWay_17, rX9_isWay_19, rX9_isWay_20, rX9_isWay_139, rX9_isWay_140, Int32.le_refl, wyN, Option.isSome_some, bI_t, pCX9_isWay, pSX9_isWay, pOX9_isWay, pLX9_isWay, kl_I, kl_J, kl_R, kl_T, kl_N, Nat.le_refl, Nat.zero_le, List.map_nil, List.map_cons, List.sum_nil, List.sum_cons, c_I, c_J, c_R, c_T, va_rf, hI_wI, hJ_wJ, hR_wR, hI_J, hI_R, hJ_I, hJ_R, hR_I, hR_J, hN_I, hN_J, hN_R, wI_I, wJ_J, upd_at, updL_at, kR_s, Option.toList, List.append_nil, List.nil_append, List.cons_append, if_true, if_false, reduceIte, Bool.false_eq_true, not_true_eq_false, not_false_eq_true, true_and, and_true, false_and, and_false, true_or, or_true,  Nat.reduceEqDiff, Nat.reduceAdd, Nat.reduceLeDiff]
    · rw [wyN] at hp
      cases hp
      exact ⟨fun i hi => by simp at hi, at0⟩
  | cons y ys ih =>
    intro j t h o5 o6 o7 hj hy hg k ht v at0
    have hs := k.2.2.1.1
    have f := k.2.2.1.2.1
    have ww := k.2.2.1.2.2.1
    have h6 := ww.1
    have p64 := p6 h6
    have F := k.1
    have e1 := k.2.2.1.2.2.2.1.2.1
    have e5 := k.2.2.1.2.2.2.1.2.2.2.2.2.1
    have g4 := ww.2.2.2.2.2.2.2.1
    rw [List.length_cons] at hj hg
    have lj : aGl a - y0 + j < aGl a := by omega
    have gy : aGd a (aGl a - y0 + j) = y := by have := hg 0 (by omega); simpa using this
    have gd := k.2.2.1.2.2.2.2.2.2.1 _ lj
    have g30 := ww.2.2.2.2.2.2.2.2.1 _ lj
    rw [gy] at gd g30
    have M0 : 0 < aN a ^ ys.length := Nat.pow_pos hn
    have M1 := pwN (n := aN a) (m := ys.length) h6 (by omega)
    have M2 := pwN (n := aN a) (m := ys.length + 1) h6 (by omega)
    have g1 : ¬ nI y0 ≤ nI j := nI_ge (by omega) (by omega)
    have dv : nI (aN a ^ (ys.length + 1)) / nI (aN a) = nI (aN a ^ ys.length) := by
      rw [pk_div (by omega) hn (by omega), Nat.pow_succ, Nat.mul_div_cancel _ hn]
    have z1 : ¬ nI (aN a) = 0 := nI_ne0 hn (by omega)
    have z2 : ¬ nI (aN a ^ ys.length) = 0 := nI_ne0 M0 (by omega)
    have dc : nI C / nI (aN a ^ ys.length) = nI (C / aN a ^ ys.length) := pk_div hC M0 (by omega)
    have hq : C / aN a ^ ys.length < 2 ^ 31 := Nat.lt_of_le_of_lt (Nat.div_le_self _ _) hC
    have rm : nI (C / aN a ^ ys.length) - nI (C / aN a ^ ys.length) / nI (aN a) * nI (aN a) = nI (C / aN a ^ ys.length % aN a) := pk_rem hq hn (by omega)
    have hd : C / aN a ^ ys.length % aN a < aN a := Nat.mod_lt _ hn
    have su : nI (aGl a) - nI y0 = nI (aGl a - y0) := pk_sub (by omega)
    have v4 : vp_in (nI (aGl a - y0 + j)) 4 := nI_vp (by omega) (by decide)
    have cl4 : (nI (aGl a - y0 + j)).toNatClampNeg = aGl a - y0 + j := nI_cl (by omega)
    have vj : vp_in (nI j) 4 := nI_vp (by omega) (by decide)
    have clj : (nI j).toNatClampNeg = j := nI_cl (by omega)
    obtain ⟨h1, f1, x1, u1, a1⟩ := c_magreeing (d := d) (y := y) k v at0 ht hw (by omega)
    have f1 : ∀ Q, WM (d + 4) mX9_agreeing [.ref (44 : Nat), .int (nI y)] h Q = Q (some (some (.int (nI (agN a t w y))))) h1 := f1
    have k1 := mK_sx k x1 (by decide)
    have F1 := k1.1
    have a64 := agN_lt ww (t := t) (wi := w) (y := y)
    have qa : (nI (agN a t w y) = 0) = (agN a t w y = 0) := nq (x := agN a t w y) (k := 0) (c := 0) rfl (by omega) (by omega)
    have hg' : ∀ i, i < ys.length → aGd a (aGl a - y0 + (j + 1) + i) = ys.getD i 0 := fun i hi => by
      have := hg (i + 1) (by omega)
      rw [List.getD_cons_succ] at this
      rw [← this]
      congr 1
      omega
    rw [wyN]
    generalize hdd : C / aN a ^ ys.length % aN a = D at rm hd ⊢
    by_cases c1 : agN a t w y = 0
    · rw [if_pos c1]
      rw [c1] at f1
      have qd : (nI D = 0) = (D = 0) := nq (x := D) (k := 0) (c := 0) rfl (by omega) (by omega)
      by_cases c2 : D = 0
      · rw [if_pos c2]
        have x2 : sx [52] h1 (wI h1 52 (upd (hI h1 52) j (-2))) := sx_w sx_refl (by simp)
        have k2 := mK_sx k1 x2 (by decide)
        obtain ⟨h', e3, x3, k3, p3⟩ := ih (j + 1) t (wI h1 52 (upd (hI h1 52) j (-2))) (some (.int (nI D))) (some (.int (nI y))) (some (.int (nI 0))) (by omega) hy hg' k2 ht (by rw [hI_wI, if_neg (by decide)]; exact u1) (at_sx a1 x2 (by decide))
        refine ⟨h', fun Q => ?_, sx_trans (sx_mono x1 (by simp)) (sx_trans (sx_mono x2 (by simp)) x3), fun i hi => ?_, fun p hp => ?_⟩
        · have e3 := e3 Q
          rw [Option.isSome_map]
          simp (implicitDefEqProofs := false) only [rX9_isWay_17, rX9_isWay_19, rX9_isWay_20, rX9_isWay_23, rX9_isWay_24, rX9_isWay_24b, rX9_isWay_25, rX9_isWay_28, rX9_isWay_31, rX9_isWay_32, rX9_isWay_33, rX9_isWay_34, rX9_isWay_35, rX9_isWay_36, rX9_isWay_36b, rX9_isWay_37, rX9_isWay_40, rX9_isWay_43, rX9_isWay_44, rX9_isWay_46, rX9_isWay_46b, rX9_isWay_47, rX9_isWay_50, rX9_isWay_53, rX9_isWay_53b, rX9_isWay_54, rX9_isWay_57, rX9_isWay_60, rX9_isWay_61, rX9_isWay_62, rX9_isWay_64, rX9_isWay_65, rX9_isWay_66, rX9_isWay_68, rX9_isWay_68b, rX9_isWay_69, rX9_isWay_71, rX9_isWay_74, rX9_isWay_76, rX9_isWay_78, rX9_isWay_81, rX9_isWay_83, rX9_isWay_86, rX9_isWay_89, rX9_isWay_91, rX9_isWay_93, rX9_isWay_96, rX9_isWay_99, rX9_isWay_100, rX9_isWay_101, rX9_isWay_101b, rX9_isWay_102, rX9_isWay_105, rX9_isWay_107, rX9_isWay_109, rX9_isWay_112, rX9_isWay_114, rX9_isWay_117, rX9_isWay_119, rX9_isWay_120, rX9_isWay_122, rX9_isWay_125, rX9_isWay_125b, rX9_isWay_126, rX9_isWay_128, rX9_isWay_130, kA_44, kB_44, kA_52, kB_52, fin_44_5 F1, fin_44_15 F1, fin_44_16 F1, fin_44_17 F1, fin_44_18 F1, fin_44_21 F1, fin_44_23 F1, fin_44_24 F1, fin_44_25 F1, fin_44_29 F1, fin_44_33 F1, kU0 hs, kU1 hs, kV1 hs, fU1 f, kU2 hs, kV2 hs, fU2 f, kU3 hs, kV3 hs, fU3 f, kU4 hs, kV4 hs, fU4 f, kU5 hs, kV5 hs, fU5 f, kU6 hs, kV6 hs, fU6 f, kU7 hs, kV7 hs, fU7 f, kU8 hs, kV8 hs, fU8 f, kU9 hs, kV9 hs, fU9 f, kU10 hs, kV10 hs, fU10 f, kU11 hs, kV11 hs, fU11 f, kU12 hs, kV12 hs, fU12 f, nU hs, nUk hs, List.length_cons, k.2.1, k1.2.1, e1, e5, g1, dv, z1, z2, dc, rm, su, nI_add, v4, cl4, gd, f1, qd, c2, nI_0, vj, clj, pCX9_isWay, pSX9_isWay, pOX9_isWay, pLX9_isWay, pCX9_agreeing, pSX9_agreeing, pOX9_agreeing, pLX9_agreeing, kl_I, kl_J, kl_R, kl_T, kl_N, Nat.le_refl, Nat.zero_le, List.map_nil, List.map_cons, List.sum_nil, List.sum_cons, c_I, c_J, c_R, c_T, va_rf, hI_wI, hJ_wJ, hR_wR, hI_J, hI_R, hJ_I, hJ_R, hR_I, hR_J, hN_I, hN_J, hN_R, wI_I, wJ_J, upd_at, updL_at, kR_s, Option.toList, List.append_nil, List.nil_append, List.cons_append, if_true, if_false, reduceIte, Bool.false_eq_true, not_true_eq_false, not_false_eq_true, true_and, and_true, false_and, and_false, true_or, or_true,  Nat.reduceEqDiff, Nat.reduceAdd, Nat.reduceLeDiff]
          rw [rX9_isWay_133, nI_1]
          simp (implicitDefEqProofs := false) only [rX9_isWay_136, kl_I, kl_J, kl_R, kl_T, kl_N, Nat.le_refl, Nat.zero_le, List.map_nil, List.map_cons, List.sum_nil, List.sum_cons, c_I, c_J, c_R, c_T, va_rf, hI_wI, hJ_wJ, hR_wR, hI_J, hI_R, hJ_I, hJ_R, hR_I, hR_J, hN_I, hN_J, hN_R, wI_I, wJ_J, upd_at, updL_at, kR_s, Option.toList, List.append_nil, List.nil_append, List.cons_append, if_true, if_false, reduceIte, Bool.false_eq_true, not_true_eq_false, not_false_eq_true, true_and, and_true, false_and, and_false, true_or, or_true,  Nat.reduceEqDiff, Nat.reduceAdd, Nat.reduceLeDiff]
          rw [c2, nI_0] at e3
          exact e3
        · rw [k3 i (by omega), hI_wI, if_pos rfl, upd_at, if_neg (by omega), x1.2.2.2 52 (by decide)]
        · rw [Option.map_eq_some_iff] at hp
          obtain ⟨q, hq2, rfl⟩ := hp
          obtain ⟨p4, p5⟩ := p3 q hq2
          refine ⟨fun i hi => ?_, p5⟩
          cases i with
          | zero =>
            rw [Nat.add_zero, k3 j (by omega), hI_wI, if_pos rfl, upd_at, if_pos rfl]
            rfl
          | succ i =>
            rw [List.length_cons] at hi
            have := p4 i (by omega)
            rw [show j + (i + 1) = j + 1 + i by omega, this]
            rfl
      · rw [if_neg c2]
        refine ⟨h1, fun Q => ?_, sx_mono x1 (by simp), fun i hi => by rw [x1.2.2.2 52 (by decide)], fun p hp => by cases hp⟩
        simp (implicitDefEqProofs := false) only [rX9_isWay_17, rX9_isWay_19, rX9_isWay_20, rX9_isWay_23, rX9_isWay_24, rX9_isWay_24b, rX9_isWay_25, rX9_isWay_28, rX9_isWay_31, rX9_isWay_32, rX9_isWay_33, rX9_isWay_34, rX9_isWay_35, rX9_isWay_36, rX9_isWay_36b, rX9_isWay_37, rX9_isWay_40, rX9_isWay_43, rX9_isWay_44, rX9_isWay_46, rX9_isWay_46b, rX9_isWay_47, rX9_isWay_50, rX9_isWay_53, rX9_isWay_53b, rX9_isWay_54, rX9_isWay_57, rX9_isWay_60, rX9_isWay_61, rX9_isWay_62, rX9_isWay_64, rX9_isWay_65, rX9_isWay_66, rX9_isWay_68, rX9_isWay_68b, rX9_isWay_69, rX9_isWay_71, rX9_isWay_74, rX9_isWay_76, rX9_isWay_78, rX9_isWay_81, rX9_isWay_83, rX9_isWay_86, rX9_isWay_89, rX9_isWay_91, rX9_isWay_93, rX9_isWay_96, rX9_isWay_99, rX9_isWay_100, kA_44, kB_44, kA_52, kB_52, fin_44_5 F1, fin_44_15 F1, fin_44_16 F1, fin_44_17 F1, fin_44_18 F1, fin_44_21 F1, fin_44_23 F1, fin_44_24 F1, fin_44_25 F1, fin_44_29 F1, fin_44_33 F1, kU0 hs, kU1 hs, kV1 hs, fU1 f, kU2 hs, kV2 hs, fU2 f, kU3 hs, kV3 hs, fU3 f, kU4 hs, kV4 hs, fU4 f, kU5 hs, kV5 hs, fU5 f, kU6 hs, kV6 hs, fU6 f, kU7 hs, kV7 hs, fU7 f, kU8 hs, kV8 hs, fU8 f, kU9 hs, kV9 hs, fU9 f, kU10 hs, kV10 hs, fU10 f, kU11 hs, kV11 hs, fU11 f, kU12 hs, kV12 hs, fU12 f, nU hs, nUk hs, List.length_cons, k.2.1, k1.2.1, e1, e5, g1, dv, z1, z2, dc, rm, su, nI_add, v4, cl4, gd, f1, qd, c2, nI_0, vj, clj, Option.isSome_none, bI_f, pCX9_isWay, pSX9_isWay, pOX9_isWay, pLX9_isWay, pCX9_agreeing, pSX9_agreeing, pOX9_agreeing, pLX9_agreeing, kl_I, kl_J, kl_R, kl_T, kl_N, Nat.le_refl, Nat.zero_le, List.map_nil, List.map_cons, List.sum_nil, List.sum_cons, c_I, c_J, c_R, c_T, va_rf, hI_wI, hJ_wJ, hR_wR, hI_J, hI_R, hJ_I, hJ_R, hR_I, hR_J, hN_I, hN_J, hN_R, wI_I, wJ_J, upd_at, updL_at, kR_s, Option.toList, List.append_nil, List.nil_append, List.cons_append, if_true, if_false, reduceIte, Bool.false_eq_true, not_true_eq_false, not_false_eq_true, true_and, and_true, false_and, and_false, true_or, or_true,  Nat.reduceEqDiff, Nat.reduceAdd, Nat.reduceLeDiff]
    · rw [if_neg c1]
      have bt := c_mbit (d := d + 4) (h := h1) (t := agN a t w y) (j := D) (by omega) (by omega)
      cases c2 : (agN a t w y).testBit D with
      | true =>
        rw [if_pos rfl]
        rw [c2] at bt
        have ap : on_lt a t w y D := ag_day c2 hd
        have x2 : sx [52] h1 (wI h1 52 (upd (hI h1 52) j (nI D))) := sx_w sx_refl (by simp)
        have k2 := mK_sx k1 x2 (by decide)
        obtain ⟨h3, e3, x3, u3, a3⟩ := c_tells (d := d + 1) (y := y) k2 (by rw [hI_wI, if_neg (by decide)]; exact u1) (at_sx a1 x2 (by decide)) hd (by simp only; omega) (by omega)
        simp only at u3 a3
        rw [tl_no (by exact ap)] at u3 a3
        have k3 := mK_sx k2 x3 (by decide)
        obtain ⟨h', e4, x4, k4, p4⟩ := ih (j + 1) (t ||| 2 ^ D) h3 (some (.int (nI D))) (some (.int (nI y))) (some (.int (nI (agN a t w y)))) (by omega) hy hg' k3 (or_lt ht hd) u3 a3
        have r52 : hI h3 52 = upd (hI h1 52) j (nI D) := by rw [x3.2.2.2 52 (by decide), hI_wI, if_pos rfl]
        refine ⟨h', fun Q => ?_, sx_trans (sx_mono x1 (by simp)) (sx_trans (sx_mono x2 (by simp)) (sx_trans (sx_mono x3 (by simp)) x4)), fun i hi => ?_, fun p hp => ?_⟩
        · have e4 := e4 Q
          rw [Option.isSome_map]
          simp (implicitDefEqProofs := false) only [rX9_isWay_17, rX9_isWay_19, rX9_isWay_20, rX9_isWay_23, rX9_isWay_24, rX9_isWay_24b, rX9_isWay_25, rX9_isWay_28, rX9_isWay_31, rX9_isWay_32, rX9_isWay_33, rX9_isWay_34, rX9_isWay_35, rX9_isWay_36, rX9_isWay_36b, rX9_isWay_37, rX9_isWay_40, rX9_isWay_43, rX9_isWay_44, rX9_isWay_46, rX9_isWay_46b, rX9_isWay_47, rX9_isWay_50, rX9_isWay_53, rX9_isWay_53b, rX9_isWay_54, rX9_isWay_57, rX9_isWay_60, rX9_isWay_61, rX9_isWay_62, rX9_isWay_64, rX9_isWay_65, rX9_isWay_66, rX9_isWay_68, rX9_isWay_68b, rX9_isWay_69, rX9_isWay_71, rX9_isWay_74, rX9_isWay_76, rX9_isWay_78, rX9_isWay_81, rX9_isWay_83, rX9_isWay_86, rX9_isWay_89, rX9_isWay_91, rX9_isWay_93, rX9_isWay_96, rX9_isWay_99, rX9_isWay_100, rX9_isWay_101, rX9_isWay_101b, rX9_isWay_102, rX9_isWay_105, rX9_isWay_107, rX9_isWay_109, rX9_isWay_112, rX9_isWay_114, rX9_isWay_117, rX9_isWay_119, rX9_isWay_120, rX9_isWay_122, rX9_isWay_125, rX9_isWay_125b, rX9_isWay_126, rX9_isWay_128, rX9_isWay_130, kA_44, kB_44, kA_52, kB_52, fin_44_5 F1, fin_44_15 F1, fin_44_16 F1, fin_44_17 F1, fin_44_18 F1, fin_44_21 F1, fin_44_23 F1, fin_44_24 F1, fin_44_25 F1, fin_44_29 F1, fin_44_33 F1, kU0 hs, kU1 hs, kV1 hs, fU1 f, kU2 hs, kV2 hs, fU2 f, kU3 hs, kV3 hs, fU3 f, kU4 hs, kV4 hs, fU4 f, kU5 hs, kV5 hs, fU5 f, kU6 hs, kV6 hs, fU6 f, kU7 hs, kV7 hs, fU7 f, kU8 hs, kV8 hs, fU8 f, kU9 hs, kV9 hs, fU9 f, kU10 hs, kV10 hs, fU10 f, kU11 hs, kV11 hs, fU11 f, kU12 hs, kV12 hs, fU12 f, nU hs, nUk hs, List.length_cons, k.2.1, k1.2.1, e1, e5, g1, dv, z1, z2, dc, rm, su, nI_add, v4, cl4, gd, f1, qa, c1, bt, bI_t, show ¬ (1 : Int32) = 0 from by decide, vj, clj, e3, pCX9_isWay, pSX9_isWay, pOX9_isWay, pLX9_isWay, pCX9_agreeing, pSX9_agreeing, pOX9_agreeing, pLX9_agreeing, pCX9_bit, pSX9_bit, pOX9_bit, pLX9_bit, pCX9_tells, pSX9_tells, pOX9_tells, pLX9_tells, kl_I, kl_J, kl_R, kl_T, kl_N, Nat.le_refl, Nat.zero_le, List.map_nil, List.map_cons, List.sum_nil, List.sum_cons, c_I, c_J, c_R, c_T, va_rf, hI_wI, hJ_wJ, hR_wR, hI_J, hI_R, hJ_I, hJ_R, hR_I, hR_J, hN_I, hN_J, hN_R, wI_I, wJ_J, upd_at, updL_at, kR_s, Option.toList, List.append_nil, List.nil_append, List.cons_append, if_true, if_false, reduceIte, Bool.false_eq_true, not_true_eq_false, not_false_eq_true, true_and, and_true, false_and, and_false, true_or, or_true,  Nat.reduceEqDiff, Nat.reduceAdd, Nat.reduceLeDiff]
          rw [rX9_isWay_133, nI_1]
          simp (implicitDefEqProofs := false) only [rX9_isWay_136, kl_I, kl_J, kl_R, kl_T, kl_N, Nat.le_refl, Nat.zero_le, List.map_nil, List.map_cons, List.sum_nil, List.sum_cons, c_I, c_J, c_R, c_T, va_rf, hI_wI, hJ_wJ, hR_wR, hI_J, hI_R, hJ_I, hJ_R, hR_I, hR_J, hN_I, hN_J, hN_R, wI_I, wJ_J, upd_at, updL_at, kR_s, Option.toList, List.append_nil, List.nil_append, List.cons_append, if_true, if_false, reduceIte, Bool.false_eq_true, not_true_eq_false, not_false_eq_true, true_and, and_true, false_and, and_false, true_or, or_true,  Nat.reduceEqDiff, Nat.reduceAdd, Nat.reduceLeDiff]
          exact e4
        · rw [k4 i (by omega), r52, upd_at, if_neg (by omega), x1.2.2.2 52 (by decide)]
        · rw [Option.map_eq_some_iff] at hp
          obtain ⟨q, hq2, rfl⟩ := hp
          obtain ⟨p5, p6⟩ := p4 q hq2
          refine ⟨fun i hi => ?_, p6⟩
          cases i with
          | zero =>
            rw [Nat.add_zero, k4 j (by omega), r52, upd_at, if_pos rfl]
            rfl
          | succ i =>
            rw [List.length_cons] at hi
            have := p5 i (by omega)
            rw [show j + (i + 1) = j + 1 + i by omega, this]
            rfl
      | false =>
        rw [if_neg (by simp)]
        rw [c2] at bt
        refine ⟨h1, fun Q => ?_, sx_mono x1 (by simp), fun i hi => by rw [x1.2.2.2 52 (by decide)], fun p hp => by cases hp⟩
        simp (implicitDefEqProofs := false) only [rX9_isWay_17, rX9_isWay_19, rX9_isWay_20, rX9_isWay_23, rX9_isWay_24, rX9_isWay_24b, rX9_isWay_25, rX9_isWay_28, rX9_isWay_31, rX9_isWay_32, rX9_isWay_33, rX9_isWay_34, rX9_isWay_35, rX9_isWay_36, rX9_isWay_36b, rX9_isWay_37, rX9_isWay_40, rX9_isWay_43, rX9_isWay_44, rX9_isWay_46, rX9_isWay_46b, rX9_isWay_47, rX9_isWay_50, rX9_isWay_53, rX9_isWay_53b, rX9_isWay_54, rX9_isWay_57, rX9_isWay_60, rX9_isWay_61, rX9_isWay_62, rX9_isWay_64, rX9_isWay_65, rX9_isWay_66, rX9_isWay_68, rX9_isWay_68b, rX9_isWay_69, rX9_isWay_71, rX9_isWay_74, rX9_isWay_76, rX9_isWay_78, rX9_isWay_81, rX9_isWay_83, rX9_isWay_86, rX9_isWay_89, rX9_isWay_91, rX9_isWay_93, rX9_isWay_96, rX9_isWay_99, rX9_isWay_100, kA_44, kB_44, kA_52, kB_52, fin_44_5 F1, fin_44_15 F1, fin_44_16 F1, fin_44_17 F1, fin_44_18 F1, fin_44_21 F1, fin_44_23 F1, fin_44_24 F1, fin_44_25 F1, fin_44_29 F1, fin_44_33 F1, kU0 hs, kU1 hs, kV1 hs, fU1 f, kU2 hs, kV2 hs, fU2 f, kU3 hs, kV3 hs, fU3 f, kU4 hs, kV4 hs, fU4 f, kU5 hs, kV5 hs, fU5 f, kU6 hs, kV6 hs, fU6 f, kU7 hs, kV7 hs, fU7 f, kU8 hs, kV8 hs, fU8 f, kU9 hs, kV9 hs, fU9 f, kU10 hs, kV10 hs, fU10 f, kU11 hs, kV11 hs, fU11 f, kU12 hs, kV12 hs, fU12 f, nU hs, nUk hs, List.length_cons, k.2.1, k1.2.1, e1, e5, g1, dv, z1, z2, dc, rm, su, nI_add, v4, cl4, gd, f1, qa, c1, bt, bI_f, vj, clj, Option.isSome_none, pCX9_isWay, pSX9_isWay, pOX9_isWay, pLX9_isWay, pCX9_agreeing, pSX9_agreeing, pOX9_agreeing, pLX9_agreeing, pCX9_bit, pSX9_bit, pOX9_bit, pLX9_bit, kl_I, kl_J, kl_R, kl_T, kl_N, Nat.le_refl, Nat.zero_le, List.map_nil, List.map_cons, List.sum_nil, List.sum_cons, c_I, c_J, c_R, c_T, va_rf, hI_wI, hJ_wJ, hR_wR, hI_J, hI_R, hJ_I, hJ_R, hR_I, hR_J, hN_I, hN_J, hN_R, wI_I, wJ_J, upd_at, updL_at, kR_s, Option.toList, List.append_nil, List.nil_append, List.cons_append, if_true, if_false, reduceIte, Bool.false_eq_true, not_true_eq_false, not_false_eq_true, true_and, and_true, false_and, and_false, true_or, or_true,  Nat.reduceEqDiff, Nat.reduceAdd, Nat.reduceLeDiff]
/-- a code's way -/
theorem c_isWay {d : Nat} {h : qH} {s C : Nat} {a : aS} {x : sT} (k : mK h s a) (v : vF (hI h 46) a x) (hn : 0 < aN a) (t1 : x.1 < 2 ^ aN a) (t5 : x.2.1 < 64) (t3 : x.2.2 ≤ 90) (hC : C < 2 ^ 31) : ∃ h', (∀ Q, WM (d + 5) mX9_isWay [.ref (44 : Nat), .int (nI C)] h Q = Q (some (some (.int (bI (wyX a x C).isSome)))) h') ∧ sx [47, 50, 51, 52] h h' ∧ ∀ p, wyX a x C = some p → (∀ i, i < (glL a x.2.2).length → hI h' 52 i = oI (p.2.getD i none)) ∧ atR h' a (dayN a p.1) := by
  have ww := k.2.2.1.2.2.1
  obtain ⟨h1, e1, x1, u1, a1⟩ := c_finds (d := d + 1) k v
  have k1 := mK_sx k x1 (by decide)
  have ll : (glL a x.2.2).length ≤ aGl a := by rw [glL_len]; omega
  obtain ⟨h', e2, x2, -, p2⟩ := l_isWay (d := d) (C := C) (w := x.2.1) (yy := x.2.2) (y0 := (glL a x.2.2).length) hn t5 hC (glL a x.2.2) 0 x.1 h1 none none none (by omega) ll (fun i hi => by
    rw [glL_at hi]
    rw [glL_len]
    congr 1
    have := fr_le (a := a) (y := x.2.2)
    omega) k1 t1 u1 a1
  refine ⟨h', fun Q => ?_, sx_trans (sx_mono x1 (by simp)) x2, fun p hp => ?_⟩
  · have e2 := e2 Q
    have gt := c_gtc (d := d + 4) k v t3
    have co := c_codes (d := d + 3) k v t3
    simp (implicitDefEqProofs := false) only [eX9_isWay, rX9_isWay_0, rX9_isWay_0b, rX9_isWay_1, rX9_isWay_4, rX9_isWay_5, rX9_isWay_5b, rX9_isWay_6, rX9_isWay_9, rX9_isWay_10, rX9_isWay_10b, rX9_isWay_11, rX9_isWay_14, rX9_isWay_15, kA_44, kB_44, gt, co, e1, pCX9_isWay, pSX9_isWay, pOX9_isWay, pLX9_isWay, pCX9_glassesToCome, pSX9_glassesToCome, pOX9_glassesToCome, pLX9_glassesToCome, pCX9_codes, pSX9_codes, pOX9_codes, pLX9_codes, pCX9_finds, pSX9_finds, pOX9_finds, pLX9_finds, kl_I, kl_J, kl_R, kl_T, kl_N, Nat.le_refl, Nat.zero_le, List.map_nil, List.map_cons, List.sum_nil, List.sum_cons, c_I, c_J, c_R, c_T, va_rf, hI_wI, hJ_wJ, hR_wR, hI_J, hI_R, hJ_I, hJ_R, hR_I, hR_J, hN_I, hN_J, hN_R, wI_I, wJ_J, upd_at, updL_at, kR_s, Option.toList, List.append_nil, List.nil_append, List.cons_append, if_true, if_false, reduceIte, Bool.false_eq_true, not_true_eq_false, not_false_eq_true, true_and, and_true, false_and, and_false, true_or, or_true,  Nat.reduceEqDiff, Nat.reduceAdd, Nat.reduceLeDiff]
    exact e2
  · obtain ⟨q1, q2⟩ := p2 p hp
    refine ⟨fun i hi => ?_, q2⟩
    have := q1 i hi
    rw [Nat.zero_add] at this
    exact this
theorem wc_le {a : aS} (w : aW a) {x : sT} : wcC a x ≤ 1296 := pwN w.1 (gl_4 w)
theorem l_mways {d : Nat} {s : Nat} {a : aS} {x : sT} (hn : 0 < aN a) (t1 : x.1 < 2 ^ aN a) (t5 : x.2.1 < 64) (t3 : x.2.2 ≤ 90) : ∀ (m c : Nat), c + m = wcC a x → ∀ (h : qH) (_ : mK h s a) (_ : vF (hI h 46) a x), ∃ h1, (∀ Q, WP (d + 6) mX9_ways (0, 0) 22 [some (.ref (44 : Nat)), some (.int (nI (wpN a x c).length)), some (.int (nI c))] [] h Q = Q (some (some (.int (nI (wpN a x (wcC a x)).length)))) (tm h1 0)) ∧ kp h h1 := by
  intro m
  induction m with
  | zero =>
    intro c hc h k v
    obtain rfl : c = wcC a x := by omega
    have co := c_codes (d := d + 4) k v t3
    refine ⟨h, fun Q => ?_, kp_refl⟩
    simp (implicitDefEqProofs := false) only [rX9_ways_22, rX9_ways_23, rX9_ways_23b, rX9_ways_24, rX9_ways_27, rX9_ways_30, rX9_ways_31, rX9_ways_31b, rX9_ways_32, rX9_ways_33, rX9_ways_36, rX9_ways_39, rX9_ways_40, rX9_ways_43, rX9_ways_44, rX9_ways_45, rX9_ways_52, rX9_ways_52b, rX9_ways_53, rX9_ways_54, rX9_ways_57, kA_44, kB_44, co, c_mgood, pCX9_ways, pSX9_ways, pOX9_ways, pLX9_ways, pCX9_codes, pSX9_codes, pOX9_codes, pLX9_codes, pCX9_good, pSX9_good, pOX9_good, pLX9_good, Int32.le_refl, kl_I, kl_J, kl_R, kl_T, kl_N, Nat.le_refl, Nat.zero_le, List.map_nil, List.map_cons, List.sum_nil, List.sum_cons, c_I, c_J, c_R, c_T, va_rf, hI_wI, hJ_wJ, hR_wR, hI_J, hI_R, hJ_I, hJ_R, hR_I, hR_J, hN_I, hN_J, hN_R, wI_I, wJ_J, upd_at, updL_at, kR_s, Option.toList, List.append_nil, List.nil_append, List.cons_append, if_true, if_false, reduceIte, Bool.false_eq_true, not_true_eq_false, not_false_eq_true, true_and, and_true, false_and, and_false, true_or, or_true,  Nat.reduceEqDiff, Nat.reduceAdd, Nat.reduceLeDiff]
  | succ m ih =>
    intro c hc h k v
    have co := c_codes (d := d + 4) k v t3
    have le := wc_le k.2.2.1.2.2.1 (x := x)
    have g1 : ¬ nI (wcC a x) ≤ nI c := nI_ge (by omega) (by omega)
    obtain ⟨h1, e1, x1, -⟩ := c_isWay (d := d) (C := c) k v hn t1 t5 t3 (by omega)
    have k1 := mK_sx k x1 (by decide)
    obtain ⟨h2, e2, k2⟩ := ih (c + 1) (by omega) h1 k1 (by rw [x1.2.2.2 46 (by decide)]; exact v)
    refine ⟨h2, fun Q => ?_, kp_tr (kp_sx x1 (by decide)) k2⟩
    have e2 := e2 Q
    cases hw : wyX a x c with
    | none =>
      rw [hw] at e1
      rw [wp_none hw] at e2
      simp (implicitDefEqProofs := false) only [rX9_ways_22, rX9_ways_23, rX9_ways_23b, rX9_ways_24, rX9_ways_27, rX9_ways_30, rX9_ways_31, rX9_ways_31b, rX9_ways_32, rX9_ways_33, rX9_ways_36, rX9_ways_39, rX9_ways_40, rX9_ways_43, rX9_ways_44, rX9_ways_45, kA_44, kB_44, co, g1, e1, Option.isSome_none, bI_f, show (0 : Int32) = nI 0 from rfl, nI_add, pCX9_ways, pSX9_ways, pOX9_ways, pLX9_ways, pCX9_codes, pSX9_codes, pOX9_codes, pLX9_codes, pCX9_isWay, pSX9_isWay, pOX9_isWay, pLX9_isWay, kl_I, kl_J, kl_R, kl_T, kl_N, Nat.le_refl, Nat.zero_le, List.map_nil, List.map_cons, List.sum_nil, List.sum_cons, c_I, c_J, c_R, c_T, va_rf, hI_wI, hJ_wJ, hR_wR, hI_J, hI_R, hJ_I, hJ_R, hR_I, hR_J, hN_I, hN_J, hN_R, wI_I, wJ_J, upd_at, updL_at, kR_s, Option.toList, List.append_nil, List.nil_append, List.cons_append, if_true, if_false, reduceIte, Bool.false_eq_true, not_true_eq_false, not_false_eq_true, true_and, and_true, false_and, and_false, true_or, or_true,  Nat.reduceEqDiff, Nat.reduceAdd, Nat.reduceLeDiff]
      rw [rX9_ways_46, nI_1]
      simp (implicitDefEqProofs := false) only [rX9_ways_49, kl_I, kl_J, kl_R, kl_T, kl_N, Nat.le_refl, Nat.zero_le, List.map_nil, List.map_cons, List.sum_nil, List.sum_cons, c_I, c_J, c_R, c_T, va_rf, hI_wI, hJ_wJ, hR_wR, hI_J, hI_R, hJ_I, hJ_R, hR_I, hR_J, hN_I, hN_J, hN_R, wI_I, wJ_J, upd_at, updL_at, kR_s, Option.toList, List.append_nil, List.nil_append, List.cons_append, if_true, if_false, reduceIte, Bool.false_eq_true, not_true_eq_false, not_false_eq_true, true_and, and_true, false_and, and_false, true_or, or_true,  Nat.reduceEqDiff, Nat.reduceAdd, Nat.reduceLeDiff]
      exact e2
    | some p =>
      rw [hw] at e1
      rw [wp_some hw, List.length_append, List.length_singleton] at e2
      simp (implicitDefEqProofs := false) only [rX9_ways_22, rX9_ways_23, rX9_ways_23b, rX9_ways_24, rX9_ways_27, rX9_ways_30, rX9_ways_31, rX9_ways_31b, rX9_ways_32, rX9_ways_33, rX9_ways_36, rX9_ways_39, rX9_ways_40, rX9_ways_43, rX9_ways_44, rX9_ways_45, kA_44, kB_44, co, g1, e1, Option.isSome_some, bI_t, show ¬ (1 : Int32) = 0 from by decide, nI_1, pCX9_ways, pSX9_ways, pOX9_ways, pLX9_ways, pCX9_codes, pSX9_codes, pOX9_codes, pLX9_codes, pCX9_isWay, pSX9_isWay, pOX9_isWay, pLX9_isWay, kl_I, kl_J, kl_R, kl_T, kl_N, Nat.le_refl, Nat.zero_le, List.map_nil, List.map_cons, List.sum_nil, List.sum_cons, c_I, c_J, c_R, c_T, va_rf, hI_wI, hJ_wJ, hR_wR, hI_J, hI_R, hJ_I, hJ_R, hR_I, hR_J, hN_I, hN_J, hN_R, wI_I, wJ_J, upd_at, updL_at, kR_s, Option.toList, List.append_nil, List.nil_append, List.cons_append, if_true, if_false, reduceIte, Bool.false_eq_true, not_true_eq_false, not_false_eq_true, true_and, and_true, false_and, and_false, true_or, or_true,  Nat.reduceEqDiff, Nat.reduceAdd, Nat.reduceLeDiff]
      rw [rX9_ways_46, nI_1]
      simp (implicitDefEqProofs := false) only [rX9_ways_49, kl_I, kl_J, kl_R, kl_T, kl_N, Nat.le_refl, Nat.zero_le, List.map_nil, List.map_cons, List.sum_nil, List.sum_cons, c_I, c_J, c_R, c_T, va_rf, hI_wI, hJ_wJ, hR_wR, hI_J, hI_R, hJ_I, hJ_R, hR_I, hR_J, hN_I, hN_J, hN_R, wI_I, wJ_J, upd_at, updL_at, kR_s, Option.toList, List.append_nil, List.nil_append, List.cons_append, if_true, if_false, reduceIte, Bool.false_eq_true, not_true_eq_false, not_false_eq_true, true_and, and_true, false_and, and_false, true_or, or_true,  Nat.reduceEqDiff, Nat.reduceAdd, Nat.reduceLeDiff]
      exact e2
theorem gW_n {a : aS} (h6 : aN a ≤ 6) (hn : 0 < aN a) {x : sT} : gW a x = (wpN a x (wcC a x)).map (fun p => (p.1, enc p.2)) := by rw [gW_L h6, wp_all hn]
theorem m_ways {d : Nat} {h : qH} {S : AS} (I : MI h S) : ms 0 (d + 10) mX9_ways [.ref (44 : Nat)] h (trS S (sWays S).1) (some (.int (sWays S).2)) := by
  have E : ∀ Q, WM (d + 10) mX9_ways [.ref (44 : Nat)] h Q = WP (d + 10) mX9_ways (0, 0) 5 [some (.ref (44 : Nat)), none, none] [] (th h) Q := fun Q => by simp (implicitDefEqProofs := false) only [eX9_ways, rX9_ways_0, rX9_ways_0b, rX9_ways_1, rX9_ways_2, kA_44, kB_44, pCX9_ways, pSX9_ways, pOX9_ways, pLX9_ways, th, kl_I, kl_J, kl_R, kl_T, kl_N, Nat.le_refl, Nat.zero_le, List.map_nil, List.map_cons, List.sum_nil, List.sum_cons, c_I, c_J, c_R, c_T, va_rf, hI_wI, hJ_wJ, hR_wR, hI_J, hI_R, hJ_I, hJ_R, hR_I, hR_J, hN_I, hN_J, hN_R, wI_I, wJ_J, upd_at, updL_at, kR_s, Option.toList, List.append_nil, List.nil_append, List.cons_append, if_true, if_false, reduceIte, Bool.false_eq_true, not_true_eq_false, not_false_eq_true, true_and, and_true, false_and, and_false, true_or, or_true,  Nat.reduceEqDiff, Nat.reduceAdd, Nat.reduceLeDiff]
  rw [sWays]
  by_cases c1 : aN (sA S) = 0
  · rw [if_pos c1]
    refine ms_of (v := 1) I (by decide) E ?_
    obtain ⟨F, r⟩ := MI_n (MI_th I) c1
    generalize th h = g at F r ⊢
    exact ⟨g, fun Q => by simp (implicitDefEqProofs := false) only [rX9_ways_5, rX9_ways_5b, rX9_ways_6, rX9_ways_9, rX9_ways_9b, rX9_ways_12, rX9_ways_12b, rX9_ways_13, rX9_ways_14, rX9_ways_17, kA_44, kB_44, r, c_mrefused, show nI 1 = 1 from rfl, pCX9_ways, pSX9_ways, pOX9_ways, pLX9_ways, pCX9_refused, pSX9_refused, pOX9_refused, pLX9_refused, kl_I, kl_J, kl_R, kl_T, kl_N, Nat.le_refl, Nat.zero_le, List.map_nil, List.map_cons, List.sum_nil, List.sum_cons, c_I, c_J, c_R, c_T, va_rf, hI_wI, hJ_wJ, hR_wR, hI_J, hI_R, hJ_I, hJ_R, hR_I, hR_J, hN_I, hN_J, hN_R, wI_I, wJ_J, upd_at, updL_at, kR_s, Option.toList, List.append_nil, List.nil_append, List.cons_append, if_true, if_false, reduceIte, Bool.false_eq_true, not_true_eq_false, not_false_eq_true, true_and, and_true, false_and, and_false, true_or, or_true,  Nat.reduceEqDiff, Nat.reduceAdd, Nat.reduceLeDiff], kp_refl⟩
  · rw [if_neg c1]
    refine ms_of (v := 0) I (by decide) E ?_
    have I1 := MI_th I
    obtain ⟨s, k, v, t1, t2, t3, t4, t5, ww⟩ := MI_y I1 c1
    generalize th h = g at k v ⊢
    clear E I I1
    have h6 := ww.1
    have F := k.1
    have hs := k.2.2.1.1
    have f := k.2.2.1.2.1
    have hn : 0 < aN (sA S) := by omega
    obtain ⟨h2, e2, k2⟩ := l_mways (d := d + 4) (x := sX S) hn t1 t5 t3 (wcC (sA S) (sX S)) 0 (by omega) g k v
    refine ⟨h2, fun Q => ?_, k2⟩
    have e2 := e2 Q
    rw [gW_n h6 hn, List.length_map]
    simp (implicitDefEqProofs := false) only [rX9_ways_5, rX9_ways_5b, rX9_ways_6, rX9_ways_9, rX9_ways_9b, rX9_ways_12, rX9_ways_12b, rX9_ways_13, rX9_ways_14, rX9_ways_17, rX9_ways_18, rX9_ways_19, rX9_ways_20, rX9_ways_21, kA_44, kB_44, k.2.1, pCX9_ways, pSX9_ways, pOX9_ways, pLX9_ways, kl_I, kl_J, kl_R, kl_T, kl_N, Nat.le_refl, Nat.zero_le, List.map_nil, List.map_cons, List.sum_nil, List.sum_cons, c_I, c_J, c_R, c_T, va_rf, hI_wI, hJ_wJ, hR_wR, hI_J, hI_R, hJ_I, hJ_R, hR_I, hR_J, hN_I, hN_J, hN_R, wI_I, wJ_J, upd_at, updL_at, kR_s, Option.toList, List.append_nil, List.nil_append, List.cons_append, if_true, if_false, reduceIte, Bool.false_eq_true, not_true_eq_false, not_false_eq_true, true_and, and_true, false_and, and_false, true_or, or_true,  Nat.reduceEqDiff, Nat.reduceAdd, Nat.reduceLeDiff]
    exact e2
/-- the i-th way: what its search leaves -/
def wkP (h : qH) (a : aS) (x : sT) (i : Nat) : Prop := (∀ j, j < (glL a x.2.2).length → hI h 52 j = oI (rgN ((gW a x).getD i (0, 0)) j)) ∧ atR h a (dayN a ((gW a x).getD i (0, 0)).1)
theorem wk_of {h : qH} {a : aS} {x : sT} {c : Nat} {p : wYr} (w : aW a) (hn : 0 < aN a) (t1 : x.1 < 2 ^ aN a) (hc : c < wcC a x) (hp : wyX a x c = some p) (q : (∀ i, i < (glL a x.2.2).length → hI h 52 i = oI (p.2.getD i none)) ∧ atR h a (dayN a p.1)) : wkP h a x (wpN a x c).length := by
  have e : (gW a x).getD (wpN a x c).length (0, 0) = (p.1, enc p.2) := by
    rw [gW_n w.1 hn]
    have lt := wp_lt hc hp
    have g := wp_get (q := (0, [])) hc hp
    rw [List.getD_eq_getElem?_getD, List.getElem?_map]
    rw [List.getD_eq_getElem?_getD, List.getElem?_eq_getElem lt, Option.getD_some] at g
    rw [List.getElem?_eq_getElem lt, Option.map_some, Option.getD_some, g]
  obtain ⟨o1, o2, o3⟩ := wy_ok hn _ _ _ p hp t1
  have h6 := w.1
  refine ⟨fun j hj => ?_, ?_⟩
  · rw [e, rg_enc p.2 j (fun z hz => by have := o3 z hz; omega)]
    exact q.1 j hj
  · rw [e]; exact q.2
theorem l_isWorked {d : Nat} {s : Nat} {a : aS} {x : sT} {y : Int32} (hy : ¬ y < 0) (hn : 0 < aN a) (t1 : x.1 < 2 ^ aN a) (t5 : x.2.1 < 64) (t3 : x.2.2 ≤ 90) : ∀ (m c : Nat), c + m = wcC a x → ∀ (h : qH) (_ : mK h s a) (_ : vF (hI h 46) a x) (_ : ∀ i, i < (wpN a x c).length → ¬ y = nI i), ∃ h1, sx [47, 50, 51, 52] h h1 ∧ (((∀ Q, WP (d + 6) mX9_isWorked (0, 0) 4 [some (.ref (44 : Nat)), some (.int y), some (.int (nI (wpN a x c).length)), some (.int (nI c))] [] h Q = Q (some (some (.int 0))) h1) ∧ ∀ i, i < (gW a x).length → ¬ y = nI i) ∨ ((∀ Q, WP (d + 6) mX9_isWorked (0, 0) 4 [some (.ref (44 : Nat)), some (.int y), some (.int (nI (wpN a x c).length)), some (.int (nI c))] [] h Q = Q (some (some (.int 1))) h1) ∧ ∃ i, i < (gW a x).length ∧ y = nI i ∧ wkP h1 a x i)) := by
  intro m
  induction m with
  | zero =>
    intro c hc h k v hne
    obtain rfl : c = wcC a x := by omega
    have co := c_codes (d := d + 4) k v t3
    refine ⟨h, sx_refl, .inl ⟨fun Q => ?_, fun i hi => hne i (by rw [gW_n k.2.2.1.2.2.1.1 hn, List.length_map] at hi; exact hi)⟩⟩
    simp (implicitDefEqProofs := false) only [rX9_isWorked_4, rX9_isWorked_5, rX9_isWorked_5b, rX9_isWorked_6, rX9_isWorked_9, rX9_isWorked_12, rX9_isWorked_13, rX9_isWorked_43, rX9_isWorked_44, kA_44, kB_44, co, pCX9_isWorked, pSX9_isWorked, pOX9_isWorked, pLX9_isWorked, pCX9_codes, pSX9_codes, pOX9_codes, pLX9_codes, Int32.le_refl, kl_I, kl_J, kl_R, kl_T, kl_N, Nat.le_refl, Nat.zero_le, List.map_nil, List.map_cons, List.sum_nil, List.sum_cons, c_I, c_J, c_R, c_T, va_rf, hI_wI, hJ_wJ, hR_wR, hI_J, hI_R, hJ_I, hJ_R, hR_I, hR_J, hN_I, hN_J, hN_R, wI_I, wJ_J, upd_at, updL_at, kR_s, Option.toList, List.append_nil, List.nil_append, List.cons_append, if_true, if_false, reduceIte, Bool.false_eq_true, not_true_eq_false, not_false_eq_true, true_and, and_true, false_and, and_false, true_or, or_true,  Nat.reduceEqDiff, Nat.reduceAdd, Nat.reduceLeDiff]
  | succ m ih =>
    intro c hc h k v hne
    have ww := k.2.2.1.2.2.1
    have co := c_codes (d := d + 4) k v t3
    have le := wc_le ww (x := x)
    have g1 : ¬ nI (wcC a x) ≤ nI c := nI_ge (by omega) (by omega)
    obtain ⟨h1, e1, x1, p1⟩ := c_isWay (d := d) (C := c) k v hn t1 t5 t3 (by omega)
    have k1 := mK_sx k x1 (by decide)
    have v1 : vF (hI h1 46) a x := by rw [x1.2.2.2 46 (by decide)]; exact v
    cases hw : wyX a x c with
    | none =>
      rw [hw] at e1
      have nx := ih (c + 1) (by omega) h1 k1 v1 (by rw [wp_none hw]; exact hne)
      rw [wp_none hw] at nx
      obtain ⟨h2, x2, o⟩ := nx
      have st : ∀ Q X, WP (d + 6) mX9_isWorked (0, 0) 4 [some (.ref (44 : Nat)), some (.int y), some (.int (nI (wpN a x c).length)), some (.int (nI (c + 1)))] [] h1 Q = X → WP (d + 6) mX9_isWorked (0, 0) 4 [some (.ref (44 : Nat)), some (.int y), some (.int (nI (wpN a x c).length)), some (.int (nI c))] [] h Q = X := fun Q X hX => by
        simp (implicitDefEqProofs := false) only [rX9_isWorked_4, rX9_isWorked_5, rX9_isWorked_5b, rX9_isWorked_6, rX9_isWorked_9, rX9_isWorked_12, rX9_isWorked_13, rX9_isWorked_16, rX9_isWorked_16b, rX9_isWorked_17, rX9_isWorked_18, rX9_isWorked_21, rX9_isWorked_24, kA_44, kB_44, co, g1, hy, e1, Option.isSome_none, bI_f, pCX9_isWorked, pSX9_isWorked, pOX9_isWorked, pLX9_isWorked, pCX9_codes, pSX9_codes, pOX9_codes, pLX9_codes, pCX9_isWay, pSX9_isWay, pOX9_isWay, pLX9_isWay, kl_I, kl_J, kl_R, kl_T, kl_N, Nat.le_refl, Nat.zero_le, List.map_nil, List.map_cons, List.sum_nil, List.sum_cons, c_I, c_J, c_R, c_T, va_rf, hI_wI, hJ_wJ, hR_wR, hI_J, hI_R, hJ_I, hJ_R, hR_I, hR_J, hN_I, hN_J, hN_R, wI_I, wJ_J, upd_at, updL_at, kR_s, Option.toList, List.append_nil, List.nil_append, List.cons_append, if_true, if_false, reduceIte, Bool.false_eq_true, not_true_eq_false, not_false_eq_true, true_and, and_true, false_and, and_false, true_or, or_true,  Nat.reduceEqDiff, Nat.reduceAdd, Nat.reduceLeDiff]
        rw [rX9_isWorked_37, nI_1]
        simp (implicitDefEqProofs := false) only [rX9_isWorked_40, kl_I, kl_J, kl_R, kl_T, kl_N, Nat.le_refl, Nat.zero_le, List.map_nil, List.map_cons, List.sum_nil, List.sum_cons, c_I, c_J, c_R, c_T, va_rf, hI_wI, hJ_wJ, hR_wR, hI_J, hI_R, hJ_I, hJ_R, hR_I, hR_J, hN_I, hN_J, hN_R, wI_I, wJ_J, upd_at, updL_at, kR_s, Option.toList, List.append_nil, List.nil_append, List.cons_append, if_true, if_false, reduceIte, Bool.false_eq_true, not_true_eq_false, not_false_eq_true, true_and, and_true, false_and, and_false, true_or, or_true,  Nat.reduceEqDiff, Nat.reduceAdd, Nat.reduceLeDiff]
        exact hX
      refine ⟨h2, sx_trans x1 x2, ?_⟩
      rcases o with ⟨o1, o2⟩ | ⟨o1, o2⟩
      · exact .inl ⟨fun Q => st Q _ (o1 Q), o2⟩
      · exact .inr ⟨fun Q => st Q _ (o1 Q), o2⟩
    | some p =>
      rw [hw] at e1
      by_cases c2 : nI (wpN a x c).length = y
      · refine ⟨h1, x1, .inr ⟨fun Q => ?_, (wpN a x c).length, ?_, c2.symm, wk_of ww hn t1 (by omega) hw (p1 p hw)⟩⟩
        · simp (implicitDefEqProofs := false) only [rX9_isWorked_4, rX9_isWorked_5, rX9_isWorked_5b, rX9_isWorked_6, rX9_isWorked_9, rX9_isWorked_12, rX9_isWorked_13, rX9_isWorked_16, rX9_isWorked_16b, rX9_isWorked_17, rX9_isWorked_18, rX9_isWorked_21, rX9_isWorked_24, rX9_isWorked_27, rX9_isWorked_28, rX9_isWorked_29, rX9_isWorked_32, rX9_isWorked_33, kA_44, kB_44, co, g1, hy, e1, Option.isSome_some, bI_t, show ¬ (1 : Int32) = 0 from by decide, c2, pCX9_isWorked, pSX9_isWorked, pOX9_isWorked, pLX9_isWorked, pCX9_codes, pSX9_codes, pOX9_codes, pLX9_codes, pCX9_isWay, pSX9_isWay, pOX9_isWay, pLX9_isWay, kl_I, kl_J, kl_R, kl_T, kl_N, Nat.le_refl, Nat.zero_le, List.map_nil, List.map_cons, List.sum_nil, List.sum_cons, c_I, c_J, c_R, c_T, va_rf, hI_wI, hJ_wJ, hR_wR, hI_J, hI_R, hJ_I, hJ_R, hR_I, hR_J, hN_I, hN_J, hN_R, wI_I, wJ_J, upd_at, updL_at, kR_s, Option.toList, List.append_nil, List.nil_append, List.cons_append, if_true, if_false, reduceIte, Bool.false_eq_true, not_true_eq_false, not_false_eq_true, true_and, and_true, false_and, and_false, true_or, or_true,  Nat.reduceEqDiff, Nat.reduceAdd, Nat.reduceLeDiff]
        · rw [gW_n ww.1 hn, List.length_map]
          exact wp_lt (by omega) hw
      · have nx := ih (c + 1) (by omega) h1 k1 v1 (by
          rw [wp_some hw, List.length_append, List.length_singleton]
          intro i hi
          by_cases ei : i = (wpN a x c).length
          · rw [ei]; exact fun q => c2 q.symm
          · exact hne i (by omega))
        rw [wp_some hw, List.length_append, List.length_singleton] at nx
        obtain ⟨h2, x2, o⟩ := nx
        have st : ∀ Q X, WP (d + 6) mX9_isWorked (0, 0) 4 [some (.ref (44 : Nat)), some (.int y), some (.int (nI ((wpN a x c).length + 1))), some (.int (nI (c + 1)))] [] h1 Q = X → WP (d + 6) mX9_isWorked (0, 0) 4 [some (.ref (44 : Nat)), some (.int y), some (.int (nI (wpN a x c).length)), some (.int (nI c))] [] h Q = X := fun Q X hX => by
          simp (implicitDefEqProofs := false) only [rX9_isWorked_4, rX9_isWorked_5, rX9_isWorked_5b, rX9_isWorked_6, rX9_isWorked_9, rX9_isWorked_12, rX9_isWorked_13, rX9_isWorked_16, rX9_isWorked_16b, rX9_isWorked_17, rX9_isWorked_18, rX9_isWorked_21, rX9_isWorked_24, rX9_isWorked_27, rX9_isWorked_28, rX9_isWorked_29, kA_44, kB_44, co, g1, hy, e1, Option.isSome_some, bI_t, show ¬ (1 : Int32) = 0 from by decide, c2, pCX9_isWorked, pSX9_isWorked, pOX9_isWorked, pLX9_isWorked, pCX9_codes, pSX9_codes, pOX9_codes, pLX9_codes, pCX9_isWay, pSX9_isWay, pOX9_isWay, pLX9_isWay, kl_I, kl_J, kl_R, kl_T, kl_N, Nat.le_refl, Nat.zero_le, List.map_nil, List.map_cons, List.sum_nil, List.sum_cons, c_I, c_J, c_R, c_T, va_rf, hI_wI, hJ_wJ, hR_wR, hI_J, hI_R, hJ_I, hJ_R, hR_I, hR_J, hN_I, hN_J, hN_R, wI_I, wJ_J, upd_at, updL_at, kR_s, Option.toList, List.append_nil, List.nil_append, List.cons_append, if_true, if_false, reduceIte, Bool.false_eq_true, not_true_eq_false, not_false_eq_true, true_and, and_true, false_and, and_false, true_or, or_true,  Nat.reduceEqDiff, Nat.reduceAdd, Nat.reduceLeDiff]
          rw [rX9_isWorked_34, nI_1]
          simp (implicitDefEqProofs := false) only [kl_I, kl_J, kl_R, kl_T, kl_N, Nat.le_refl, Nat.zero_le, List.map_nil, List.map_cons, List.sum_nil, List.sum_cons, c_I, c_J, c_R, c_T, va_rf, hI_wI, hJ_wJ, hR_wR, hI_J, hI_R, hJ_I, hJ_R, hR_I, hR_J, hN_I, hN_J, hN_R, wI_I, wJ_J, upd_at, updL_at, kR_s, Option.toList, List.append_nil, List.nil_append, List.cons_append, if_true, if_false, reduceIte, Bool.false_eq_true, not_true_eq_false, not_false_eq_true, true_and, and_true, false_and, and_false, true_or, or_true,  Nat.reduceEqDiff, Nat.reduceAdd, Nat.reduceLeDiff]
          rw [rX9_isWorked_37, nI_1]
          simp (implicitDefEqProofs := false) only [rX9_isWorked_40, kl_I, kl_J, kl_R, kl_T, kl_N, Nat.le_refl, Nat.zero_le, List.map_nil, List.map_cons, List.sum_nil, List.sum_cons, c_I, c_J, c_R, c_T, va_rf, hI_wI, hJ_wJ, hR_wR, hI_J, hI_R, hJ_I, hJ_R, hR_I, hR_J, hN_I, hN_J, hN_R, wI_I, wJ_J, upd_at, updL_at, kR_s, Option.toList, List.append_nil, List.nil_append, List.cons_append, if_true, if_false, reduceIte, Bool.false_eq_true, not_true_eq_false, not_false_eq_true, true_and, and_true, false_and, and_false, true_or, or_true,  Nat.reduceEqDiff, Nat.reduceAdd, Nat.reduceLeDiff]
          exact hX
        refine ⟨h2, sx_trans x1 x2, ?_⟩
        rcases o with ⟨o1, o2⟩ | ⟨o1, o2⟩
        · exact .inl ⟨fun Q => st Q _ (o1 Q), o2⟩
        · exact .inr ⟨fun Q => st Q _ (o1 Q), o2⟩
theorem c_isWorked {d : Nat} {h : qH} {s : Nat} {a : aS} {x : sT} {y : Int32} (k : mK h s a) (v : vF (hI h 46) a x) (hn : 0 < aN a) (t1 : x.1 < 2 ^ aN a) (t5 : x.2.1 < 64) (t3 : x.2.2 ≤ 90) : ∃ h1, sx [47, 50, 51, 52] h h1 ∧ (∀ Q, WM (d + 6) mX9_isWorked [.ref (44 : Nat), .int y] h Q = Q (some (some (.int (bI (decide (¬ ix y (gW a x).length = none)))))) h1) ∧ ∀ i, ix y (gW a x).length = some i → wkP h1 a x i := by
  have ww := k.2.2.1.2.2.1
  have gl := gW_len ww (x := x)
  by_cases hy : y < 0
  · have e : ix y (gW a x).length = none := by unfold ix; rw [if_pos (.inl hy)]
    rw [e]
    have co := c_codes (d := d + 4) k v t3
    have le := wc_le ww (x := x)
    have lp : 0 < wcC a x := Nat.pow_pos hn
    have g1 : ¬ nI (wcC a x) ≤ 0 := by rw [← nI_0]; exact nI_ge lp (by omega)
    refine ⟨h, sx_refl, fun Q => ?_, fun i hi => by cases hi⟩
    simp (implicitDefEqProofs := false) only [eX9_isWorked, rX9_isWorked_0, rX9_isWorked_1, rX9_isWorked_2, rX9_isWorked_3, rX9_isWorked_4, rX9_isWorked_5, rX9_isWorked_5b, rX9_isWorked_6, rX9_isWorked_9, rX9_isWorked_12, rX9_isWorked_13, rX9_isWorked_43, rX9_isWorked_44, kA_44, kB_44, co, g1, hy, not_true_eq_false, decide_false, bI_f, pCX9_isWorked, pSX9_isWorked, pOX9_isWorked, pLX9_isWorked, pCX9_codes, pSX9_codes, pOX9_codes, pLX9_codes, kl_I, kl_J, kl_R, kl_T, kl_N, Nat.le_refl, Nat.zero_le, List.map_nil, List.map_cons, List.sum_nil, List.sum_cons, c_I, c_J, c_R, c_T, va_rf, hI_wI, hJ_wJ, hR_wR, hI_J, hI_R, hJ_I, hJ_R, hR_I, hR_J, hN_I, hN_J, hN_R, wI_I, wJ_J, upd_at, updL_at, kR_s, Option.toList, List.append_nil, List.nil_append, List.cons_append, if_true, if_false, reduceIte, Bool.false_eq_true, not_true_eq_false, not_false_eq_true, true_and, and_true, false_and, and_false, true_or, or_true,  Nat.reduceEqDiff, Nat.reduceAdd, Nat.reduceLeDiff]
  · obtain ⟨h1, x1, o⟩ := l_isWorked (d := d) (y := y) hy hn t1 t5 t3 (wcC a x) 0 (by omega) h k v (fun i hi => by simp [wpN] at hi)
    have st : ∀ Q, WM (d + 6) mX9_isWorked [.ref (44 : Nat), .int y] h Q = WP (d + 6) mX9_isWorked (0, 0) 4 [some (.ref (44 : Nat)), some (.int y), some (.int (nI (wpN a x 0).length)), some (.int (nI 0))] [] h Q := fun Q => by
      simp (implicitDefEqProofs := false) only [eX9_isWorked, rX9_isWorked_0, rX9_isWorked_1, rX9_isWorked_2, rX9_isWorked_3, kl_I, kl_J, kl_R, kl_T, kl_N, Nat.le_refl, Nat.zero_le, List.map_nil, List.map_cons, List.sum_nil, List.sum_cons, c_I, c_J, c_R, c_T, va_rf, hI_wI, hJ_wJ, hR_wR, hI_J, hI_R, hJ_I, hJ_R, hR_I, hR_J, hN_I, hN_J, hN_R, wI_I, wJ_J, upd_at, updL_at, kR_s, Option.toList, List.append_nil, List.nil_append, List.cons_append, if_true, if_false, reduceIte, Bool.false_eq_true, not_true_eq_false, not_false_eq_true, true_and, and_true, false_and, and_false, true_or, or_true,  Nat.reduceEqDiff, Nat.reduceAdd, Nat.reduceLeDiff]
      rfl
    refine ⟨h1, x1, ?_⟩
    rcases o with ⟨o1, o2⟩ | ⟨o1, i, hi, rfl, o2⟩
    · cases hx : ix y (gW a x).length with
      | none =>
        refine ⟨fun Q => ?_, fun i hi => by cases hi⟩
        rw [st, o1]
        simp (implicitDefEqProofs := false) only [not_true_eq_false, decide_false, bI_f]
      | some j =>
        obtain ⟨e, hj⟩ := ix_s (by omega) hx
        exact absurd e (o2 j hj)
    · rw [ix_i (by omega) hi]
      refine ⟨fun Q => ?_, fun j hj => by cases hj; exact o2⟩
      rw [st, o1]
      simp (implicitDefEqProofs := false) only [reduceCtorEq, not_false_eq_true, decide_true, bI_t]
theorem m_wayBurnt {d : Nat} {h : qH} {S : AS} {y : Int32} (I : MI h S) : ms 0 (d + 10) mX9_wayBurnt [.ref (44 : Nat), .int y] h (trS S (sWayBurnt S y).1) (some (.int (sWayBurnt S y).2)) := by
  have E : ∀ Q, WM (d + 10) mX9_wayBurnt [.ref (44 : Nat), .int y] h Q = WP (d + 10) mX9_wayBurnt (0, 0) 5 [some (.ref (44 : Nat)), some (.int y)] [] (th h) Q := fun Q => by simp (implicitDefEqProofs := false) only [eX9_wayBurnt, rX9_wayBurnt_0, rX9_wayBurnt_0b, rX9_wayBurnt_1, rX9_wayBurnt_2, kA_44, kB_44, pCX9_wayBurnt, pSX9_wayBurnt, pOX9_wayBurnt, pLX9_wayBurnt, th, kl_I, kl_J, kl_R, kl_T, kl_N, Nat.le_refl, Nat.zero_le, List.map_nil, List.map_cons, List.sum_nil, List.sum_cons, c_I, c_J, c_R, c_T, va_rf, hI_wI, hJ_wJ, hR_wR, hI_J, hI_R, hJ_I, hJ_R, hR_I, hR_J, hN_I, hN_J, hN_R, wI_I, wJ_J, upd_at, updL_at, kR_s, Option.toList, List.append_nil, List.nil_append, List.cons_append, if_true, if_false, reduceIte, Bool.false_eq_true, not_true_eq_false, not_false_eq_true, true_and, and_true, false_and, and_false, true_or, or_true,  Nat.reduceEqDiff, Nat.reduceAdd, Nat.reduceLeDiff]
  rw [sWayBurnt]
  by_cases c1 : aN (sA S) = 0
  · rw [if_pos c1]
    refine ms_of (v := 1) I (by decide) E ?_
    obtain ⟨F, r⟩ := MI_n (MI_th I) c1
    generalize th h = g at F r ⊢
    exact ⟨g, fun Q => by simp (implicitDefEqProofs := false) only [rX9_wayBurnt_5, rX9_wayBurnt_5b, rX9_wayBurnt_6, rX9_wayBurnt_9, rX9_wayBurnt_9b, rX9_wayBurnt_12, rX9_wayBurnt_12b, rX9_wayBurnt_13, rX9_wayBurnt_14, rX9_wayBurnt_17, rX9_wayBurnt_20, rX9_wayBurnt_20b, rX9_wayBurnt_21, rX9_wayBurnt_22, rX9_wayBurnt_25, kA_44, kB_44, r, c_mrefused, show nI 1 = 1 from rfl, pCX9_wayBurnt, pSX9_wayBurnt, pOX9_wayBurnt, pLX9_wayBurnt, pCX9_refused, pSX9_refused, pOX9_refused, pLX9_refused, kl_I, kl_J, kl_R, kl_T, kl_N, Nat.le_refl, Nat.zero_le, List.map_nil, List.map_cons, List.sum_nil, List.sum_cons, c_I, c_J, c_R, c_T, va_rf, hI_wI, hJ_wJ, hR_wR, hI_J, hI_R, hJ_I, hJ_R, hR_I, hR_J, hN_I, hN_J, hN_R, wI_I, wJ_J, upd_at, updL_at, kR_s, Option.toList, List.append_nil, List.nil_append, List.cons_append, if_true, if_false, reduceIte, Bool.false_eq_true, not_true_eq_false, not_false_eq_true, true_and, and_true, false_and, and_false, true_or, or_true,  Nat.reduceEqDiff, Nat.reduceAdd, Nat.reduceLeDiff], kp_refl⟩
  · rw [if_neg c1]
    have I1 := MI_th I
    obtain ⟨s, k, v, t1, t2, t3, t4, t5, ww⟩ := MI_y I1 c1
    have h6 := ww.1
    generalize hg : th h = g at k v E ⊢
    obtain ⟨h1, x1, e1, w1⟩ := c_isWorked (d := d + 3) (y := y) k v (by omega) t1 t5 t3
    have k1 := mK_sx k x1 (by decide)
    subst hg
    cases hx : ix y (gW (sA S) (sX S)).length with
    | none =>
      rw [hx] at e1
      refine ms_of (v := 1) I (by decide) E ?_
      generalize th h = g at k e1 x1 ⊢
      exact ⟨h1, fun Q => by simp (implicitDefEqProofs := false) only [rX9_wayBurnt_5, rX9_wayBurnt_5b, rX9_wayBurnt_6, rX9_wayBurnt_9, rX9_wayBurnt_9b, rX9_wayBurnt_12, rX9_wayBurnt_12b, rX9_wayBurnt_13, rX9_wayBurnt_14, rX9_wayBurnt_17, rX9_wayBurnt_20, rX9_wayBurnt_20b, rX9_wayBurnt_21, rX9_wayBurnt_22, rX9_wayBurnt_25, kA_44, kB_44, k.2.1, e1, not_true_eq_false, decide_false, bI_f, c_mrefused, show nI 1 = 1 from rfl, pCX9_wayBurnt, pSX9_wayBurnt, pOX9_wayBurnt, pLX9_wayBurnt, pCX9_isWorked, pSX9_isWorked, pOX9_isWorked, pLX9_isWorked, pCX9_refused, pSX9_refused, pOX9_refused, pLX9_refused, kl_I, kl_J, kl_R, kl_T, kl_N, Nat.le_refl, Nat.zero_le, List.map_nil, List.map_cons, List.sum_nil, List.sum_cons, c_I, c_J, c_R, c_T, va_rf, hI_wI, hJ_wJ, hR_wR, hI_J, hI_R, hJ_I, hJ_R, hR_I, hR_J, hN_I, hN_J, hN_R, wI_I, wJ_J, upd_at, updL_at, kR_s, Option.toList, List.append_nil, List.nil_append, List.cons_append, if_true, if_false, reduceIte, Bool.false_eq_true, not_true_eq_false, not_false_eq_true, true_and, and_true, false_and, and_false, true_or, or_true,  Nat.reduceEqDiff, Nat.reduceAdd, Nat.reduceLeDiff], kp_sx x1 (by decide)⟩
    | some i =>
      rw [hx] at e1
      obtain ⟨-, a1⟩ := w1 i hx
      refine ms_of (v := 0) I (by decide) E ?_
      generalize th h = g at k e1 x1 ⊢
      have bb := c_mbb (d := d + 9) (y := 60) k1.1 k1.2.1 k1.2.2.1 a1 (by omega)
      have bb : ∀ Q, WM (d + 9) mX9_burntBy [.ref (44 : Nat), .int (nI 60)] h1 Q = Q (some (some (.int (nI (bbN (sA S) ((gW (sA S) (sX S)).getD i (0, 0)).1 60))))) h1 := bb
      have bc := c_mbits (d := d + 9) (h := h1) (x := bbN (sA S) ((gW (sA S) (sX S)).getD i (0, 0)).1 60) (bbN_lt ww)
      exact ⟨h1, fun Q => by simp (implicitDefEqProofs := false) only [rX9_wayBurnt_5, rX9_wayBurnt_5b, rX9_wayBurnt_6, rX9_wayBurnt_9, rX9_wayBurnt_9b, rX9_wayBurnt_12, rX9_wayBurnt_12b, rX9_wayBurnt_13, rX9_wayBurnt_14, rX9_wayBurnt_17, rX9_wayBurnt_26, rX9_wayBurnt_26b, rX9_wayBurnt_27, rX9_wayBurnt_27b, rX9_wayBurnt_28, rX9_wayBurnt_30, rX9_wayBurnt_33, rX9_wayBurnt_36, rX9_wayBurnt_39, kA_44, kB_44, k.2.1, e1, reduceCtorEq, not_false_eq_true, decide_true, bI_t, show ¬ (1 : Int32) = 0 from by decide, show (60 : Int32) = nI 60 from rfl, bb, bc, wbN, c_mgood, nI_0, pCX9_wayBurnt, pSX9_wayBurnt, pOX9_wayBurnt, pLX9_wayBurnt, pCX9_isWorked, pSX9_isWorked, pOX9_isWorked, pLX9_isWorked, pCX9_burntBy, pSX9_burntBy, pOX9_burntBy, pLX9_burntBy, pCX9_bits, pSX9_bits, pOX9_bits, pLX9_bits, pCX9_good, pSX9_good, pOX9_good, pLX9_good, kl_I, kl_J, kl_R, kl_T, kl_N, Nat.le_refl, Nat.zero_le, List.map_nil, List.map_cons, List.sum_nil, List.sum_cons, c_I, c_J, c_R, c_T, va_rf, hI_wI, hJ_wJ, hR_wR, hI_J, hI_R, hJ_I, hJ_R, hR_I, hR_J, hN_I, hN_J, hN_R, wI_I, wJ_J, upd_at, updL_at, kR_s, Option.toList, List.append_nil, List.nil_append, List.cons_append, if_true, if_false, reduceIte, Bool.false_eq_true, not_true_eq_false, not_false_eq_true, true_and, and_true, false_and, and_false, true_or, or_true,  Nat.reduceEqDiff, Nat.reduceAdd, Nat.reduceLeDiff], kp_sx x1 (by decide)⟩
theorem m_wayAt {d : Nat} {h : qH} {S : AS} {y z : Int32} (I : MI h S) : ms 0 (d + 10) mX9_wayAt [.ref (44 : Nat), .int y, .int z] h (trS S (sWayAt S y z).1) (some (.int (sWayAt S y z).2)) := by
  have E : ∀ Q, WM (d + 10) mX9_wayAt [.ref (44 : Nat), .int y, .int z] h Q = WP (d + 10) mX9_wayAt (0, 0) 5 [some (.ref (44 : Nat)), some (.int y), some (.int z)] [] (th h) Q := fun Q => by simp (implicitDefEqProofs := false) only [eX9_wayAt, rX9_wayAt_0, rX9_wayAt_0b, rX9_wayAt_1, rX9_wayAt_2, kA_44, kB_44, pCX9_wayAt, pSX9_wayAt, pOX9_wayAt, pLX9_wayAt, th, kl_I, kl_J, kl_R, kl_T, kl_N, Nat.le_refl, Nat.zero_le, List.map_nil, List.map_cons, List.sum_nil, List.sum_cons, c_I, c_J, c_R, c_T, va_rf, hI_wI, hJ_wJ, hR_wR, hI_J, hI_R, hJ_I, hJ_R, hR_I, hR_J, hN_I, hN_J, hN_R, wI_I, wJ_J, upd_at, updL_at, kR_s, Option.toList, List.append_nil, List.nil_append, List.cons_append, if_true, if_false, reduceIte, Bool.false_eq_true, not_true_eq_false, not_false_eq_true, true_and, and_true, false_and, and_false, true_or, or_true,  Nat.reduceEqDiff, Nat.reduceAdd, Nat.reduceLeDiff]
  rw [sWayAt]
  by_cases c1 : aN (sA S) = 0
  · rw [if_pos c1]
    refine ms_of (v := 1) I (by decide) E ?_
    obtain ⟨F, r⟩ := MI_n (MI_th I) c1
    generalize th h = g at F r ⊢
    exact ⟨g, fun Q => by simp (implicitDefEqProofs := false) only [rX9_wayAt_5, rX9_wayAt_5b, rX9_wayAt_6, rX9_wayAt_9, rX9_wayAt_9b, rX9_wayAt_12, rX9_wayAt_13, rX9_wayAt_16, rX9_wayAt_17, rX9_wayAt_17b, rX9_wayAt_18, rX9_wayAt_21, rX9_wayAt_24, rX9_wayAt_24b, rX9_wayAt_25, rX9_wayAt_26, rX9_wayAt_29, rX9_wayAt_32, rX9_wayAt_32b, rX9_wayAt_33, rX9_wayAt_34, rX9_wayAt_37, kA_44, kB_44, r, c_mrefused, show nI 1 = 1 from rfl, pCX9_wayAt, pSX9_wayAt, pOX9_wayAt, pLX9_wayAt, pCX9_refused, pSX9_refused, pOX9_refused, pLX9_refused, kl_I, kl_J, kl_R, kl_T, kl_N, Nat.le_refl, Nat.zero_le, List.map_nil, List.map_cons, List.sum_nil, List.sum_cons, c_I, c_J, c_R, c_T, va_rf, hI_wI, hJ_wJ, hR_wR, hI_J, hI_R, hJ_I, hJ_R, hR_I, hR_J, hN_I, hN_J, hN_R, wI_I, wJ_J, upd_at, updL_at, kR_s, Option.toList, List.append_nil, List.nil_append, List.cons_append, if_true, if_false, reduceIte, Bool.false_eq_true, not_true_eq_false, not_false_eq_true, true_and, and_true, false_and, and_false, true_or, or_true,  Nat.reduceEqDiff, Nat.reduceAdd, Nat.reduceLeDiff], kp_refl⟩
  · rw [if_neg c1]
    have I1 := MI_th I
    obtain ⟨s, k, v, t1, t2, t3, t4, t5, ww⟩ := MI_y I1 c1
    have h6 := ww.1
    have l4 := gl_4 ww (y := (sX S).2.2)
    have gt := c_gtc (d := d + 9) k v t3
    cases hz : ix z (glL (sA S) (sX S).2.2).length with
    | none =>
      have key : ms 0 (d + 10) mX9_wayAt [.ref (44 : Nat), .int y, .int z] h (trS S 1) (some (.int (-1))) := by
        refine ms_of (v := 1) I (by decide) E ?_
        generalize th h = g at k gt ⊢
        by_cases c2 : z < 0
        · exact ⟨g, fun Q => by simp (implicitDefEqProofs := false) only [rX9_wayAt_5, rX9_wayAt_5b, rX9_wayAt_6, rX9_wayAt_9, rX9_wayAt_9b, rX9_wayAt_12, rX9_wayAt_13, rX9_wayAt_16, rX9_wayAt_17, rX9_wayAt_17b, rX9_wayAt_18, rX9_wayAt_21, rX9_wayAt_24, rX9_wayAt_24b, rX9_wayAt_25, rX9_wayAt_26, rX9_wayAt_29, rX9_wayAt_32, rX9_wayAt_32b, rX9_wayAt_33, rX9_wayAt_34, rX9_wayAt_37, kA_44, kB_44, k.2.1, c2, c_mrefused, show nI 1 = 1 from rfl, pCX9_wayAt, pSX9_wayAt, pOX9_wayAt, pLX9_wayAt, pCX9_refused, pSX9_refused, pOX9_refused, pLX9_refused, kl_I, kl_J, kl_R, kl_T, kl_N, Nat.le_refl, Nat.zero_le, List.map_nil, List.map_cons, List.sum_nil, List.sum_cons, c_I, c_J, c_R, c_T, va_rf, hI_wI, hJ_wJ, hR_wR, hI_J, hI_R, hJ_I, hJ_R, hR_I, hR_J, hN_I, hN_J, hN_R, wI_I, wJ_J, upd_at, updL_at, kR_s, Option.toList, List.append_nil, List.nil_append, List.cons_append, if_true, if_false, reduceIte, Bool.false_eq_true, not_true_eq_false, not_false_eq_true, true_and, and_true, false_and, and_false, true_or, or_true,  Nat.reduceEqDiff, Nat.reduceAdd, Nat.reduceLeDiff], kp_refl⟩
        · have c3 := (ix_n hz).resolve_left c2
          exact ⟨g, fun Q => by simp (implicitDefEqProofs := false) only [rX9_wayAt_5, rX9_wayAt_5b, rX9_wayAt_6, rX9_wayAt_9, rX9_wayAt_9b, rX9_wayAt_12, rX9_wayAt_13, rX9_wayAt_16, rX9_wayAt_17, rX9_wayAt_17b, rX9_wayAt_18, rX9_wayAt_21, rX9_wayAt_24, rX9_wayAt_24b, rX9_wayAt_25, rX9_wayAt_26, rX9_wayAt_29, rX9_wayAt_32, rX9_wayAt_32b, rX9_wayAt_33, rX9_wayAt_34, rX9_wayAt_37, kA_44, kB_44, k.2.1, c2, gt, c3, c_mrefused, show nI 1 = 1 from rfl, pCX9_wayAt, pSX9_wayAt, pOX9_wayAt, pLX9_wayAt, pCX9_glassesToCome, pSX9_glassesToCome, pOX9_glassesToCome, pLX9_glassesToCome, pCX9_refused, pSX9_refused, pOX9_refused, pLX9_refused, kl_I, kl_J, kl_R, kl_T, kl_N, Nat.le_refl, Nat.zero_le, List.map_nil, List.map_cons, List.sum_nil, List.sum_cons, c_I, c_J, c_R, c_T, va_rf, hI_wI, hJ_wJ, hR_wR, hI_J, hI_R, hJ_I, hJ_R, hR_I, hR_J, hN_I, hN_J, hN_R, wI_I, wJ_J, upd_at, updL_at, kR_s, Option.toList, List.append_nil, List.nil_append, List.cons_append, if_true, if_false, reduceIte, Bool.false_eq_true, not_true_eq_false, not_false_eq_true, true_and, and_true, false_and, and_false, true_or, or_true,  Nat.reduceEqDiff, Nat.reduceAdd, Nat.reduceLeDiff], kp_refl⟩
      cases ix y (gW (sA S) (sX S)).length <;> exact key
    | some j =>
      obtain ⟨rfl, hj⟩ := ix_s (by omega) hz
      have g1 : ¬ nI j < 0 := nI_pos (by omega)
      have g2 : ¬ nI (glL (sA S) (sX S).2.2).length ≤ nI j := nI_ge hj (by omega)
      have v4 : vp_in (nI j) 4 := nI_vp (by omega) (by decide)
      have cl : (nI j).toNatClampNeg = j := nI_cl (by omega)
      generalize hg : th h = g at k v gt E ⊢
      obtain ⟨h1, x1, e1, w1⟩ := c_isWorked (d := d + 3) (y := y) k v (by omega) t1 t5 t3
      have k1 := mK_sx k x1 (by decide)
      have F1 := k1.1
      subst hg
      cases hx : ix y (gW (sA S) (sX S)).length with
      | none =>
        rw [hx] at e1
        refine ms_of (v := 1) I (by decide) E ?_
        generalize th h = g at k e1 x1 gt ⊢
        exact ⟨h1, fun Q => by simp (implicitDefEqProofs := false) only [rX9_wayAt_5, rX9_wayAt_5b, rX9_wayAt_6, rX9_wayAt_9, rX9_wayAt_9b, rX9_wayAt_12, rX9_wayAt_13, rX9_wayAt_16, rX9_wayAt_17, rX9_wayAt_17b, rX9_wayAt_18, rX9_wayAt_21, rX9_wayAt_24, rX9_wayAt_24b, rX9_wayAt_25, rX9_wayAt_26, rX9_wayAt_29, rX9_wayAt_32, rX9_wayAt_32b, rX9_wayAt_33, rX9_wayAt_34, rX9_wayAt_37, kA_44, kB_44, k.2.1, g1, gt, g2, e1, not_true_eq_false, decide_false, bI_f, c_mrefused, show nI 1 = 1 from rfl, pCX9_wayAt, pSX9_wayAt, pOX9_wayAt, pLX9_wayAt, pCX9_glassesToCome, pSX9_glassesToCome, pOX9_glassesToCome, pLX9_glassesToCome, pCX9_isWorked, pSX9_isWorked, pOX9_isWorked, pLX9_isWorked, pCX9_refused, pSX9_refused, pOX9_refused, pLX9_refused, kl_I, kl_J, kl_R, kl_T, kl_N, Nat.le_refl, Nat.zero_le, List.map_nil, List.map_cons, List.sum_nil, List.sum_cons, c_I, c_J, c_R, c_T, va_rf, hI_wI, hJ_wJ, hR_wR, hI_J, hI_R, hJ_I, hJ_R, hR_I, hR_J, hN_I, hN_J, hN_R, wI_I, wJ_J, upd_at, updL_at, kR_s, Option.toList, List.append_nil, List.nil_append, List.cons_append, if_true, if_false, reduceIte, Bool.false_eq_true, not_true_eq_false, not_false_eq_true, true_and, and_true, false_and, and_false, true_or, or_true,  Nat.reduceEqDiff, Nat.reduceAdd, Nat.reduceLeDiff], kp_sx x1 (by decide)⟩
      | some i =>
        rw [hx] at e1
        obtain ⟨a1, -⟩ := w1 i hx
        refine ms_of (v := 0) I (by decide) E ?_
        generalize th h = g at k e1 x1 gt ⊢
        exact ⟨h1, fun Q => by simp (implicitDefEqProofs := false) only [rX9_wayAt_5, rX9_wayAt_5b, rX9_wayAt_6, rX9_wayAt_9, rX9_wayAt_9b, rX9_wayAt_12, rX9_wayAt_13, rX9_wayAt_16, rX9_wayAt_17, rX9_wayAt_17b, rX9_wayAt_18, rX9_wayAt_21, rX9_wayAt_24, rX9_wayAt_24b, rX9_wayAt_25, rX9_wayAt_26, rX9_wayAt_29, rX9_wayAt_38, rX9_wayAt_38b, rX9_wayAt_39, rX9_wayAt_39b, rX9_wayAt_40, rX9_wayAt_43, rX9_wayAt_44, rX9_wayAt_45, rX9_wayAt_48, kA_44, kB_44, kA_52, kB_52, fin_44_5 F1, fin_44_15 F1, fin_44_16 F1, fin_44_17 F1, fin_44_18 F1, fin_44_21 F1, fin_44_23 F1, fin_44_24 F1, fin_44_25 F1, fin_44_29 F1, fin_44_33 F1, k.2.1, g1, gt, g2, e1, reduceCtorEq, not_false_eq_true, decide_true, bI_t, show ¬ (1 : Int32) = 0 from by decide, v4, cl, a1 j hj, c_mgood, nI_0, pCX9_wayAt, pSX9_wayAt, pOX9_wayAt, pLX9_wayAt, pCX9_glassesToCome, pSX9_glassesToCome, pOX9_glassesToCome, pLX9_glassesToCome, pCX9_isWorked, pSX9_isWorked, pOX9_isWorked, pLX9_isWorked, pCX9_good, pSX9_good, pOX9_good, pLX9_good, kl_I, kl_J, kl_R, kl_T, kl_N, Nat.le_refl, Nat.zero_le, List.map_nil, List.map_cons, List.sum_nil, List.sum_cons, c_I, c_J, c_R, c_T, va_rf, hI_wI, hJ_wJ, hR_wR, hI_J, hI_R, hJ_I, hJ_R, hR_I, hR_J, hN_I, hN_J, hN_R, wI_I, wJ_J, upd_at, updL_at, kR_s, Option.toList, List.append_nil, List.nil_append, List.cons_append, if_true, if_false, reduceIte, Bool.false_eq_true, not_true_eq_false, not_false_eq_true, true_and, and_true, false_and, and_false, true_or, or_true,  Nat.reduceEqDiff, Nat.reduceAdd, Nat.reduceLeDiff], kp_sx x1 (by decide)⟩
theorem bw_s {f : Nat → Nat} : ∀ (k i b : Nat), bwL f (k + 1) i b = (if f (i + k) < f (bwL f k i b) then i + k else bwL f k i b)
  | 0, i, b => rfl
  | k + 1, i, b => by
    rw [bwL, bw_s k (i + 1), bwL, show i + 1 + k = i + (k + 1) by omega]
theorem bw_lt {f : Nat → Nat} : ∀ (k i b : Nat), b < i → bwL f k i b < i + k
  | 0, i, b, h => by rw [bwL]; omega
  | k + 1, i, b, h => by
    rw [bw_s]
    have := bw_lt (f := f) k i b h
    split <;> omega
theorem wb_len {a : aS} {x : sT} {S : AS} (ea : sA S = a) (ex : sX S = x) (w : aW a) (hn : 0 < aN a) {c : Nat} {p : wYr} (hc : c < wcC a x) (hp : wyX a x c = some p) : wbN S (wpN a x c).length = popc 6 (bbN a p.1 60) := by
  subst ea ex
  unfold wbN
  have lt := wp_lt hc hp
  have g := wp_get (q := (0, [])) hc hp
  rw [gW_n w.1 hn, List.getD_eq_getElem?_getD, List.getElem?_map]
  rw [List.getD_eq_getElem?_getD, List.getElem?_eq_getElem lt, Option.getD_some] at g
  rw [List.getElem?_eq_getElem lt, Option.map_some, Option.getD_some, g]
theorem l_mbestWay {d : Nat} {s : Nat} {S : AS} (w : aW (sA S)) (hn : 0 < aN (sA S)) (t1 : (sX S).1 < 2 ^ aN (sA S)) (t5 : (sX S).2.1 < 64) (t3 : (sX S).2.2 ≤ 90) : ∀ (m c : Nat), c + m = wcC (sA S) (sX S) → ∀ (h : qH) (b f : Nat) (o5 : Option Value) (_ : mK h s (sA S)) (_ : vF (hI h 46) (sA S) (sX S)) (_ : ((wpN (sA S) (sX S) c).length = 0 ∧ b = 0 ∧ f = 9999) ∨ ∃ n, (wpN (sA S) (sX S) c).length = n + 1 ∧ b = bwL (wbN S) n 1 0 ∧ f = wbN S b), ∃ h1, (∀ Q, WP (d + 6) mX9_bestWay (0, 0) 29 [some (.ref (44 : Nat)), some (.int (nI (wpN (sA S) (sX S) c).length)), some (.int (nI b)), some (.int (nI f)), some (.int (nI c)), o5] [] h Q = Q (some (some (.int (nI (bwL (wbN S) ((gW (sA S) (sX S)).length - 1) 1 0))))) (tm h1 0)) ∧ kp h h1 := by
  intro m
  induction m with
  | zero =>
    intro c hc h b f o5 k v hb
    obtain rfl : c = wcC (sA S) (sX S) := by omega
    have co := c_codes (d := d + 4) k v t3
    have el : (gW (sA S) (sX S)).length = (wpN (sA S) (sX S) (wcC (sA S) (sX S))).length := by rw [gW_n w.1 hn, List.length_map]
    have eb : bwL (wbN S) ((gW (sA S) (sX S)).length - 1) 1 0 = b := by
      rw [el]
      rcases hb with ⟨q1, q2, -⟩ | ⟨n, q1, q2, -⟩
      · rw [q1, q2]; rfl
      · rw [q1, q2]; rfl
    refine ⟨h, fun Q => ?_, kp_refl⟩
    rw [eb]
    simp (implicitDefEqProofs := false) only [rX9_bestWay_29, rX9_bestWay_31, rX9_bestWay_31b, rX9_bestWay_32, rX9_bestWay_35, rX9_bestWay_38, rX9_bestWay_38b, rX9_bestWay_39, rX9_bestWay_41, rX9_bestWay_44, rX9_bestWay_47, rX9_bestWay_50, rX9_bestWay_50b, rX9_bestWay_51, rX9_bestWay_53, rX9_bestWay_56, rX9_bestWay_59, rX9_bestWay_61, rX9_bestWay_63, rX9_bestWay_64, rX9_bestWay_67, rX9_bestWay_69, rX9_bestWay_70, rX9_bestWay_81, rX9_bestWay_81b, rX9_bestWay_82, rX9_bestWay_83, rX9_bestWay_86, kA_44, kB_44, co, c_mgood, pCX9_bestWay, pSX9_bestWay, pOX9_bestWay, pLX9_bestWay, pCX9_codes, pSX9_codes, pOX9_codes, pLX9_codes, pCX9_good, pSX9_good, pOX9_good, pLX9_good, Int32.le_refl, kl_I, kl_J, kl_R, kl_T, kl_N, Nat.le_refl, Nat.zero_le, List.map_nil, List.map_cons, List.sum_nil, List.sum_cons, c_I, c_J, c_R, c_T, va_rf, hI_wI, hJ_wJ, hR_wR, hI_J, hI_R, hJ_I, hJ_R, hR_I, hR_J, hN_I, hN_J, hN_R, wI_I, wJ_J, upd_at, updL_at, kR_s, Option.toList, List.append_nil, List.nil_append, List.cons_append, if_true, if_false, reduceIte, Bool.false_eq_true, not_true_eq_false, not_false_eq_true, true_and, and_true, false_and, and_false, true_or, or_true,  Nat.reduceEqDiff, Nat.reduceAdd, Nat.reduceLeDiff]
  | succ m ih =>
    intro c hc h b f o5 k v hb
    have co := c_codes (d := d + 4) k v t3
    have le := wc_le w (x := sX S)
    have wl := wp_len (a := sA S) (x := sX S) c
    have g1 : ¬ nI (wcC (sA S) (sX S)) ≤ nI c := nI_ge (by omega) (by omega)
    obtain ⟨h1, e1, x1, p1⟩ := c_isWay (d := d) (C := c) k v hn t1 t5 t3 (by omega)
    have k1 := mK_sx k x1 (by decide)
    have v1 : vF (hI h1 46) (sA S) (sX S) := by rw [x1.2.2.2 46 (by decide)]; exact v
    cases hw : wyX (sA S) (sX S) c with
    | none =>
      rw [hw] at e1
      obtain ⟨h2, e2, k2⟩ := ih (c + 1) (by omega) h1 b f o5 k1 v1 (by rw [wp_none hw]; exact hb)
      rw [wp_none hw] at e2
      refine ⟨h2, fun Q => ?_, kp_tr (kp_sx x1 (by decide)) k2⟩
      have e2 := e2 Q
      simp (implicitDefEqProofs := false) only [rX9_bestWay_29, rX9_bestWay_31, rX9_bestWay_31b, rX9_bestWay_32, rX9_bestWay_35, rX9_bestWay_38, rX9_bestWay_38b, rX9_bestWay_39, rX9_bestWay_41, rX9_bestWay_44, rX9_bestWay_47, kA_44, kB_44, co, g1, e1, Option.isSome_none, bI_f, pCX9_bestWay, pSX9_bestWay, pOX9_bestWay, pLX9_bestWay, pCX9_codes, pSX9_codes, pOX9_codes, pLX9_codes, pCX9_isWay, pSX9_isWay, pOX9_isWay, pLX9_isWay, kl_I, kl_J, kl_R, kl_T, kl_N, Nat.le_refl, Nat.zero_le, List.map_nil, List.map_cons, List.sum_nil, List.sum_cons, c_I, c_J, c_R, c_T, va_rf, hI_wI, hJ_wJ, hR_wR, hI_J, hI_R, hJ_I, hJ_R, hR_I, hR_J, hN_I, hN_J, hN_R, wI_I, wJ_J, upd_at, updL_at, kR_s, Option.toList, List.append_nil, List.nil_append, List.cons_append, if_true, if_false, reduceIte, Bool.false_eq_true, not_true_eq_false, not_false_eq_true, true_and, and_true, false_and, and_false, true_or, or_true,  Nat.reduceEqDiff, Nat.reduceAdd, Nat.reduceLeDiff]
      rw [rX9_bestWay_75, nI_1]
      simp (implicitDefEqProofs := false) only [rX9_bestWay_78, kl_I, kl_J, kl_R, kl_T, kl_N, Nat.le_refl, Nat.zero_le, List.map_nil, List.map_cons, List.sum_nil, List.sum_cons, c_I, c_J, c_R, c_T, va_rf, hI_wI, hJ_wJ, hR_wR, hI_J, hI_R, hJ_I, hJ_R, hR_I, hR_J, hN_I, hN_J, hN_R, wI_I, wJ_J, upd_at, updL_at, kR_s, Option.toList, List.append_nil, List.nil_append, List.cons_append, if_true, if_false, reduceIte, Bool.false_eq_true, not_true_eq_false, not_false_eq_true, true_and, and_true, false_and, and_false, true_or, or_true,  Nat.reduceEqDiff, Nat.reduceAdd, Nat.reduceLeDiff]
      exact e2
    | some p =>
      rw [hw] at e1
      obtain ⟨-, a1⟩ := p1 p hw
      have wb := wb_len (S := S) rfl rfl w hn (by omega) hw
      have bb : ∀ Q, WM (d + 5) mX9_burntBy [.ref (44 : Nat), .int (nI 60)] h1 Q = Q (some (some (.int (nI (bbN (sA S) p.1 60))))) h1 := c_mbb (d := d + 5) (y := 60) k1.1 k1.2.1 k1.2.2.1 a1 (by omega)
      have bc := c_mbits (d := d + 5) (h := h1) (x := bbN (sA S) p.1 60) (bbN_lt w)
      rw [← wb] at bc
      have wb6 : wbN S (wpN (sA S) (sX S) c).length ≤ 6 := by rw [wb]; exact popc_le _ _
      have f9 : f ≤ 9999 := by
        rcases hb with ⟨-, -, q⟩ | ⟨n, -, -, q⟩
        · omega
        · have : f ≤ 6 := by rw [q]; exact popc_le _ _
          omega
      have q1 : (nI f ≤ nI (wbN S (wpN (sA S) (sX S) c).length)) = (f ≤ wbN S (wpN (sA S) (sX S) c).length) := propext (nI_leI (by omega) (by omega))
      have el : (wpN (sA S) (sX S) (c + 1)).length = (wpN (sA S) (sX S) c).length + 1 := by rw [wp_some hw, List.length_append, List.length_singleton]
      by_cases c2 : f ≤ wbN S (wpN (sA S) (sX S) c).length
      · have hb' : ∃ n, (wpN (sA S) (sX S) (c + 1)).length = n + 1 ∧ b = bwL (wbN S) n 1 0 ∧ f = wbN S b := by
          rcases hb with ⟨-, -, q⟩ | ⟨n, q2, q3, q4⟩
          · omega
          · refine ⟨n + 1, by omega, ?_, q4⟩
            rw [bw_s, ← q3, if_neg (by rw [← q4, show 1 + n = (wpN (sA S) (sX S) c).length by omega]; omega)]
        obtain ⟨h2, e2, k2⟩ := ih (c + 1) (by omega) h1 b f (some (.int (nI (wbN S (wpN (sA S) (sX S) c).length)))) k1 v1 (.inr hb')
        rw [el] at e2
        refine ⟨h2, fun Q => ?_, kp_tr (kp_sx x1 (by decide)) k2⟩
        have e2 := e2 Q
        simp (implicitDefEqProofs := false) only [rX9_bestWay_29, rX9_bestWay_31, rX9_bestWay_31b, rX9_bestWay_32, rX9_bestWay_35, rX9_bestWay_38, rX9_bestWay_38b, rX9_bestWay_39, rX9_bestWay_41, rX9_bestWay_44, rX9_bestWay_47, rX9_bestWay_50, rX9_bestWay_50b, rX9_bestWay_51, rX9_bestWay_53, rX9_bestWay_56, rX9_bestWay_59, rX9_bestWay_61, rX9_bestWay_63, rX9_bestWay_64, rX9_bestWay_67, rX9_bestWay_69, rX9_bestWay_70, kA_44, kB_44, co, g1, e1, Option.isSome_some, bI_t, show ¬ (1 : Int32) = 0 from by decide, show (60 : Int32) = nI 60 from rfl, bb, bc, q1, c2, pCX9_bestWay, pSX9_bestWay, pOX9_bestWay, pLX9_bestWay, pCX9_codes, pSX9_codes, pOX9_codes, pLX9_codes, pCX9_isWay, pSX9_isWay, pOX9_isWay, pLX9_isWay, pCX9_burntBy, pSX9_burntBy, pOX9_burntBy, pLX9_burntBy, pCX9_bits, pSX9_bits, pOX9_bits, pLX9_bits, kl_I, kl_J, kl_R, kl_T, kl_N, Nat.le_refl, Nat.zero_le, List.map_nil, List.map_cons, List.sum_nil, List.sum_cons, c_I, c_J, c_R, c_T, va_rf, hI_wI, hJ_wJ, hR_wR, hI_J, hI_R, hJ_I, hJ_R, hR_I, hR_J, hN_I, hN_J, hN_R, wI_I, wJ_J, upd_at, updL_at, kR_s, Option.toList, List.append_nil, List.nil_append, List.cons_append, if_true, if_false, reduceIte, Bool.false_eq_true, not_true_eq_false, not_false_eq_true, true_and, and_true, false_and, and_false, true_or, or_true,  Nat.reduceEqDiff, Nat.reduceAdd, Nat.reduceLeDiff]
        rw [rX9_bestWay_72, nI_1]
        simp (implicitDefEqProofs := false) only [kl_I, kl_J, kl_R, kl_T, kl_N, Nat.le_refl, Nat.zero_le, List.map_nil, List.map_cons, List.sum_nil, List.sum_cons, c_I, c_J, c_R, c_T, va_rf, hI_wI, hJ_wJ, hR_wR, hI_J, hI_R, hJ_I, hJ_R, hR_I, hR_J, hN_I, hN_J, hN_R, wI_I, wJ_J, upd_at, updL_at, kR_s, Option.toList, List.append_nil, List.nil_append, List.cons_append, if_true, if_false, reduceIte, Bool.false_eq_true, not_true_eq_false, not_false_eq_true, true_and, and_true, false_and, and_false, true_or, or_true,  Nat.reduceEqDiff, Nat.reduceAdd, Nat.reduceLeDiff]
        rw [rX9_bestWay_75, nI_1]
        simp (implicitDefEqProofs := false) only [rX9_bestWay_78, kl_I, kl_J, kl_R, kl_T, kl_N, Nat.le_refl, Nat.zero_le, List.map_nil, List.map_cons, List.sum_nil, List.sum_cons, c_I, c_J, c_R, c_T, va_rf, hI_wI, hJ_wJ, hR_wR, hI_J, hI_R, hJ_I, hJ_R, hR_I, hR_J, hN_I, hN_J, hN_R, wI_I, wJ_J, upd_at, updL_at, kR_s, Option.toList, List.append_nil, List.nil_append, List.cons_append, if_true, if_false, reduceIte, Bool.false_eq_true, not_true_eq_false, not_false_eq_true, true_and, and_true, false_and, and_false, true_or, or_true,  Nat.reduceEqDiff, Nat.reduceAdd, Nat.reduceLeDiff]
        exact e2
      · have hb' : ∃ n, (wpN (sA S) (sX S) (c + 1)).length = n + 1 ∧ (wpN (sA S) (sX S) c).length = bwL (wbN S) n 1 0 ∧ wbN S (wpN (sA S) (sX S) c).length = wbN S (wpN (sA S) (sX S) c).length := by
          rcases hb with ⟨q0, -, q⟩ | ⟨n, q2, q3, q4⟩
          · exact ⟨0, by omega, by rw [q0]; rfl, rfl⟩
          · refine ⟨n + 1, by omega, ?_, rfl⟩
            rw [bw_s, ← q3, if_pos (by rw [← q4, show 1 + n = (wpN (sA S) (sX S) c).length by omega]; omega)]
            omega
        obtain ⟨h2, e2, k2⟩ := ih (c + 1) (by omega) h1 (wpN (sA S) (sX S) c).length (wbN S (wpN (sA S) (sX S) c).length) (some (.int (nI (wbN S (wpN (sA S) (sX S) c).length)))) k1 v1 (.inr hb')
        rw [el] at e2
        refine ⟨h2, fun Q => ?_, kp_tr (kp_sx x1 (by decide)) k2⟩
        have e2 := e2 Q
        simp (implicitDefEqProofs := false) only [rX9_bestWay_29, rX9_bestWay_31, rX9_bestWay_31b, rX9_bestWay_32, rX9_bestWay_35, rX9_bestWay_38, rX9_bestWay_38b, rX9_bestWay_39, rX9_bestWay_41, rX9_bestWay_44, rX9_bestWay_47, rX9_bestWay_50, rX9_bestWay_50b, rX9_bestWay_51, rX9_bestWay_53, rX9_bestWay_56, rX9_bestWay_59, rX9_bestWay_61, rX9_bestWay_63, rX9_bestWay_64, rX9_bestWay_67, rX9_bestWay_69, rX9_bestWay_70, rX9_bestWay_71, kA_44, kB_44, co, g1, e1, Option.isSome_some, bI_t, show ¬ (1 : Int32) = 0 from by decide, show (60 : Int32) = nI 60 from rfl, bb, bc, q1, c2, pCX9_bestWay, pSX9_bestWay, pOX9_bestWay, pLX9_bestWay, pCX9_codes, pSX9_codes, pOX9_codes, pLX9_codes, pCX9_isWay, pSX9_isWay, pOX9_isWay, pLX9_isWay, pCX9_burntBy, pSX9_burntBy, pOX9_burntBy, pLX9_burntBy, pCX9_bits, pSX9_bits, pOX9_bits, pLX9_bits, kl_I, kl_J, kl_R, kl_T, kl_N, Nat.le_refl, Nat.zero_le, List.map_nil, List.map_cons, List.sum_nil, List.sum_cons, c_I, c_J, c_R, c_T, va_rf, hI_wI, hJ_wJ, hR_wR, hI_J, hI_R, hJ_I, hJ_R, hR_I, hR_J, hN_I, hN_J, hN_R, wI_I, wJ_J, upd_at, updL_at, kR_s, Option.toList, List.append_nil, List.nil_append, List.cons_append, if_true, if_false, reduceIte, Bool.false_eq_true, not_true_eq_false, not_false_eq_true, true_and, and_true, false_and, and_false, true_or, or_true,  Nat.reduceEqDiff, Nat.reduceAdd, Nat.reduceLeDiff]
        rw [rX9_bestWay_72, nI_1]
        simp (implicitDefEqProofs := false) only [kl_I, kl_J, kl_R, kl_T, kl_N, Nat.le_refl, Nat.zero_le, List.map_nil, List.map_cons, List.sum_nil, List.sum_cons, c_I, c_J, c_R, c_T, va_rf, hI_wI, hJ_wJ, hR_wR, hI_J, hI_R, hJ_I, hJ_R, hR_I, hR_J, hN_I, hN_J, hN_R, wI_I, wJ_J, upd_at, updL_at, kR_s, Option.toList, List.append_nil, List.nil_append, List.cons_append, if_true, if_false, reduceIte, Bool.false_eq_true, not_true_eq_false, not_false_eq_true, true_and, and_true, false_and, and_false, true_or, or_true,  Nat.reduceEqDiff, Nat.reduceAdd, Nat.reduceLeDiff]
        rw [rX9_bestWay_75, nI_1]
        simp (implicitDefEqProofs := false) only [rX9_bestWay_78, kl_I, kl_J, kl_R, kl_T, kl_N, Nat.le_refl, Nat.zero_le, List.map_nil, List.map_cons, List.sum_nil, List.sum_cons, c_I, c_J, c_R, c_T, va_rf, hI_wI, hJ_wJ, hR_wR, hI_J, hI_R, hJ_I, hJ_R, hR_I, hR_J, hN_I, hN_J, hN_R, wI_I, wJ_J, upd_at, updL_at, kR_s, Option.toList, List.append_nil, List.nil_append, List.cons_append, if_true, if_false, reduceIte, Bool.false_eq_true, not_true_eq_false, not_false_eq_true, true_and, and_true, false_and, and_false, true_or, or_true,  Nat.reduceEqDiff, Nat.reduceAdd, Nat.reduceLeDiff]
        exact e2
theorem m_bestWay {d : Nat} {h : qH} {S : AS} (I : MI h S) : ms 0 (d + 10) mX9_bestWay [.ref (44 : Nat)] h (trS S (sBestWay S).1) (some (.int (sBestWay S).2)) := by
  have E : ∀ Q, WM (d + 10) mX9_bestWay [.ref (44 : Nat)] h Q = WP (d + 10) mX9_bestWay (0, 0) 5 [some (.ref (44 : Nat)), none, none, none, none, none] [] (th h) Q := fun Q => by simp (implicitDefEqProofs := false) only [eX9_bestWay, rX9_bestWay_0, rX9_bestWay_0b, rX9_bestWay_1, rX9_bestWay_2, kA_44, kB_44, pCX9_bestWay, pSX9_bestWay, pOX9_bestWay, pLX9_bestWay, th, kl_I, kl_J, kl_R, kl_T, kl_N, Nat.le_refl, Nat.zero_le, List.map_nil, List.map_cons, List.sum_nil, List.sum_cons, c_I, c_J, c_R, c_T, va_rf, hI_wI, hJ_wJ, hR_wR, hI_J, hI_R, hJ_I, hJ_R, hR_I, hR_J, hN_I, hN_J, hN_R, wI_I, wJ_J, upd_at, updL_at, kR_s, Option.toList, List.append_nil, List.nil_append, List.cons_append, if_true, if_false, reduceIte, Bool.false_eq_true, not_true_eq_false, not_false_eq_true, true_and, and_true, false_and, and_false, true_or, or_true,  Nat.reduceEqDiff, Nat.reduceAdd, Nat.reduceLeDiff]
  rw [sBestWay]
  by_cases c1 : aN (sA S) = 0
  · rw [if_pos c1]
    refine ms_of (v := 1) I (by decide) E ?_
    obtain ⟨F, r⟩ := MI_n (MI_th I) c1
    generalize th h = g at F r ⊢
    exact ⟨g, fun Q => by simp (implicitDefEqProofs := false) only [rX9_bestWay_5, rX9_bestWay_5b, rX9_bestWay_6, rX9_bestWay_9, rX9_bestWay_9b, rX9_bestWay_12, rX9_bestWay_12b, rX9_bestWay_13, rX9_bestWay_14, rX9_bestWay_17, kA_44, kB_44, r, c_mrefused, show nI 1 = 1 from rfl, pCX9_bestWay, pSX9_bestWay, pOX9_bestWay, pLX9_bestWay, pCX9_refused, pSX9_refused, pOX9_refused, pLX9_refused, kl_I, kl_J, kl_R, kl_T, kl_N, Nat.le_refl, Nat.zero_le, List.map_nil, List.map_cons, List.sum_nil, List.sum_cons, c_I, c_J, c_R, c_T, va_rf, hI_wI, hJ_wJ, hR_wR, hI_J, hI_R, hJ_I, hJ_R, hR_I, hR_J, hN_I, hN_J, hN_R, wI_I, wJ_J, upd_at, updL_at, kR_s, Option.toList, List.append_nil, List.nil_append, List.cons_append, if_true, if_false, reduceIte, Bool.false_eq_true, not_true_eq_false, not_false_eq_true, true_and, and_true, false_and, and_false, true_or, or_true,  Nat.reduceEqDiff, Nat.reduceAdd, Nat.reduceLeDiff], kp_refl⟩
  · rw [if_neg c1]
    refine ms_of (v := 0) I (by decide) E ?_
    have I1 := MI_th I
    obtain ⟨s, k, v, t1, t2, t3, t4, t5, ww⟩ := MI_y I1 c1
    generalize th h = g at k v ⊢
    clear E I I1
    have h6 := ww.1
    have F := k.1
    have hs := k.2.2.1.1
    have f := k.2.2.1.2.1
    have hn : 0 < aN (sA S) := by omega
    obtain ⟨h2, e2, k2⟩ := l_mbestWay (d := d + 4) ww hn t1 t5 t3 (wcC (sA S) (sX S)) 0 (by omega) g 0 9999 none k v (.inl ⟨by simp [wpN], rfl, rfl⟩)
    refine ⟨h2, fun Q => ?_, k2⟩
    have e2 := e2 Q
    simp (implicitDefEqProofs := false) only [rX9_bestWay_5, rX9_bestWay_5b, rX9_bestWay_6, rX9_bestWay_9, rX9_bestWay_9b, rX9_bestWay_12, rX9_bestWay_12b, rX9_bestWay_13, rX9_bestWay_14, rX9_bestWay_17, rX9_bestWay_18, rX9_bestWay_19, rX9_bestWay_20, rX9_bestWay_21, rX9_bestWay_22, rX9_bestWay_25, rX9_bestWay_26, rX9_bestWay_27, kA_44, kB_44, k.2.1, pCX9_bestWay, pSX9_bestWay, pOX9_bestWay, pLX9_bestWay, kl_I, kl_J, kl_R, kl_T, kl_N, Nat.le_refl, Nat.zero_le, List.map_nil, List.map_cons, List.sum_nil, List.sum_cons, c_I, c_J, c_R, c_T, va_rf, hI_wI, hJ_wJ, hR_wR, hI_J, hI_R, hJ_I, hJ_R, hR_I, hR_J, hN_I, hN_J, hN_R, wI_I, wJ_J, upd_at, updL_at, kR_s, Option.toList, List.append_nil, List.nil_append, List.cons_append, if_true, if_false, reduceIte, Bool.false_eq_true, not_true_eq_false, not_false_eq_true, true_and, and_true, false_and, and_false, true_or, or_true,  Nat.reduceEqDiff, Nat.reduceAdd, Nat.reduceLeDiff]
    exact e2
theorem l_cr2 {d : Nat} {h : qH} {s : Nat} {a : aS} {x : sT} {l : List (Option Nat)} {z2 : Int32} (k : mK h s a) (v : vF (hI h 46) a x) (h9 : x.2.2 ≤ 90) (hl : l.length = (glL a x.2.2).length) (hr : ∀ i, i < (glL a x.2.2).length → hI h 52 i = oI (l.getD i none)) (hb : ∀ z, some z ∈ l → z < aN a) {Q : Option (Option Value) → qH → Prop} : ∀ (m i : Nat), i + m = (glL a x.2.2).length → ∀ (S0 : Nat), WP (d + 1) mX9_couldRing (0, 0) 43 [some (.ref (44 : Nat)), some (.int (nI (S0 ||| ro (l.take i)))), some (.int z2), some (.int (nI i))] [] h Q = WP (d + 1) mX9_couldRing (0, 0) 83 [some (.ref (44 : Nat)), some (.int (nI (S0 ||| ro l))), some (.int z2), some (.int (nI (glL a x.2.2).length))] [] h Q := by
  have F := k.1
  have ww := k.2.2.1.2.2.1
  have h6 := ww.1
  have l4 := gl_4 ww (y := x.2.2)
  have gt := c_gtc (d := d) k v h9
  intro m
  induction m with
  | zero =>
    intro i hi S0
    obtain rfl : i = (glL a x.2.2).length := by omega
    rw [← hl, List.take_length, hl]
    simp (implicitDefEqProofs := false) only [rX9_couldRing_43, rX9_couldRing_44, rX9_couldRing_44b, rX9_couldRing_45, rX9_couldRing_48, rX9_couldRing_51, rX9_couldRing_52, rX9_couldRing_52b, rX9_couldRing_53, rX9_couldRing_56, rX9_couldRing_57, rX9_couldRing_58, rX9_couldRing_60, rX9_couldRing_63, rX9_couldRing_64, rX9_couldRing_67, rX9_couldRing_68, rX9_couldRing_68b, rX9_couldRing_69, rX9_couldRing_72, rX9_couldRing_73, rX9_couldRing_74, rX9_couldRing_75, rX9_couldRing_76, kA_44, kB_44, gt, pCX9_couldRing, pSX9_couldRing, pOX9_couldRing, pLX9_couldRing, pCX9_glassesToCome, pSX9_glassesToCome, pOX9_glassesToCome, pLX9_glassesToCome, Int32.le_refl, kl_I, kl_J, kl_R, kl_T, kl_N, Nat.le_refl, Nat.zero_le, List.map_nil, List.map_cons, List.sum_nil, List.sum_cons, c_I, c_J, c_R, c_T, va_rf, hI_wI, hJ_wJ, hR_wR, hI_J, hI_R, hJ_I, hJ_R, hR_I, hR_J, hN_I, hN_J, hN_R, wI_I, wJ_J, upd_at, updL_at, kR_s, Option.toList, List.append_nil, List.nil_append, List.cons_append, if_true, if_false, reduceIte, Bool.false_eq_true, not_true_eq_false, not_false_eq_true, true_and, and_true, false_and, and_false, true_or, or_true,  Nat.reduceEqDiff, Nat.reduceAdd, Nat.reduceLeDiff]
  | succ m ih =>
    intro i hi S0
    have g1 : ¬ nI (glL a x.2.2).length ≤ nI i := nI_ge (by omega) (by omega)
    have v4 : vp_in (nI i) 4 := nI_vp (by omega) (by decide)
    have cl : (nI i).toNatClampNeg = i := nI_cl (by omega)
    have ri := hr i (by omega)
    have i1 := ih (i + 1) (by omega) S0
    rw [ro_t i (by omega)] at i1
    cases ho : l.getD i none with
    | none =>
      rw [ho, oI_no] at ri
      rw [ho, show o2 none = 0 from rfl, Nat.or_zero] at i1
      simp (implicitDefEqProofs := false) only [rX9_couldRing_43, rX9_couldRing_44, rX9_couldRing_44b, rX9_couldRing_45, rX9_couldRing_48, rX9_couldRing_51, rX9_couldRing_52, rX9_couldRing_52b, rX9_couldRing_53, rX9_couldRing_56, rX9_couldRing_57, rX9_couldRing_58, rX9_couldRing_60, rX9_couldRing_63, rX9_couldRing_64, rX9_couldRing_67, rX9_couldRing_68, rX9_couldRing_68b, rX9_couldRing_69, rX9_couldRing_72, rX9_couldRing_73, rX9_couldRing_74, rX9_couldRing_75, rX9_couldRing_76, kA_44, kB_44, kA_52, kB_52, fin_44_5 F, fin_44_15 F, fin_44_16 F, fin_44_17 F, fin_44_18 F, fin_44_21 F, fin_44_23 F, fin_44_24 F, fin_44_25 F, fin_44_29 F, fin_44_33 F, gt, g1, v4, cl, ri, show (0 : Int32) = nI 0 from rfl, bt_or, Nat.or_zero, pCX9_couldRing, pSX9_couldRing, pOX9_couldRing, pLX9_couldRing, pCX9_glassesToCome, pSX9_glassesToCome, pOX9_glassesToCome, pLX9_glassesToCome, kl_I, kl_J, kl_R, kl_T, kl_N, Nat.le_refl, Nat.zero_le, List.map_nil, List.map_cons, List.sum_nil, List.sum_cons, c_I, c_J, c_R, c_T, va_rf, hI_wI, hJ_wJ, hR_wR, hI_J, hI_R, hJ_I, hJ_R, hR_I, hR_J, hN_I, hN_J, hN_R, wI_I, wJ_J, upd_at, updL_at, kR_s, Option.toList, List.append_nil, List.nil_append, List.cons_append, if_true, if_false, reduceIte, Bool.false_eq_true, not_true_eq_false, not_false_eq_true, true_and, and_true, false_and, and_false, true_or, or_true,  Nat.reduceEqDiff, Nat.reduceAdd, Nat.reduceLeDiff]
      rw [rX9_couldRing_77, nI_1]
      simp (implicitDefEqProofs := false) only [rX9_couldRing_80, kl_I, kl_J, kl_R, kl_T, kl_N, Nat.le_refl, Nat.zero_le, List.map_nil, List.map_cons, List.sum_nil, List.sum_cons, c_I, c_J, c_R, c_T, va_rf, hI_wI, hJ_wJ, hR_wR, hI_J, hI_R, hJ_I, hJ_R, hR_I, hR_J, hN_I, hN_J, hN_R, wI_I, wJ_J, upd_at, updL_at, kR_s, Option.toList, List.append_nil, List.nil_append, List.cons_append, if_true, if_false, reduceIte, Bool.false_eq_true, not_true_eq_false, not_false_eq_true, true_and, and_true, false_and, and_false, true_or, or_true,  Nat.reduceEqDiff, Nat.reduceAdd, Nat.reduceLeDiff]
      exact i1
    | some z =>
      have hz : some z ∈ l := by
        rw [← ho]
        exact getD_in (by omega)
      have zl := hb z hz
      rw [ho, oI_so] at ri
      rw [ho, show o2 (some z) = 2 ^ z from rfl, ← Nat.or_assoc] at i1
      have nn := nN (x := z) (k := 0) (by omega)
      simp (implicitDefEqProofs := false) only [rX9_couldRing_43, rX9_couldRing_44, rX9_couldRing_44b, rX9_couldRing_45, rX9_couldRing_48, rX9_couldRing_51, rX9_couldRing_52, rX9_couldRing_52b, rX9_couldRing_53, rX9_couldRing_56, rX9_couldRing_57, rX9_couldRing_58, rX9_couldRing_60, rX9_couldRing_63, rX9_couldRing_64, rX9_couldRing_67, rX9_couldRing_68, rX9_couldRing_68b, rX9_couldRing_69, rX9_couldRing_72, rX9_couldRing_73, rX9_couldRing_74, rX9_couldRing_75, rX9_couldRing_76, kA_44, kB_44, kA_52, kB_52, fin_44_5 F, fin_44_15 F, fin_44_16 F, fin_44_17 F, fin_44_18 F, fin_44_21 F, fin_44_23 F, fin_44_24 F, fin_44_25 F, fin_44_29 F, fin_44_33 F, gt, g1, v4, cl, ri, nn, bt_shl (j := z) (by omega), bt_or, pCX9_couldRing, pSX9_couldRing, pOX9_couldRing, pLX9_couldRing, pCX9_glassesToCome, pSX9_glassesToCome, pOX9_glassesToCome, pLX9_glassesToCome, kl_I, kl_J, kl_R, kl_T, kl_N, Nat.le_refl, Nat.zero_le, List.map_nil, List.map_cons, List.sum_nil, List.sum_cons, c_I, c_J, c_R, c_T, va_rf, hI_wI, hJ_wJ, hR_wR, hI_J, hI_R, hJ_I, hJ_R, hR_I, hR_J, hN_I, hN_J, hN_R, wI_I, wJ_J, upd_at, updL_at, kR_s, Option.toList, List.append_nil, List.nil_append, List.cons_append, if_true, if_false, reduceIte, Bool.false_eq_true, not_true_eq_false, not_false_eq_true, true_and, and_true, false_and, and_false, true_or, or_true,  Nat.reduceEqDiff, Nat.reduceAdd, Nat.reduceLeDiff]
      rw [rX9_couldRing_77, nI_1]
      simp (implicitDefEqProofs := false) only [rX9_couldRing_80, kl_I, kl_J, kl_R, kl_T, kl_N, Nat.le_refl, Nat.zero_le, List.map_nil, List.map_cons, List.sum_nil, List.sum_cons, c_I, c_J, c_R, c_T, va_rf, hI_wI, hJ_wJ, hR_wR, hI_J, hI_R, hJ_I, hJ_R, hR_I, hR_J, hN_I, hN_J, hN_R, wI_I, wJ_J, upd_at, updL_at, kR_s, Option.toList, List.append_nil, List.nil_append, List.cons_append, if_true, if_false, reduceIte, Bool.false_eq_true, not_true_eq_false, not_false_eq_true, true_and, and_true, false_and, and_false, true_or, or_true,  Nat.reduceEqDiff, Nat.reduceAdd, Nat.reduceLeDiff]
      exact i1
theorem l_mcould {d : Nat} {s : Nat} {a : aS} {x : sT} (hn : 0 < aN a) (t1 : x.1 < 2 ^ aN a) (t5 : x.2.1 < 64) (t3 : x.2.2 ≤ 90) : ∀ (m c : Nat), c + m = wcC a x → ∀ (h : qH) (o3 : Option Value) (_ : mK h s a) (_ : vF (hI h 46) a x), ∃ h1, (∀ Q, WP (d + 6) mX9_couldRing (0, 0) 22 [some (.ref (44 : Nat)), some (.int (nI (rsS (wpN a x c)))), some (.int (nI c)), o3] [] h Q = Q (some (some (.int (nI (rsS (wpN a x (wcC a x))))))) (tm h1 0)) ∧ kp h h1 := by
  intro m
  induction m with
  | zero =>
    intro c hc h o3 k v
    obtain rfl : c = wcC a x := by omega
    have co := c_codes (d := d + 4) k v t3
    refine ⟨h, fun Q => ?_, kp_refl⟩
    simp (implicitDefEqProofs := false) only [rX9_couldRing_22, rX9_couldRing_23, rX9_couldRing_23b, rX9_couldRing_24, rX9_couldRing_27, rX9_couldRing_30, rX9_couldRing_30b, rX9_couldRing_31, rX9_couldRing_32, rX9_couldRing_35, rX9_couldRing_38, rX9_couldRing_41, rX9_couldRing_42, rX9_couldRing_89, rX9_couldRing_89b, rX9_couldRing_90, rX9_couldRing_91, rX9_couldRing_94, kA_44, kB_44, co, c_mgood, pCX9_couldRing, pSX9_couldRing, pOX9_couldRing, pLX9_couldRing, pCX9_codes, pSX9_codes, pOX9_codes, pLX9_codes, pCX9_good, pSX9_good, pOX9_good, pLX9_good, Int32.le_refl, kl_I, kl_J, kl_R, kl_T, kl_N, Nat.le_refl, Nat.zero_le, List.map_nil, List.map_cons, List.sum_nil, List.sum_cons, c_I, c_J, c_R, c_T, va_rf, hI_wI, hJ_wJ, hR_wR, hI_J, hI_R, hJ_I, hJ_R, hR_I, hR_J, hN_I, hN_J, hN_R, wI_I, wJ_J, upd_at, updL_at, kR_s, Option.toList, List.append_nil, List.nil_append, List.cons_append, if_true, if_false, reduceIte, Bool.false_eq_true, not_true_eq_false, not_false_eq_true, true_and, and_true, false_and, and_false, true_or, or_true,  Nat.reduceEqDiff, Nat.reduceAdd, Nat.reduceLeDiff]
  | succ m ih =>
    intro c hc h o3 k v
    have co := c_codes (d := d + 4) k v t3
    have le := wc_le k.2.2.1.2.2.1 (x := x)
    have g1 : ¬ nI (wcC a x) ≤ nI c := nI_ge (by omega) (by omega)
    obtain ⟨h1, e1, x1, p1⟩ := c_isWay (d := d) (C := c) k v hn t1 t5 t3 (by omega)
    have k1 := mK_sx k x1 (by decide)
    have v1 : vF (hI h1 46) a x := by rw [x1.2.2.2 46 (by decide)]; exact v
    cases hw : wyX a x c with
    | none =>
      rw [hw] at e1
      obtain ⟨h2, e2, k2⟩ := ih (c + 1) (by omega) h1 o3 k1 v1
      rw [wp_none hw] at e2
      refine ⟨h2, fun Q => ?_, kp_tr (kp_sx x1 (by decide)) k2⟩
      have e2 := e2 Q
      simp (implicitDefEqProofs := false) only [rX9_couldRing_22, rX9_couldRing_23, rX9_couldRing_23b, rX9_couldRing_24, rX9_couldRing_27, rX9_couldRing_30, rX9_couldRing_30b, rX9_couldRing_31, rX9_couldRing_32, rX9_couldRing_35, rX9_couldRing_38, kA_44, kB_44, co, g1, e1, Option.isSome_none, bI_f, pCX9_couldRing, pSX9_couldRing, pOX9_couldRing, pLX9_couldRing, pCX9_codes, pSX9_codes, pOX9_codes, pLX9_codes, pCX9_isWay, pSX9_isWay, pOX9_isWay, pLX9_isWay, kl_I, kl_J, kl_R, kl_T, kl_N, Nat.le_refl, Nat.zero_le, List.map_nil, List.map_cons, List.sum_nil, List.sum_cons, c_I, c_J, c_R, c_T, va_rf, hI_wI, hJ_wJ, hR_wR, hI_J, hI_R, hJ_I, hJ_R, hR_I, hR_J, hN_I, hN_J, hN_R, wI_I, wJ_J, upd_at, updL_at, kR_s, Option.toList, List.append_nil, List.nil_append, List.cons_append, if_true, if_false, reduceIte, Bool.false_eq_true, not_true_eq_false, not_false_eq_true, true_and, and_true, false_and, and_false, true_or, or_true,  Nat.reduceEqDiff, Nat.reduceAdd, Nat.reduceLeDiff]
      rw [rX9_couldRing_83, nI_1]
      simp (implicitDefEqProofs := false) only [rX9_couldRing_86, kl_I, kl_J, kl_R, kl_T, kl_N, Nat.le_refl, Nat.zero_le, List.map_nil, List.map_cons, List.sum_nil, List.sum_cons, c_I, c_J, c_R, c_T, va_rf, hI_wI, hJ_wJ, hR_wR, hI_J, hI_R, hJ_I, hJ_R, hR_I, hR_J, hN_I, hN_J, hN_R, wI_I, wJ_J, upd_at, updL_at, kR_s, Option.toList, List.append_nil, List.nil_append, List.cons_append, if_true, if_false, reduceIte, Bool.false_eq_true, not_true_eq_false, not_false_eq_true, true_and, and_true, false_and, and_false, true_or, or_true,  Nat.reduceEqDiff, Nat.reduceAdd, Nat.reduceLeDiff]
      exact e2
    | some p =>
      rw [hw] at e1
      obtain ⟨o1, o2', o3'⟩ := wy_ok hn _ _ _ p hw t1
      obtain ⟨h2, e2, k2⟩ := ih (c + 1) (by omega) h1 (some (.int (nI (glL a x.2.2).length))) k1 v1
      rw [wp_some hw, rsS_app] at e2
      refine ⟨h2, fun Q => ?_, kp_tr (kp_sx x1 (by decide)) k2⟩
      have e2 := e2 Q
      have l2 := l_cr2 (d := d + 5) (z2 := nI c) (Q := Q) k1 v1 t3 o2' (p1 p hw).1 o3' (glL a x.2.2).length 0 (by omega) (rsS (wpN a x c))
      rw [List.take_zero, show ro [] = 0 from rfl, Nat.or_zero] at l2
      simp (implicitDefEqProofs := false) only [rX9_couldRing_22, rX9_couldRing_23, rX9_couldRing_23b, rX9_couldRing_24, rX9_couldRing_27, rX9_couldRing_30, rX9_couldRing_30b, rX9_couldRing_31, rX9_couldRing_32, rX9_couldRing_35, rX9_couldRing_38, rX9_couldRing_41, rX9_couldRing_42, kA_44, kB_44, co, g1, e1, Option.isSome_some, bI_t, show ¬ (1 : Int32) = 0 from by decide, pCX9_couldRing, pSX9_couldRing, pOX9_couldRing, pLX9_couldRing, pCX9_codes, pSX9_codes, pOX9_codes, pLX9_codes, pCX9_isWay, pSX9_isWay, pOX9_isWay, pLX9_isWay, kl_I, kl_J, kl_R, kl_T, kl_N, Nat.le_refl, Nat.zero_le, List.map_nil, List.map_cons, List.sum_nil, List.sum_cons, c_I, c_J, c_R, c_T, va_rf, hI_wI, hJ_wJ, hR_wR, hI_J, hI_R, hJ_I, hJ_R, hR_I, hR_J, hN_I, hN_J, hN_R, wI_I, wJ_J, upd_at, updL_at, kR_s, Option.toList, List.append_nil, List.nil_append, List.cons_append, if_true, if_false, reduceIte, Bool.false_eq_true, not_true_eq_false, not_false_eq_true, true_and, and_true, false_and, and_false, true_or, or_true,  Nat.reduceEqDiff, Nat.reduceAdd, Nat.reduceLeDiff]
      rw [← nI_0, l2, rX9_couldRing_83, nI_1]
      simp (implicitDefEqProofs := false) only [rX9_couldRing_86, kl_I, kl_J, kl_R, kl_T, kl_N, Nat.le_refl, Nat.zero_le, List.map_nil, List.map_cons, List.sum_nil, List.sum_cons, c_I, c_J, c_R, c_T, va_rf, hI_wI, hJ_wJ, hR_wR, hI_J, hI_R, hJ_I, hJ_R, hR_I, hR_J, hN_I, hN_J, hN_R, wI_I, wJ_J, upd_at, updL_at, kR_s, Option.toList, List.append_nil, List.nil_append, List.cons_append, if_true, if_false, reduceIte, Bool.false_eq_true, not_true_eq_false, not_false_eq_true, true_and, and_true, false_and, and_false, true_or, or_true,  Nat.reduceEqDiff, Nat.reduceAdd, Nat.reduceLeDiff]
      exact e2
theorem m_couldRing {d : Nat} {h : qH} {S : AS} (I : MI h S) : ms 0 (d + 10) mX9_couldRing [.ref (44 : Nat)] h (trS S (sCould S).1) (some (.int (sCould S).2)) := by
  have E : ∀ Q, WM (d + 10) mX9_couldRing [.ref (44 : Nat)] h Q = WP (d + 10) mX9_couldRing (0, 0) 5 [some (.ref (44 : Nat)), none, none, none] [] (th h) Q := fun Q => by simp (implicitDefEqProofs := false) only [eX9_couldRing, rX9_couldRing_0, rX9_couldRing_0b, rX9_couldRing_1, rX9_couldRing_2, kA_44, kB_44, pCX9_couldRing, pSX9_couldRing, pOX9_couldRing, pLX9_couldRing, th, kl_I, kl_J, kl_R, kl_T, kl_N, Nat.le_refl, Nat.zero_le, List.map_nil, List.map_cons, List.sum_nil, List.sum_cons, c_I, c_J, c_R, c_T, va_rf, hI_wI, hJ_wJ, hR_wR, hI_J, hI_R, hJ_I, hJ_R, hR_I, hR_J, hN_I, hN_J, hN_R, wI_I, wJ_J, upd_at, updL_at, kR_s, Option.toList, List.append_nil, List.nil_append, List.cons_append, if_true, if_false, reduceIte, Bool.false_eq_true, not_true_eq_false, not_false_eq_true, true_and, and_true, false_and, and_false, true_or, or_true,  Nat.reduceEqDiff, Nat.reduceAdd, Nat.reduceLeDiff]
  rw [sCould]
  by_cases c1 : aN (sA S) = 0
  · rw [if_pos c1]
    refine ms_of (v := 1) I (by decide) E ?_
    obtain ⟨F, r⟩ := MI_n (MI_th I) c1
    generalize th h = g at F r ⊢
    exact ⟨g, fun Q => by simp (implicitDefEqProofs := false) only [rX9_couldRing_5, rX9_couldRing_5b, rX9_couldRing_6, rX9_couldRing_9, rX9_couldRing_9b, rX9_couldRing_12, rX9_couldRing_12b, rX9_couldRing_13, rX9_couldRing_14, rX9_couldRing_17, kA_44, kB_44, r, c_mrefused, show nI 1 = 1 from rfl, pCX9_couldRing, pSX9_couldRing, pOX9_couldRing, pLX9_couldRing, pCX9_refused, pSX9_refused, pOX9_refused, pLX9_refused, kl_I, kl_J, kl_R, kl_T, kl_N, Nat.le_refl, Nat.zero_le, List.map_nil, List.map_cons, List.sum_nil, List.sum_cons, c_I, c_J, c_R, c_T, va_rf, hI_wI, hJ_wJ, hR_wR, hI_J, hI_R, hJ_I, hJ_R, hR_I, hR_J, hN_I, hN_J, hN_R, wI_I, wJ_J, upd_at, updL_at, kR_s, Option.toList, List.append_nil, List.nil_append, List.cons_append, if_true, if_false, reduceIte, Bool.false_eq_true, not_true_eq_false, not_false_eq_true, true_and, and_true, false_and, and_false, true_or, or_true,  Nat.reduceEqDiff, Nat.reduceAdd, Nat.reduceLeDiff], kp_refl⟩
  · rw [if_neg c1]
    refine ms_of (v := 0) I (by decide) E ?_
    have I1 := MI_th I
    obtain ⟨s, k, v, t1, t2, t3, t4, t5, ww⟩ := MI_y I1 c1
    generalize th h = g at k v ⊢
    clear E I I1
    have h6 := ww.1
    have F := k.1
    have hs := k.2.2.1.1
    have f := k.2.2.1.2.1
    have hn : 0 < aN (sA S) := by omega
    obtain ⟨h2, e2, k2⟩ := l_mcould (d := d + 4) (x := sX S) hn t1 t5 t3 (wcC (sA S) (sX S)) 0 (by omega) g none k v
    refine ⟨h2, fun Q => ?_, k2⟩
    have e2 := e2 Q
    have eg : gR (sA S) (sX S) = rsS (wpN (sA S) (sX S) (wcC (sA S) (sX S))) := by
      unfold gR
      rw [rf_S, wp_all hn]
    rw [eg]
    simp (implicitDefEqProofs := false) only [rX9_couldRing_5, rX9_couldRing_5b, rX9_couldRing_6, rX9_couldRing_9, rX9_couldRing_9b, rX9_couldRing_12, rX9_couldRing_12b, rX9_couldRing_13, rX9_couldRing_14, rX9_couldRing_17, rX9_couldRing_18, rX9_couldRing_19, rX9_couldRing_20, rX9_couldRing_21, kA_44, kB_44, k.2.1, pCX9_couldRing, pSX9_couldRing, pOX9_couldRing, pLX9_couldRing, kl_I, kl_J, kl_R, kl_T, kl_N, Nat.le_refl, Nat.zero_le, List.map_nil, List.map_cons, List.sum_nil, List.sum_cons, c_I, c_J, c_R, c_T, va_rf, hI_wI, hJ_wJ, hR_wR, hI_J, hI_R, hJ_I, hJ_R, hR_I, hR_J, hN_I, hN_J, hN_R, wI_I, wJ_J, upd_at, updL_at, kR_s, Option.toList, List.append_nil, List.nil_append, List.cons_append, if_true, if_false, reduceIte, Bool.false_eq_true, not_true_eq_false, not_false_eq_true, true_and, and_true, false_and, and_false, true_or, or_true,  Nat.reduceEqDiff, Nat.reduceAdd, Nat.reduceLeDiff]
    exact e2
