/-- how many cases there are -/
def whN (a : aS) (t : Nat) : Nat → Nat
  | 0 => 1
  | n + 1 => if causeN a t n = none then whN a t n else whN a t n * 100
theorem l_wholeWeight {d : Nat} {h : qH} {s t : Nat} {a : aS} {Q : Option (Option Value) → qH → Prop} (F : Fin0 (hR h)) (hf : hR h 32 0 = some s) (w : cS h s a) (ht : t < 64) : ∀ (k i : Nat), i + k = aN a → WP (d + 1) mX0_wholeWeight (0, 0) 5 [some (.ref (32 : Nat)), some (.int (nI t)), some (.long (lN (whN a t i))), none, some (.int (nI i))] [] h Q = Q (some (some (.long (lN (whN a t (aN a)))))) h := by
  have hs := w.1
  have ww := w.2.1
  have w3 := w.2.2.1
  have h6 := ww.1
  intro k
  induction k with
  | zero =>
    intro i hi
    obtain rfl : i = aN a := by omega
    simp (implicitDefEqProofs := false) only [rX0_wholeWeight_0, rX0_wholeWeight_1, rX0_wholeWeight_2, rX0_wholeWeight_3, rX0_wholeWeight_5, rX0_wholeWeight_7, rX0_wholeWeight_7b, rX0_wholeWeight_8, rX0_wholeWeight_11, rX0_wholeWeight_14, rX0_wholeWeight_17, rX0_wholeWeight_17b, rX0_wholeWeight_18, rX0_wholeWeight_21, rX0_wholeWeight_23, rX0_wholeWeight_24, rX0_wholeWeight_27, rX0_wholeWeight_29, rX0_wholeWeight_32, rX0_wholeWeight_33, rX0_wholeWeight_36, rX0_wholeWeight_37, rX0_wholeWeight_38, rX0_wholeWeight_44, rX0_wholeWeight_45, kS0 hs, kS1 hs, kT1 hs, fS1 hs F, kS2 hs, kT2 hs, fS2 hs F, kS3 hs, kT3 hs, fS3 hs F, kS4 hs, kT4 hs, fS4 hs F, kS5 hs, kT5 hs, fS5 hs F, kS6 hs, kT6 hs, fS6 hs F, kS7 hs, kT7 hs, fS7 hs F, kS8 hs, kT8 hs, fS8 hs F, kS9 hs, kT9 hs, fS9 hs F, kS10 hs, kT10 hs, fS10 hs F, kS11 hs, kT11 hs, fS11 hs F, nS hs, nSs hs, kA_32, kB_32, hf, pCX0_wholeWeight, pSX0_wholeWeight, pOX0_wholeWeight, pLX0_wholeWeight, w3.2.1, Int32.le_refl, kl_I, kl_J, kl_R, kl_T, kl_N, Nat.le_refl, Nat.zero_le, List.map_nil, List.map_cons, List.sum_nil, List.sum_cons, c_I, c_J, c_R, c_T, va_rf, hI_wI, hJ_wJ, hR_wR, hI_J, hI_R, hJ_I, hJ_R, hR_I, hR_J, hN_I, hN_J, hN_R, wI_I, wJ_J, upd_at, updL_at, kR_s, Option.toList, List.append_nil, List.nil_append, List.cons_append, if_true, if_false, reduceIte, Bool.false_eq_true, not_true_eq_false, not_false_eq_true, true_and, and_true, false_and, and_false,  Nat.reduceEqDiff, Nat.reduceAdd, Nat.reduceLeDiff]
  | succ k ih =>
    intro i hi
    have c1 : i < aN a := by omega
    have g1 : ¬ nI (aN a) ≤ nI i := nI_ge c1 (by omega)
    have q1 := oI_none (o := causeN a t i) (fun x hx => by have := causeN_le ww c1 hx; omega)
    have i1 := ih (i + 1) (by omega)
    rw [whN] at i1
    simp (implicitDefEqProofs := false) only [rX0_wholeWeight_0, rX0_wholeWeight_1, rX0_wholeWeight_2, rX0_wholeWeight_3, rX0_wholeWeight_5, rX0_wholeWeight_7, rX0_wholeWeight_7b, rX0_wholeWeight_8, rX0_wholeWeight_11, rX0_wholeWeight_14, rX0_wholeWeight_17, rX0_wholeWeight_17b, rX0_wholeWeight_18, rX0_wholeWeight_21, rX0_wholeWeight_23, rX0_wholeWeight_24, rX0_wholeWeight_27, rX0_wholeWeight_29, rX0_wholeWeight_32, rX0_wholeWeight_33, rX0_wholeWeight_36, rX0_wholeWeight_37, rX0_wholeWeight_38, rX0_wholeWeight_44, rX0_wholeWeight_45, kS0 hs, kS1 hs, kT1 hs, fS1 hs F, kS2 hs, kT2 hs, fS2 hs F, kS3 hs, kT3 hs, fS3 hs F, kS4 hs, kT4 hs, fS4 hs F, kS5 hs, kT5 hs, fS5 hs F, kS6 hs, kT6 hs, fS6 hs F, kS7 hs, kT7 hs, fS7 hs F, kS8 hs, kT8 hs, fS8 hs F, kS9 hs, kT9 hs, fS9 hs F, kS10 hs, kT10 hs, fS10 hs F, kS11 hs, kT11 hs, fS11 hs F, nS hs, nSs hs, kA_32, kB_32, hf, pCX0_wholeWeight, pSX0_wholeWeight, pOX0_wholeWeight, pLX0_wholeWeight, pCX4_causeOf, pSX4_causeOf, pOX4_causeOf, pLX4_causeOf, w3.2.1, g1, c_causeOf F w c1 ht, q1, show (100 : Int64) = lN 100 from rfl, lN_mul, kl_I, kl_J, kl_R, kl_T, kl_N, Nat.le_refl, Nat.zero_le, List.map_nil, List.map_cons, List.sum_nil, List.sum_cons, c_I, c_J, c_R, c_T, va_rf, hI_wI, hJ_wJ, hR_wR, hI_J, hI_R, hJ_I, hJ_R, hR_I, hR_J, hN_I, hN_J, hN_R, wI_I, wJ_J, upd_at, updL_at, kR_s, Option.toList, List.append_nil, List.nil_append, List.cons_append, if_true, if_false, reduceIte, Bool.false_eq_true, not_true_eq_false, not_false_eq_true, true_and, and_true, false_and, and_false,  Nat.reduceEqDiff, Nat.reduceAdd, Nat.reduceLeDiff]
    by_cases c2 : causeN a t i = none
    · rw [if_pos c2] at i1 ⊢
      rw [rX0_wholeWeight_41, nI_1, i1]
    · rw [if_neg c2] at i1 ⊢
      rw [rX0_wholeWeight_41, nI_1, i1]
theorem c_wholeWeight {d : Nat} {h : qH} {s t : Nat} {a : aS} (F : Fin0 (hR h)) (hf : hR h 32 0 = some s) (w : cS h s a) (ht : t < 64) : ∀ Q, WM (d + 1) mX0_wholeWeight [.ref (32 : Nat), .int (nI t)] h Q = Q (some (some (.long (lN (whN a t (aN a)))))) h := by
  intro Q
  simp (implicitDefEqProofs := false) only [eX0_wholeWeight, rX0_wholeWeight_0, rX0_wholeWeight_1, rX0_wholeWeight_2, rX0_wholeWeight_3, kl_I, kl_J, kl_R, kl_T, kl_N, Nat.le_refl, Nat.zero_le, List.map_nil, List.map_cons, List.sum_nil, List.sum_cons, c_I, c_J, c_R, c_T, va_rf, hI_wI, hJ_wJ, hR_wR, hI_J, hI_R, hJ_I, hJ_R, hR_I, hR_J, hN_I, hN_J, hN_R, wI_I, wJ_J, upd_at, updL_at, kR_s, Option.toList, List.append_nil, List.nil_append, List.cons_append, if_true, if_false, reduceIte, Bool.false_eq_true, not_true_eq_false, not_false_eq_true, true_and, and_true, false_and, and_false,  Nat.reduceEqDiff, Nat.reduceAdd, Nat.reduceLeDiff]
  exact l_wholeWeight F hf w ht (aN a) 0 (by omega)
/-- which causes come by the seed: the set, and the seed then -/
def sdN (sd : Nat) : Nat := (75 * sd + 74) % 65537
def drL (a : aS) (t : Nat) : Nat → Nat → Nat → Nat → Nat × Nat
  | 0, _, c, sd => (c, sd)
  | k + 1, i, c, sd => if causeN a t i = none then drL a t k (i + 1) c sd else if sdN sd % 100 < aBy a i then drL a t k (i + 1) (c ||| 2 ^ i) (sdN sd) else drL a t k (i + 1) c (sdN sd)
def drN (a : aS) (t sd : Nat) : Nat × Nat := drL a t (aN a) 0 0 sd
theorem sd_e {sd : Nat} (h : sd < 65537) : 75 * nI sd + 74 - (75 * nI sd + 74) / 65537 * 65537 = nI (sdN sd) := by
  rw [show (75 : Int32) = nI 75 from rfl, show (74 : Int32) = nI 74 from rfl, show (65537 : Int32) = nI 65537 from rfl, nI_mul, nI_add, pk_rem (by omega) (by omega) (by omega)]
  rfl
theorem sd_h {x : Nat} (h : x < 65537) : nI x - nI x / 100 * 100 = nI (x % 100) := by
  rw [show (100 : Int32) = nI 100 from rfl, pk_rem (by omega) (by omega) (by omega)]
theorem sdN_lt (sd : Nat) : sdN sd < 65537 := Nat.mod_lt _ (by omega)
theorem l_draw {d : Nat} {h : qH} {s t : Nat} {a : aS} {Q : Option (Option Value) → qH → Prop} (F : Fin0 (hR h)) (hf : hR h 32 0 = some s) (w : cS h s a) (ht : t < 64) : ∀ (k i : Nat), i + k = aN a → ∀ (c sd : Nat) (f : Nat → Int32) (_ : f = upd (hI h 32) 6 (nI sd)) (_ : c < 2 ^ 31) (_ : sd < 65537), WP (d + 1) mX0_draw (0, 0) 4 [some (.ref (32 : Nat)), some (.int (nI t)), some (.int (nI c)), some (.int (nI i))] [] (wI h 32 f) Q = Q (some (some (.int (nI (drL a t k i c sd).1)))) (wI h 32 (upd (hI h 32) 6 (nI (drL a t k i c sd).2))) := by
  have hs := w.1
  have ww := w.2.1
  have w3 := w.2.2.1
  have w4 := w.2.2.2.1
  have h6 := ww.1
  intro k
  induction k with
  | zero =>
    intro i hi c sd f hf2 _ _
    obtain rfl : i = aN a := by omega
    subst hf2
    simp (implicitDefEqProofs := false) only [rX0_draw_0, rX0_draw_1, rX0_draw_2, rX0_draw_3, rX0_draw_4, rX0_draw_5, rX0_draw_5b, rX0_draw_6, rX0_draw_9, rX0_draw_12, rX0_draw_15, rX0_draw_15b, rX0_draw_16, rX0_draw_19, rX0_draw_20, rX0_draw_21, rX0_draw_24, rX0_draw_26, rX0_draw_29, rX0_draw_29b, rX0_draw_30, rX0_draw_32, rX0_draw_32b, rX0_draw_33, rX0_draw_36, rX0_draw_37, rX0_draw_39, rX0_draw_40, rX0_draw_42, rX0_draw_43, rX0_draw_46, rX0_draw_46b, rX0_draw_47, rX0_draw_50, rX0_draw_52, rX0_draw_53, rX0_draw_53b, rX0_draw_54, rX0_draw_57, rX0_draw_60, rX0_draw_61, rX0_draw_62, rX0_draw_65, rX0_draw_66, rX0_draw_67, rX0_draw_68, rX0_draw_69, rX0_draw_70, rX0_draw_71, rX0_draw_77, rX0_draw_78, kS0 hs, kS1 hs, kT1 hs, fS1 hs F, kS2 hs, kT2 hs, fS2 hs F, kS3 hs, kT3 hs, fS3 hs F, kS4 hs, kT4 hs, fS4 hs F, kS5 hs, kT5 hs, fS5 hs F, kS6 hs, kT6 hs, fS6 hs F, kS7 hs, kT7 hs, fS7 hs F, kS8 hs, kT8 hs, fS8 hs F, kS9 hs, kT9 hs, fS9 hs F, kS10 hs, kT10 hs, fS10 hs F, kS11 hs, kT11 hs, fS11 hs F, nS hs, nSs hs, kA_32, kB_32, hf, pCX0_draw, pSX0_draw, pOX0_draw, pLX0_draw, w3.2.1, Int32.le_refl, kl_I, kl_J, kl_R, kl_T, kl_N, Nat.le_refl, Nat.zero_le, List.map_nil, List.map_cons, List.sum_nil, List.sum_cons, c_I, c_J, c_R, c_T, va_rf, hI_wI, hJ_wJ, hR_wR, hI_J, hI_R, hJ_I, hJ_R, hR_I, hR_J, hN_I, hN_J, hN_R, wI_I, wJ_J, upd_at, updL_at, kR_s, Option.toList, List.append_nil, List.nil_append, List.cons_append, if_true, if_false, reduceIte, Bool.false_eq_true, not_true_eq_false, not_false_eq_true, true_and, and_true, false_and, and_false,  Nat.reduceEqDiff, Nat.reduceAdd, Nat.reduceLeDiff]
    rfl
  | succ k ih =>
    intro i hi c sd f hf2 hc hsd
    have c1 : i < aN a := by omega
    have g1 : ¬ nI (aN a) ≤ nI i := nI_ge c1 (by omega)
    have v6 : vp_in (nI i) 6 := nI_vp (by omega) (by decide)
    have cl : (nI i).toNatClampNeg = i := nI_cl (by omega)
    have e3 := (w4 i c1).2.2.1
    have k3 := (ww.2.2.1 i c1).2.2.1
    have q1 := oI_none (o := causeN a t i) (fun x hx => by have := causeN_le ww c1 hx; omega)
    have w1 : cS (wI h 32 f) s a := cS_w w (by omega)
    have lt1 := sdN_lt sd
    have q2 : (nI (aBy a i) ≤ nI (sdN sd % 100)) = (aBy a i ≤ sdN sd % 100) := propext (nI_leI (by omega) (by omega))
    have f6 : f 6 = nI sd := by rw [hf2, upd_at, if_pos rfl]
    have fu : ∀ x, upd f 6 x = upd (hI h 32) 6 x := fun x => by rw [hf2, upd_upd]
    rw [drL]
    simp (implicitDefEqProofs := false) only [rX0_draw_0, rX0_draw_1, rX0_draw_2, rX0_draw_3, rX0_draw_4, rX0_draw_5, rX0_draw_5b, rX0_draw_6, rX0_draw_9, rX0_draw_12, rX0_draw_15, rX0_draw_15b, rX0_draw_16, rX0_draw_19, rX0_draw_20, rX0_draw_21, rX0_draw_24, rX0_draw_26, rX0_draw_29, rX0_draw_29b, rX0_draw_30, rX0_draw_32, rX0_draw_32b, rX0_draw_33, rX0_draw_36, rX0_draw_37, rX0_draw_39, rX0_draw_40, rX0_draw_42, rX0_draw_43, rX0_draw_46, rX0_draw_46b, rX0_draw_47, rX0_draw_50, rX0_draw_52, rX0_draw_53, rX0_draw_53b, rX0_draw_54, rX0_draw_57, rX0_draw_60, rX0_draw_61, rX0_draw_62, rX0_draw_65, rX0_draw_66, rX0_draw_67, rX0_draw_68, rX0_draw_69, rX0_draw_70, rX0_draw_71, rX0_draw_77, rX0_draw_78, kS0 hs, kS1 hs, kT1 hs, fS1 hs F, kS2 hs, kT2 hs, fS2 hs F, kS3 hs, kT3 hs, fS3 hs F, kS4 hs, kT4 hs, fS4 hs F, kS5 hs, kT5 hs, fS5 hs F, kS6 hs, kT6 hs, fS6 hs F, kS7 hs, kT7 hs, fS7 hs F, kS8 hs, kT8 hs, fS8 hs F, kS9 hs, kT9 hs, fS9 hs F, kS10 hs, kT10 hs, fS10 hs F, kS11 hs, kT11 hs, fS11 hs F, nS hs, nSs hs, kA_32, kB_32, hf, pCX0_draw, pSX0_draw, pOX0_draw, pLX0_draw, pCX4_causeOf, pSX4_causeOf, pOX4_causeOf, pLX4_causeOf, w3.2.1, g1, c_causeOf (show Fin0 (hR (wI h 32 f)) from F) w1 c1 ht, q1, f6, show ¬ (65537 : Int32) = 0 from by decide, show ¬ (100 : Int32) = 0 from by decide, sd_e hsd, sd_h lt1, v6, cl, e3, q2, fu, bt_shl (j := i) (by omega), bt_or, kl_I, kl_J, kl_R, kl_T, kl_N, Nat.le_refl, Nat.zero_le, List.map_nil, List.map_cons, List.sum_nil, List.sum_cons, c_I, c_J, c_R, c_T, va_rf, hI_wI, hJ_wJ, hR_wR, hI_J, hI_R, hJ_I, hJ_R, hR_I, hR_J, hN_I, hN_J, hN_R, wI_I, wJ_J, upd_at, updL_at, kR_s, Option.toList, List.append_nil, List.nil_append, List.cons_append, if_true, if_false, reduceIte, Bool.false_eq_true, not_true_eq_false, not_false_eq_true, true_and, and_true, false_and, and_false,  Nat.reduceEqDiff, Nat.reduceAdd, Nat.reduceLeDiff]
    by_cases c2 : causeN a t i = none
    · rw [if_pos c2, if_pos c2, rX0_draw_74, nI_1]
      exact ih (i + 1) (by omega) c sd f hf2 hc hsd
    · rw [if_neg c2, if_neg c2]
      by_cases c3 : sdN sd % 100 < aBy a i
      · have c4 : ¬ aBy a i ≤ sdN sd % 100 := by omega
        rw [if_pos c3, if_neg c4, rX0_draw_74, nI_1]
        exact ih (i + 1) (by omega) _ _ _ rfl (Nat.or_lt_two_pow hc (Nat.pow_lt_pow_right (by omega) (by omega))) lt1
      · have c4 : aBy a i ≤ sdN sd % 100 := by omega
        rw [if_neg c3, if_pos c4, rX0_draw_74, nI_1]
        exact ih (i + 1) (by omega) _ _ _ rfl hc lt1
theorem c_draw {d : Nat} {h : qH} {s t sd : Nat} {a : aS} (F : Fin0 (hR h)) (hf : hR h 32 0 = some s) (w : cS h s a) (ht : t < 64) (hsd : hI h 32 6 = nI sd) (hl : sd < 65537) : ∀ Q, WM (d + 1) mX0_draw [.ref (32 : Nat), .int (nI t)] h Q = Q (some (some (.int (nI (drN a t sd).1)))) (wI h 32 (upd (hI h 32) 6 (nI (drN a t sd).2))) := by
  intro Q
  have e : hI h 32 = upd (hI h 32) 6 (nI sd) := by
    funext j
    rw [upd_at]
    split
    · rename_i q; rw [q, hsd]
    · rfl
  have := l_draw (d := d) (Q := Q) F hf w ht (aN a) 0 (by omega) 0 sd (hI h 32) e (by omega) hl
  rw [wI_same] at this
  simp (implicitDefEqProofs := false) only [eX0_draw, rX0_draw_0, rX0_draw_1, rX0_draw_2, rX0_draw_3, kl_I, kl_J, kl_R, kl_T, kl_N, Nat.le_refl, Nat.zero_le, List.map_nil, List.map_cons, List.sum_nil, List.sum_cons, c_I, c_J, c_R, c_T, va_rf, hI_wI, hJ_wJ, hR_wR, hI_J, hI_R, hJ_I, hJ_R, hR_I, hR_J, hN_I, hN_J, hN_R, wI_I, wJ_J, upd_at, updL_at, kR_s, Option.toList, List.append_nil, List.nil_append, List.cons_append, if_true, if_false, reduceIte, Bool.false_eq_true, not_true_eq_false, not_false_eq_true, true_and, and_true, false_and, and_false,  Nat.reduceEqDiff, Nat.reduceAdd, Nat.reduceLeDiff]
  exact this
/-- own causes with days guessed for the unknown -/
def ogN (a : aS) (g : Nat → Option Nat) : Nat → Nat → Nat
  | 0 => ownN a 0 63
  | u + 1 => va_up (ogN a g u) (aUh a u) (match g u with | none => 1000 | some x => x)
theorem l_guess {d : Nat} {h : qH} {s : Nat} {a : aS} {g : Nat → Option Nat} {Q : Option (Option Value) → qH → Prop} (F : Fin0 (hR h)) (hf : hR h 32 0 = some s) (w : cS h s a) (hg : ∀ u, u < aUn a → hI h 40 u = oI (g u)) (hg9 : ∀ u, u < aUn a → ∀ x, g u = some x → x ≤ 9) : ∀ (k i : Nat), i + k = aUn a → WP (d + 1) mX0_guess (0, 0) 9 [some (.ref (32 : Nat)), some (.ref (40 : Nat)), some (.int (nI (aUn a))), some (.int (nI i))] [] (wI h 33 (fil (aN a) (nF (ogN a g i)) (hI h 33))) Q = WP (d + 1) mX0_guess (0, 0) 62 [some (.ref (32 : Nat)), some (.ref (40 : Nat)), some (.int (nI (aUn a))), some (.int (nI (aUn a)))] [] (wI h 33 (fil (aN a) (nF (ogN a g (aUn a))) (hI h 33))) Q := by
  have hs := w.1
  have ww := w.2.1
  have w3 := w.2.2.1
  have w7 := w.2.2.2.2.2.2.1
  have h6 := ww.1
  have h2 := ww.2.2.2.2.2.2.2.2.2.2.1
  intro k
  induction k with
  | zero =>
    intro i hi
    obtain rfl : i = aUn a := by omega
    simp (implicitDefEqProofs := false) only [rX0_guess_9, rX0_guess_10, rX0_guess_11, rX0_guess_14, rX0_guess_15, rX0_guess_15b, rX0_guess_16, rX0_guess_19, rX0_guess_22, rX0_guess_25, rX0_guess_25b, rX0_guess_26, rX0_guess_29, rX0_guess_29b, rX0_guess_30, rX0_guess_33, rX0_guess_36, rX0_guess_37, rX0_guess_38, rX0_guess_38b, rX0_guess_39, rX0_guess_40, rX0_guess_41, rX0_guess_43, rX0_guess_46, rX0_guess_49, rX0_guess_52, rX0_guess_52b, rX0_guess_53, rX0_guess_54, rX0_guess_55, rX0_guess_56, kS0 hs, kS1 hs, kT1 hs, fS1 hs F, kS2 hs, kT2 hs, fS2 hs F, kS3 hs, kT3 hs, fS3 hs F, kS4 hs, kT4 hs, fS4 hs F, kS5 hs, kT5 hs, fS5 hs F, kS6 hs, kT6 hs, fS6 hs F, kS7 hs, kT7 hs, fS7 hs F, kS8 hs, kT8 hs, fS8 hs F, kS9 hs, kT9 hs, fS9 hs F, kS10 hs, kT10 hs, fS10 hs F, kS11 hs, kT11 hs, fS11 hs F, nS hs, nSs hs, kA_32, kB_32, hf, pCX0_guess, pSX0_guess, pOX0_guess, pLX0_guess, w3.2.2.2.2.2.1, Int32.le_refl, kl_I, kl_J, kl_R, kl_T, kl_N, Nat.le_refl, Nat.zero_le, List.map_nil, List.map_cons, List.sum_nil, List.sum_cons, c_I, c_J, c_R, c_T, va_rf, hI_wI, hJ_wJ, hR_wR, hI_J, hI_R, hJ_I, hJ_R, hR_I, hR_J, hN_I, hN_J, hN_R, wI_I, wJ_J, upd_at, updL_at, kR_s, Option.toList, List.append_nil, List.nil_append, List.cons_append, if_true, if_false, reduceIte, Bool.false_eq_true, not_true_eq_false, not_false_eq_true, true_and, and_true, false_and, and_false,  Nat.reduceEqDiff, Nat.reduceAdd, Nat.reduceLeDiff]
  | succ k ih =>
    intro i hi
    have c1 : i < aUn a := by omega
    have g1 : ¬ nI (aUn a) ≤ nI i := nI_ge c1 (by omega)
    have v6 : vp_in (nI i) 2 := nI_vp (by omega) (by decide)
    have cl : (nI i).toNatClampNeg = i := nI_cl (by omega)
    have e7 := w7 i c1
    have k7 := ww.2.2.2.2.2.2.2.2.2.2.2.1 i c1
    have v7 : vp_in (nI (aUh a i)) 6 := nI_vp (by omega) (by decide)
    have cl7 : (nI (aUh a i)).toNatClampNeg = aUh a i := nI_cl (by omega)
    have q1 := oI_none (o := g i) (fun x hx => by have := hg9 i c1 x hx; omega)
    have i1 := ih (i + 1) (by omega)
    rw [ogN, ← nF_up, ← fil_u k7] at i1
    simp (implicitDefEqProofs := false) only [rX0_guess_9, rX0_guess_10, rX0_guess_11, rX0_guess_14, rX0_guess_15, rX0_guess_15b, rX0_guess_16, rX0_guess_19, rX0_guess_22, rX0_guess_25, rX0_guess_25b, rX0_guess_26, rX0_guess_29, rX0_guess_29b, rX0_guess_30, rX0_guess_33, rX0_guess_36, rX0_guess_37, rX0_guess_38, rX0_guess_38b, rX0_guess_39, rX0_guess_40, rX0_guess_41, rX0_guess_43, rX0_guess_46, rX0_guess_49, rX0_guess_52, rX0_guess_52b, rX0_guess_53, rX0_guess_54, rX0_guess_55, rX0_guess_56, kS0 hs, kS1 hs, kT1 hs, fS1 hs F, kS2 hs, kT2 hs, fS2 hs F, kS3 hs, kT3 hs, fS3 hs F, kS4 hs, kT4 hs, fS4 hs F, kS5 hs, kT5 hs, fS5 hs F, kS6 hs, kT6 hs, fS6 hs F, kS7 hs, kT7 hs, fS7 hs F, kS8 hs, kT8 hs, fS8 hs F, kS9 hs, kT9 hs, fS9 hs F, kS10 hs, kT10 hs, fS10 hs F, kS11 hs, kT11 hs, fS11 hs F, nS hs, nSs hs, fin_32_1 F, fin_32_2 F, fin_32_3 F, fin_32_4 F, kA_32, kB_32, kA_33, kB_33, kA_40, kB_40, hf, pCX0_guess, pSX0_guess, pOX0_guess, pLX0_guess, w3.2.2.2.2.2.1, g1, v6, cl, e7, v7, cl7, hg i c1, q1, kl_I, kl_J, kl_R, kl_T, kl_N, Nat.le_refl, Nat.zero_le, List.map_nil, List.map_cons, List.sum_nil, List.sum_cons, c_I, c_J, c_R, c_T, va_rf, hI_wI, hJ_wJ, hR_wR, hI_J, hI_R, hJ_I, hJ_R, hR_I, hR_J, hN_I, hN_J, hN_R, wI_I, wJ_J, upd_at, updL_at, kR_s, Option.toList, List.append_nil, List.nil_append, List.cons_append, if_true, if_false, reduceIte, Bool.false_eq_true, not_true_eq_false, not_false_eq_true, true_and, and_true, false_and, and_false,  Nat.reduceEqDiff, Nat.reduceAdd, Nat.reduceLeDiff]
    cases hgi : g i with
    | none =>
      simp only [hgi] at i1
      simp (implicitDefEqProofs := false) only [kl_I, kl_J, kl_R, kl_T, kl_N, Nat.le_refl, Nat.zero_le, List.map_nil, List.map_cons, List.sum_nil, List.sum_cons, c_I, c_J, c_R, c_T, va_rf, hI_wI, hJ_wJ, hR_wR, hI_J, hI_R, hJ_I, hJ_R, hR_I, hR_J, hN_I, hN_J, hN_R, wI_I, wJ_J, upd_at, updL_at, kR_s, Option.toList, List.append_nil, List.nil_append, List.cons_append, if_true, if_false, reduceIte, Bool.false_eq_true, not_true_eq_false, not_false_eq_true, true_and, and_true, false_and, and_false,  Nat.reduceEqDiff, Nat.reduceAdd, Nat.reduceLeDiff]
      rw [rX0_guess_59, nI_1]
      exact i1
    | some x =>
      simp only [hgi] at i1
      simp (implicitDefEqProofs := false) only [oI, reduceCtorEq, kl_I, kl_J, kl_R, kl_T, kl_N, Nat.le_refl, Nat.zero_le, List.map_nil, List.map_cons, List.sum_nil, List.sum_cons, c_I, c_J, c_R, c_T, va_rf, hI_wI, hJ_wJ, hR_wR, hI_J, hI_R, hJ_I, hJ_R, hR_I, hR_J, hN_I, hN_J, hN_R, wI_I, wJ_J, upd_at, updL_at, kR_s, Option.toList, List.append_nil, List.nil_append, List.cons_append, if_true, if_false, reduceIte, Bool.false_eq_true, not_true_eq_false, not_false_eq_true, true_and, and_true, false_and, and_false,  Nat.reduceEqDiff, Nat.reduceAdd, Nat.reduceLeDiff]
      rw [rX0_guess_59, nI_1]
      exact i1
theorem ogN_le {a : aS} (w : aW a) {g : Nat → Option Nat} : ∀ u, u ≤ aUn a → (∀ v, v < aUn a → ∀ x, g v = some x → x ≤ 9) → ∀ j, j < aN a → ogN a g u j ≤ 1000
  | 0, _, _, j, hj => ownN_le w hj
  | u + 1, hu, h, j, hj => by
    rw [ogN]
    simp only [va_up]
    split
    · cases hgi : g u with
      | none => exact Nat.le_refl _
      | some x => have := h u (by omega) x hgi; simp only; omega
    · exact ogN_le w u (by omega) h j hj
theorem c_guess {d : Nat} {h : qH} {s : Nat} {a : aS} {g : Nat → Option Nat} (F : Fin0 (hR h)) (hf : hR h 32 0 = some s) (w : cS h s a) (hg : ∀ u, u < aUn a → hI h 40 u = oI (g u)) (hg9 : ∀ u, u < aUn a → ∀ x, g u = some x → x ≤ 9) : ∀ Q, WM (d + 2) mX0_guess [.ref (32 : Nat), .ref (40 : Nat), .int (nI (aUn a))] h Q = Q (some none) (wI (wI h 33 (fil (aN a) (nF (ogN a g (aUn a))) (hI h 33))) 34 (fil 6 (nF (sprN a 0 none (ogN a g (aUn a)))) (hI h 34))) := by
  intro Q
  have ww := w.2.1
  have cs := c_causes (d := d) (t := 0) (c := 63) F hf w (by omega) (by omega)
  have e1 := l_guess (d := d + 1) (Q := Q) F hf w hg hg9 (aUn a) 0 (by omega)
  rw [ogN] at e1
  have w1 : cS (wI h 33 (fil (aN a) (nF (ogN a g (aUn a))) (hI h 33))) s a := cS_w w (by omega)
  have hv : ∀ j, j < aN a → hI (wI h 33 (fil (aN a) (nF (ogN a g (aUn a))) (hI h 33))) 33 j = nI (ogN a g (aUn a) j) := fun j hj => by rw [hI_wI, if_pos rfl, fil_at hj]; rfl
  have cp := c_spread (d := d + 1) (cut := 0) (wo := none) (show Fin0 (hR (wI h 33 (fil (aN a) (nF (ogN a g (aUn a))) (hI h 33)))) from F) hf w1 (by omega) (fun x hx => by cases hx) hv (ogN_le ww (aUn a) (Nat.le_refl _) hg9)
  simp only [mI] at cp
  simp (implicitDefEqProofs := false) only [eX0_guess, rX0_guess_0, rX0_guess_0b, rX0_guess_1, rX0_guess_2, rX0_guess_4, rX0_guess_7, rX0_guess_8, kA_32, kB_32, pCX0_guess, pSX0_guess, pOX0_guess, pLX0_guess, pCX0_causes, pSX0_causes, pOX0_causes, pLX0_causes, show (0 : Int32) = nI 0 from rfl, show (63 : Int32) = nI 63 from rfl, cs, kl_I, kl_J, kl_R, kl_T, kl_N, Nat.le_refl, Nat.zero_le, List.map_nil, List.map_cons, List.sum_nil, List.sum_cons, c_I, c_J, c_R, c_T, va_rf, hI_wI, hJ_wJ, hR_wR, hI_J, hI_R, hJ_I, hJ_R, hR_I, hR_J, hN_I, hN_J, hN_R, wI_I, wJ_J, upd_at, updL_at, kR_s, Option.toList, List.append_nil, List.nil_append, List.cons_append, if_true, if_false, reduceIte, Bool.false_eq_true, not_true_eq_false, not_false_eq_true, true_and, and_true, false_and, and_false,  Nat.reduceEqDiff, Nat.reduceAdd, Nat.reduceLeDiff]
  have e2 : (fil (aN a) (fun j => nI (ownN a 0 63 j)) (hI h 33)) = fil (aN a) (nF (ownN a 0 63)) (hI h 33) := rfl
  rw [e2, e1]
  simp (implicitDefEqProofs := false) only [rX0_guess_62, rX0_guess_62b, rX0_guess_63, rX0_guess_64, rX0_guess_65, rX0_guess_68, kA_32, kB_32, pCX0_guess, pSX0_guess, pOX0_guess, pLX0_guess, pCX0_spread, pSX0_spread, pOX0_spread, pLX0_spread, show (0 : Int32) = nI 0 from rfl, cp, kl_I, kl_J, kl_R, kl_T, kl_N, Nat.le_refl, Nat.zero_le, List.map_nil, List.map_cons, List.sum_nil, List.sum_cons, c_I, c_J, c_R, c_T, va_rf, hI_wI, hJ_wJ, hR_wR, hI_J, hI_R, hJ_I, hJ_R, hR_I, hR_J, hN_I, hN_J, hN_R, wI_I, wJ_J, upd_at, updL_at, kR_s, Option.toList, List.append_nil, List.nil_append, List.cons_append, if_true, if_false, reduceIte, Bool.false_eq_true, not_true_eq_false, not_false_eq_true, true_and, and_true, false_and, and_false,  Nat.reduceEqDiff, Nat.reduceAdd, Nat.reduceLeDiff]
def cnN (r : Nat → Nat) : Nat → Nat
  | 0 => 0
  | n + 1 => cnN r n + (if r n < 1000 then 1 else 0)
theorem l_burnWithout {d : Nat} {h : qH} {s : Nat} {a : aS} {r : Nat → Nat} {v1 v2 : Int32} {Q : Option (Option Value) → qH → Prop} (F : Fin0 (hR h)) (hf : hR h 32 0 = some s) (w : cS h s a) (hr : ∀ j, j < aN a → hI h 34 j = nI (r j)) (hk : ∀ j, r j ≤ 1000) : ∀ (k i : Nat), i + k = aN a → WP d mX0_burnWithout (0, 0) 25 [some (.ref (32 : Nat)), some (.int v1), some (.int v2), some (.int (nI (cnN r i))), some (.int (nI i))] [] h Q = Q (some (some (.int (nI (cnN r (aN a)))))) h := by
  have hs := w.1
  have ww := w.2.1
  have w3 := w.2.2.1
  have h6 := ww.1
  intro k
  induction k with
  | zero =>
    intro i hi
    obtain rfl : i = aN a := by omega
    simp (implicitDefEqProofs := false) only [rX0_burnWithout_25, rX0_burnWithout_27, rX0_burnWithout_27b, rX0_burnWithout_28, rX0_burnWithout_31, rX0_burnWithout_34, rX0_burnWithout_37, rX0_burnWithout_37b, rX0_burnWithout_38, rX0_burnWithout_41, rX0_burnWithout_43, rX0_burnWithout_44, rX0_burnWithout_47, rX0_burnWithout_50, rX0_burnWithout_53, rX0_burnWithout_59, rX0_burnWithout_60, kS0 hs, kS1 hs, kT1 hs, fS1 hs F, kS2 hs, kT2 hs, fS2 hs F, kS3 hs, kT3 hs, fS3 hs F, kS4 hs, kT4 hs, fS4 hs F, kS5 hs, kT5 hs, fS5 hs F, kS6 hs, kT6 hs, fS6 hs F, kS7 hs, kT7 hs, fS7 hs F, kS8 hs, kT8 hs, fS8 hs F, kS9 hs, kT9 hs, fS9 hs F, kS10 hs, kT10 hs, fS10 hs F, kS11 hs, kT11 hs, fS11 hs F, nS hs, nSs hs, kA_32, kB_32, hf, pCX0_burnWithout, pSX0_burnWithout, pOX0_burnWithout, pLX0_burnWithout, w3.2.1, Int32.le_refl, kl_I, kl_J, kl_R, kl_T, kl_N, Nat.le_refl, Nat.zero_le, List.map_nil, List.map_cons, List.sum_nil, List.sum_cons, c_I, c_J, c_R, c_T, va_rf, hI_wI, hJ_wJ, hR_wR, hI_J, hI_R, hJ_I, hJ_R, hR_I, hR_J, hN_I, hN_J, hN_R, wI_I, wJ_J, upd_at, updL_at, kR_s, Option.toList, List.append_nil, List.nil_append, List.cons_append, if_true, if_false, reduceIte, Bool.false_eq_true, not_true_eq_false, not_false_eq_true, true_and, and_true, false_and, and_false,  Nat.reduceEqDiff, Nat.reduceAdd, Nat.reduceLeDiff]
  | succ k ih =>
    intro i hi
    have c1 : i < aN a := by omega
    have g1 : ¬ nI (aN a) ≤ nI i := nI_ge c1 (by omega)
    have v6 : vp_in (nI i) 6 := nI_vp (by omega) (by decide)
    have cl : (nI i).toNatClampNeg = i := nI_cl (by omega)
    have k1 := hk i
    have i1 := ih (i + 1) (by omega)
    rw [cnN] at i1
    simp (implicitDefEqProofs := false) only [rX0_burnWithout_25, rX0_burnWithout_27, rX0_burnWithout_27b, rX0_burnWithout_28, rX0_burnWithout_31, rX0_burnWithout_34, rX0_burnWithout_37, rX0_burnWithout_37b, rX0_burnWithout_38, rX0_burnWithout_41, rX0_burnWithout_43, rX0_burnWithout_44, rX0_burnWithout_47, rX0_burnWithout_50, rX0_burnWithout_53, rX0_burnWithout_59, rX0_burnWithout_60, kS0 hs, kS1 hs, kT1 hs, fS1 hs F, kS2 hs, kT2 hs, fS2 hs F, kS3 hs, kT3 hs, fS3 hs F, kS4 hs, kT4 hs, fS4 hs F, kS5 hs, kT5 hs, fS5 hs F, kS6 hs, kT6 hs, fS6 hs F, kS7 hs, kT7 hs, fS7 hs F, kS8 hs, kT8 hs, fS8 hs F, kS9 hs, kT9 hs, fS9 hs F, kS10 hs, kT10 hs, fS10 hs F, kS11 hs, kT11 hs, fS11 hs F, nS hs, nSs hs, fin_32_1 F, fin_32_2 F, fin_32_3 F, fin_32_4 F, kA_32, kB_32, kA_34, kB_34, hf, pCX0_burnWithout, pSX0_burnWithout, pOX0_burnWithout, pLX0_burnWithout, w3.2.1, g1, v6, cl, hr i c1, nge (x := r i) (k := 1000) (c := 1000) rfl (by omega) (by omega), kl_I, kl_J, kl_R, kl_T, kl_N, Nat.le_refl, Nat.zero_le, List.map_nil, List.map_cons, List.sum_nil, List.sum_cons, c_I, c_J, c_R, c_T, va_rf, hI_wI, hJ_wJ, hR_wR, hI_J, hI_R, hJ_I, hJ_R, hR_I, hR_J, hN_I, hN_J, hN_R, wI_I, wJ_J, upd_at, updL_at, kR_s, Option.toList, List.append_nil, List.nil_append, List.cons_append, if_true, if_false, reduceIte, Bool.false_eq_true, not_true_eq_false, not_false_eq_true, true_and, and_true, false_and, and_false,  Nat.reduceEqDiff, Nat.reduceAdd, Nat.reduceLeDiff]
    by_cases c2 : r i < 1000
    · rw [if_pos c2] at i1
      rw [if_neg (by omega), rX0_burnWithout_56, nI_1, nI_1]
      exact i1
    · rw [if_neg c2] at i1
      rw [if_pos (by omega), rX0_burnWithout_56, nI_1]
      exact i1
theorem c_burnWithout {d : Nat} {h : qH} {s t x : Nat} {a : aS} (F : Fin0 (hR h)) (hf : hR h 32 0 = some s) (w : cS h s a) (ht : t < 64) (hx : x < 9) : ∃ h', (∀ Q, WM (d + 2) mX0_burnWithout [.ref (32 : Nat), .int (nI t), .int (nI x)] h Q = Q (some (some (.int (nI (cnN (sprN a (cutN a t) (some x) (ownN a t 63)) (aN a)))))) h') ∧ sx [33, 34] h h' := by
  have ww := w.2.1
  have w1 : cS (wI h 33 (fil (aN a) (fun j => nI (ownN a t 63 j)) (hI h 33))) s a := cS_w w (by omega)
  have hv : ∀ j, j < aN a → hI (wI h 33 (fil (aN a) (fun j => nI (ownN a t 63 j)) (hI h 33))) 33 j = nI (ownN a t 63 j) := fun j hj => by rw [hI_wI, if_pos rfl, fil_at hj]
  have cs := c_causes (d := d) (c := 63) F hf w ht (by omega)
  have cc := c_cutBy (d := d + 1) (t := t) (show Fin0 (hR (wI h 33 (fil (aN a) (fun j => nI (ownN a t 63 j)) (hI h 33)))) from F) w1 ht
  have cp := c_spread (d := d + 1) (wo := some x) (show Fin0 (hR (wI h 33 (fil (aN a) (fun j => nI (ownN a t 63 j)) (hI h 33)))) from F) hf w1 (cutN_lt ww t) (fun z hz => by cases hz; exact hx) hv (fun j hj => ownN_le ww hj)
  simp only [mI] at cp
  have w2 : cS (wI (wI h 33 (fil (aN a) (fun j => nI (ownN a t 63 j)) (hI h 33))) 34 (fil 6 (nF (sprN a (cutN a t) (some x) (ownN a t 63))) (hI h 34))) s a := cS_w w1 (by omega)
  refine ⟨wI (wI h 33 (fil (aN a) (fun j => nI (ownN a t 63 j)) (hI h 33))) 34 (fil 6 (nF (sprN a (cutN a t) (some x) (ownN a t 63))) (hI h 34)), fun Q => ?_, sx_w (sx_w sx_refl (by simp)) (by simp)⟩
  have l := l_burnWithout (d := d + 2) (v1 := nI t) (v2 := nI x) (Q := Q) (show Fin0 (hR (wI (wI h 33 (fil (aN a) (fun j => nI (ownN a t 63 j)) (hI h 33))) 34 (fil 6 (nF (sprN a (cutN a t) (some x) (ownN a t 63))) (hI h 34)))) from F) hf w2 (r := sprN a (cutN a t) (some x) (ownN a t 63)) (fun j hj => by rw [hI_wI, if_pos rfl, fil_at (by have := ww.1; omega)]; rfl) (fun j => sprN_le (fun _ hj => ownN_le ww hj) j) (aN a) 0 (by omega)
  simp (implicitDefEqProofs := false) only [eX0_burnWithout, rX0_burnWithout_0, rX0_burnWithout_0b, rX0_burnWithout_1, rX0_burnWithout_2, rX0_burnWithout_4, rX0_burnWithout_7, rX0_burnWithout_7b, rX0_burnWithout_8, rX0_burnWithout_8b, rX0_burnWithout_9, rX0_burnWithout_12, rX0_burnWithout_13, rX0_burnWithout_16, rX0_burnWithout_17, rX0_burnWithout_20, rX0_burnWithout_21, rX0_burnWithout_22, rX0_burnWithout_23, kS0 w.1, kS1 w.1, kT1 w.1, fS1 w.1 F, kS2 w.1, kT2 w.1, fS2 w.1 F, kS3 w.1, kT3 w.1, fS3 w.1 F, kS4 w.1, kT4 w.1, fS4 w.1 F, kS5 w.1, kT5 w.1, fS5 w.1 F, kS6 w.1, kT6 w.1, fS6 w.1 F, kS7 w.1, kT7 w.1, fS7 w.1 F, kS8 w.1, kT8 w.1, fS8 w.1 F, kS9 w.1, kT9 w.1, fS9 w.1 F, kS10 w.1, kT10 w.1, fS10 w.1 F, kS11 w.1, kT11 w.1, fS11 w.1 F, nS w.1, nSs w.1, fin_32_1 F, fin_32_2 F, fin_32_3 F, fin_32_4 F, kA_32, kB_32, kA_33, kB_33, kA_34, kB_34, hf, pCX0_burnWithout, pSX0_burnWithout, pOX0_burnWithout, pLX0_burnWithout, pCX0_causes, pSX0_causes, pOX0_causes, pLX0_causes, pCX4_cutBy, pSX4_cutBy, pOX4_cutBy, pLX4_cutBy, pCX0_spread, pSX0_spread, pOX0_spread, pLX0_spread, show (63 : Int32) = nI 63 from rfl, cs, cc, cp, kl_I, kl_J, kl_R, kl_T, kl_N, Nat.le_refl, Nat.zero_le, List.map_nil, List.map_cons, List.sum_nil, List.sum_cons, c_I, c_J, c_R, c_T, va_rf, hI_wI, hJ_wJ, hR_wR, hI_J, hI_R, hJ_I, hJ_R, hR_I, hR_J, hN_I, hN_J, hN_R, wI_I, wJ_J, upd_at, updL_at, kR_s, Option.toList, List.append_nil, List.nil_append, List.cons_append, if_true, if_false, reduceIte, Bool.false_eq_true, not_true_eq_false, not_false_eq_true, true_and, and_true, false_and, and_false,  Nat.reduceEqDiff, Nat.reduceAdd, Nat.reduceLeDiff]
  exact l
