/-! ===== the model: what fits ===== -/
theorem l_fitCodes {d : Nat} {h : qH} {s : Nat} {a : aS} (k : mK h s a) {Q : Option (Option Value) → qH → Prop} : ∀ (m i : Nat), i + m = aUn a → WP d mX9_fitCodes (0, 0) 4 [some (.ref (44 : Nat)), some (.int (nI (11 ^ i))), some (.int (nI i))] [] h Q = Q (some (some (.int (nI (11 ^ aUn a))))) h := by
  have hs := k.2.2.1.1
  have e1 := k.2.2.1.2.2.2.1.2.2.2.2.2.2.1
  have u2 := k.2.2.1.2.2.1.2.2.2.2.2.2.2.2.2.2.1
  intro m
  induction m with
  | zero =>
    intro i hi
    obtain rfl : i = aUn a := by omega
    simp (implicitDefEqProofs := false) only [rX9_fitCodes_4, rX9_fitCodes_5, rX9_fitCodes_5b, rX9_fitCodes_6, rX9_fitCodes_9, rX9_fitCodes_12, rX9_fitCodes_15, rX9_fitCodes_16, rX9_fitCodes_18, rX9_fitCodes_19, rX9_fitCodes_26, rX9_fitCodes_27, kA_44, kB_44, kU0 hs, nU hs, k.2.1, e1, pCX9_fitCodes, pSX9_fitCodes, pOX9_fitCodes, pLX9_fitCodes, Int32.le_refl, kl_I, kl_J, kl_R, kl_T, kl_N, Nat.le_refl, Nat.zero_le, List.map_nil, List.map_cons, List.sum_nil, List.sum_cons, c_I, c_J, c_R, c_T, va_rf, hI_wI, hJ_wJ, hR_wR, hI_J, hI_R, hJ_I, hJ_R, hR_I, hR_J, hN_I, hN_J, hN_R, wI_I, wJ_J, upd_at, updL_at, kR_s, Option.toList, List.append_nil, List.nil_append, List.cons_append, if_true, if_false, reduceIte, Bool.false_eq_true, not_true_eq_false, not_false_eq_true, true_and, and_true, false_and, and_false, true_or, or_true,  Nat.reduceEqDiff, Nat.reduceAdd, Nat.reduceLeDiff]
  | succ m ih =>
    intro i hi
    have g1 : ¬ nI (aUn a) ≤ nI i := nI_ge (by omega) (by omega)
    have i1 := ih (i + 1) (by omega)
    rw [Nat.pow_succ] at i1
    have ml : nI (11 ^ i) * 11 = nI (11 ^ i * 11) := nI_mul _ 11
    simp (implicitDefEqProofs := false) only [rX9_fitCodes_4, rX9_fitCodes_5, rX9_fitCodes_5b, rX9_fitCodes_6, rX9_fitCodes_9, rX9_fitCodes_12, rX9_fitCodes_15, rX9_fitCodes_16, rX9_fitCodes_18, rX9_fitCodes_19, kA_44, kB_44, kU0 hs, nU hs, k.2.1, e1, g1, ml, pCX9_fitCodes, pSX9_fitCodes, pOX9_fitCodes, pLX9_fitCodes, kl_I, kl_J, kl_R, kl_T, kl_N, Nat.le_refl, Nat.zero_le, List.map_nil, List.map_cons, List.sum_nil, List.sum_cons, c_I, c_J, c_R, c_T, va_rf, hI_wI, hJ_wJ, hR_wR, hI_J, hI_R, hJ_I, hJ_R, hR_I, hR_J, hN_I, hN_J, hN_R, wI_I, wJ_J, upd_at, updL_at, kR_s, Option.toList, List.append_nil, List.nil_append, List.cons_append, if_true, if_false, reduceIte, Bool.false_eq_true, not_true_eq_false, not_false_eq_true, true_and, and_true, false_and, and_false, true_or, or_true,  Nat.reduceEqDiff, Nat.reduceAdd, Nat.reduceLeDiff]
    rw [rX9_fitCodes_20, nI_1]
    simp (implicitDefEqProofs := false) only [rX9_fitCodes_23, kl_I, kl_J, kl_R, kl_T, kl_N, Nat.le_refl, Nat.zero_le, List.map_nil, List.map_cons, List.sum_nil, List.sum_cons, c_I, c_J, c_R, c_T, va_rf, hI_wI, hJ_wJ, hR_wR, hI_J, hI_R, hJ_I, hJ_R, hR_I, hR_J, hN_I, hN_J, hN_R, wI_I, wJ_J, upd_at, updL_at, kR_s, Option.toList, List.append_nil, List.nil_append, List.cons_append, if_true, if_false, reduceIte, Bool.false_eq_true, not_true_eq_false, not_false_eq_true, true_and, and_true, false_and, and_false, true_or, or_true,  Nat.reduceEqDiff, Nat.reduceAdd, Nat.reduceLeDiff]
    exact i1
theorem c_fitCodes {d : Nat} {h : qH} {s : Nat} {a : aS} (k : mK h s a) : ∀ Q, WM d mX9_fitCodes [.ref (44 : Nat)] h Q = Q (some (some (.int (nI (11 ^ aUn a))))) h := by
  intro Q
  have l := l_fitCodes (d := d) (Q := Q) k (aUn a) 0 (by omega)
  rw [Nat.pow_zero] at l
  simp (implicitDefEqProofs := false) only [eX9_fitCodes, rX9_fitCodes_0, rX9_fitCodes_1, rX9_fitCodes_2, rX9_fitCodes_3, kl_I, kl_J, kl_R, kl_T, kl_N, Nat.le_refl, Nat.zero_le, List.map_nil, List.map_cons, List.sum_nil, List.sum_cons, c_I, c_J, c_R, c_T, va_rf, hI_wI, hJ_wJ, hR_wR, hI_J, hI_R, hJ_I, hJ_R, hR_I, hR_J, hN_I, hN_J, hN_R, wI_I, wJ_J, upd_at, updL_at, kR_s, Option.toList, List.append_nil, List.nil_append, List.cons_append, if_true, if_false, reduceIte, Bool.false_eq_true, not_true_eq_false, not_false_eq_true, true_and, and_true, false_and, and_false, true_or, or_true,  Nat.reduceEqDiff, Nat.reduceAdd, Nat.reduceLeDiff]
  exact l
theorem c_fitDay {d : Nat} {h : qH} {s g u : Nat} {a : aS} (k : mK h s a) (hg : g < 11 ^ aUn a) (hu : u < aUn a) : ∀ Q, WM d mX9_fitDay [.ref (44 : Nat), .int (nI g), .int (nI u)] h Q = Q (some (some (.int (oI (gdN a g u))))) h := by
  intro Q
  have hs := k.2.2.1.1
  have e1 := k.2.2.1.2.2.2.1.2.2.2.2.2.2.1
  have u2 := k.2.2.1.2.2.1.2.2.2.2.2.2.2.2.2.2.1
  have g121 : g < 121 := Nat.lt_of_lt_of_le hg (p11 k.2.2.1.2.2.1)
  have su : nI (aUn a) - 1 = nI (aUn a - 1) := by rw [show (1 : Int32) = nI 1 from rfl, pk_sub (by omega)]
  have d1 : nI g / 11 = nI (g / 11) := pk_div (d := 11) (by omega) (by omega) (by omega)
  have z : ¬ (11 : Int32) = 0 := by decide
  unfold gdN
  by_cases c : u + 1 < aUn a
  · obtain ⟨rfl, un⟩ : u = 0 ∧ aUn a = 2 := by omega
    have lt : g / 11 < 11 := by omega
    rw [un] at e1 su
    have r1 : nI (g / 11) - nI (g / 11) / 11 * 11 = nI (g / 11 % 11) := pk_rem (d := 11) (by omega) (by omega) (by omega)
    rw [Nat.mod_eq_of_lt lt] at r1
    have q1 : (nI (g / 11) = 10) = (g / 11 = 10) := nq (x := g / 11) (k := 10) (c := 10) rfl (by omega) (by omega)
    rw [if_pos c]
    by_cases c3 : g / 11 = 10
    · rw [if_pos c3]
      simp (implicitDefEqProofs := false) only [eX9_fitDay, rX9_fitDay_0, rX9_fitDay_1, rX9_fitDay_2, rX9_fitDay_2b, rX9_fitDay_3, rX9_fitDay_6, rX9_fitDay_9, rX9_fitDay_10, rX9_fitDay_11, rX9_fitDay_13, rX9_fitDay_15, rX9_fitDay_16, rX9_fitDay_19, rX9_fitDay_20, rX9_fitDay_22, rX9_fitDay_23, kA_44, kB_44, kU0 hs, nU hs, k.2.1, e1, su, show ¬ nI (2 - 1) ≤ nI 0 from by decide, z, d1, pCX9_fitDay, pSX9_fitDay, pOX9_fitDay, pLX9_fitDay, kl_I, kl_J, kl_R, kl_T, kl_N, Nat.le_refl, Nat.zero_le, List.map_nil, List.map_cons, List.sum_nil, List.sum_cons, c_I, c_J, c_R, c_T, va_rf, hI_wI, hJ_wJ, hR_wR, hI_J, hI_R, hJ_I, hJ_R, hR_I, hR_J, hN_I, hN_J, hN_R, wI_I, wJ_J, upd_at, updL_at, kR_s, Option.toList, List.append_nil, List.nil_append, List.cons_append, if_true, if_false, reduceIte, Bool.false_eq_true, not_true_eq_false, not_false_eq_true, true_and, and_true, false_and, and_false, true_or, or_true,  Nat.reduceEqDiff, Nat.reduceAdd, Nat.reduceLeDiff]
      rw [rX9_fitDay_24]
      simp (implicitDefEqProofs := false) only [rX9_fitDay_13, rX9_fitDay_15, rX9_fitDay_16, rX9_fitDay_27, rX9_fitDay_30, rX9_fitDay_31, rX9_fitDay_33, rX9_fitDay_34, rX9_fitDay_36, rX9_fitDay_39, rX9_fitDay_41, rX9_fitDay_44, rX9_fitDay_45, rX9_fitDay_47, rX9_fitDay_48, show nI (2 - 1) + -1 = nI 0 from by decide, Int32.le_refl, z, r1, q1.trans (eq_true c3), oI_no, pCX9_fitDay, pSX9_fitDay, pOX9_fitDay, pLX9_fitDay, kl_I, kl_J, kl_R, kl_T, kl_N, Nat.le_refl, Nat.zero_le, List.map_nil, List.map_cons, List.sum_nil, List.sum_cons, c_I, c_J, c_R, c_T, va_rf, hI_wI, hJ_wJ, hR_wR, hI_J, hI_R, hJ_I, hJ_R, hR_I, hR_J, hN_I, hN_J, hN_R, wI_I, wJ_J, upd_at, updL_at, kR_s, Option.toList, List.append_nil, List.nil_append, List.cons_append, if_true, if_false, reduceIte, Bool.false_eq_true, not_true_eq_false, not_false_eq_true, true_and, and_true, false_and, and_false, true_or, or_true,  Nat.reduceEqDiff, Nat.reduceAdd, Nat.reduceLeDiff]
    · rw [if_neg c3]
      simp (implicitDefEqProofs := false) only [eX9_fitDay, rX9_fitDay_0, rX9_fitDay_1, rX9_fitDay_2, rX9_fitDay_2b, rX9_fitDay_3, rX9_fitDay_6, rX9_fitDay_9, rX9_fitDay_10, rX9_fitDay_11, rX9_fitDay_13, rX9_fitDay_15, rX9_fitDay_16, rX9_fitDay_19, rX9_fitDay_20, rX9_fitDay_22, rX9_fitDay_23, kA_44, kB_44, kU0 hs, nU hs, k.2.1, e1, su, show ¬ nI (2 - 1) ≤ nI 0 from by decide, z, d1, pCX9_fitDay, pSX9_fitDay, pOX9_fitDay, pLX9_fitDay, kl_I, kl_J, kl_R, kl_T, kl_N, Nat.le_refl, Nat.zero_le, List.map_nil, List.map_cons, List.sum_nil, List.sum_cons, c_I, c_J, c_R, c_T, va_rf, hI_wI, hJ_wJ, hR_wR, hI_J, hI_R, hJ_I, hJ_R, hR_I, hR_J, hN_I, hN_J, hN_R, wI_I, wJ_J, upd_at, updL_at, kR_s, Option.toList, List.append_nil, List.nil_append, List.cons_append, if_true, if_false, reduceIte, Bool.false_eq_true, not_true_eq_false, not_false_eq_true, true_and, and_true, false_and, and_false, true_or, or_true,  Nat.reduceEqDiff, Nat.reduceAdd, Nat.reduceLeDiff]
      rw [rX9_fitDay_24]
      simp (implicitDefEqProofs := false) only [rX9_fitDay_13, rX9_fitDay_15, rX9_fitDay_16, rX9_fitDay_27, rX9_fitDay_30, rX9_fitDay_31, rX9_fitDay_33, rX9_fitDay_34, rX9_fitDay_36, rX9_fitDay_39, rX9_fitDay_41, rX9_fitDay_44, rX9_fitDay_45, rX9_fitDay_47, rX9_fitDay_48, show nI (2 - 1) + -1 = nI 0 from by decide, Int32.le_refl, z, r1, q1, c3, oI_so, pCX9_fitDay, pSX9_fitDay, pOX9_fitDay, pLX9_fitDay, kl_I, kl_J, kl_R, kl_T, kl_N, Nat.le_refl, Nat.zero_le, List.map_nil, List.map_cons, List.sum_nil, List.sum_cons, c_I, c_J, c_R, c_T, va_rf, hI_wI, hJ_wJ, hR_wR, hI_J, hI_R, hJ_I, hJ_R, hR_I, hR_J, hN_I, hN_J, hN_R, wI_I, wJ_J, upd_at, updL_at, kR_s, Option.toList, List.append_nil, List.nil_append, List.cons_append, if_true, if_false, reduceIte, Bool.false_eq_true, not_true_eq_false, not_false_eq_true, true_and, and_true, false_and, and_false, true_or, or_true,  Nat.reduceEqDiff, Nat.reduceAdd, Nat.reduceLeDiff]
  · have eu : aUn a - 1 = u := by omega
    rw [eu] at su
    rw [if_neg c]
    have r1 : nI g - nI (g / 11) * 11 = nI (g % 11) := by
      have := pk_rem (d := 11) (a := g) (by omega) (by omega) (by omega)
      rw [← this, ← d1]
      rfl
    have q1 : (nI (g % 11) = 10) = (g % 11 = 10) := nq (x := g % 11) (k := 10) (c := 10) rfl (by omega) (by omega)
    by_cases c3 : g % 11 = 10
    · rw [if_pos c3]
      simp (implicitDefEqProofs := false) only [eX9_fitDay, rX9_fitDay_0, rX9_fitDay_1, rX9_fitDay_2, rX9_fitDay_2b, rX9_fitDay_3, rX9_fitDay_6, rX9_fitDay_9, rX9_fitDay_10, rX9_fitDay_11, rX9_fitDay_13, rX9_fitDay_15, rX9_fitDay_16, rX9_fitDay_30, rX9_fitDay_31, rX9_fitDay_33, rX9_fitDay_34, rX9_fitDay_36, rX9_fitDay_39, rX9_fitDay_41, rX9_fitDay_44, rX9_fitDay_45, rX9_fitDay_47, rX9_fitDay_48, kA_44, kB_44, kU0 hs, nU hs, k.2.1, e1, su, Int32.le_refl, z, d1, r1, q1.trans (eq_true c3), oI_no, pCX9_fitDay, pSX9_fitDay, pOX9_fitDay, pLX9_fitDay, kl_I, kl_J, kl_R, kl_T, kl_N, Nat.le_refl, Nat.zero_le, List.map_nil, List.map_cons, List.sum_nil, List.sum_cons, c_I, c_J, c_R, c_T, va_rf, hI_wI, hJ_wJ, hR_wR, hI_J, hI_R, hJ_I, hJ_R, hR_I, hR_J, hN_I, hN_J, hN_R, wI_I, wJ_J, upd_at, updL_at, kR_s, Option.toList, List.append_nil, List.nil_append, List.cons_append, if_true, if_false, reduceIte, Bool.false_eq_true, not_true_eq_false, not_false_eq_true, true_and, and_true, false_and, and_false, true_or, or_true,  Nat.reduceEqDiff, Nat.reduceAdd, Nat.reduceLeDiff]
    · rw [if_neg c3]
      simp (implicitDefEqProofs := false) only [eX9_fitDay, rX9_fitDay_0, rX9_fitDay_1, rX9_fitDay_2, rX9_fitDay_2b, rX9_fitDay_3, rX9_fitDay_6, rX9_fitDay_9, rX9_fitDay_10, rX9_fitDay_11, rX9_fitDay_13, rX9_fitDay_15, rX9_fitDay_16, rX9_fitDay_30, rX9_fitDay_31, rX9_fitDay_33, rX9_fitDay_34, rX9_fitDay_36, rX9_fitDay_39, rX9_fitDay_41, rX9_fitDay_44, rX9_fitDay_45, rX9_fitDay_47, rX9_fitDay_48, kA_44, kB_44, kU0 hs, nU hs, k.2.1, e1, su, Int32.le_refl, z, d1, r1, q1, c3, oI_so, pCX9_fitDay, pSX9_fitDay, pOX9_fitDay, pLX9_fitDay, kl_I, kl_J, kl_R, kl_T, kl_N, Nat.le_refl, Nat.zero_le, List.map_nil, List.map_cons, List.sum_nil, List.sum_cons, c_I, c_J, c_R, c_T, va_rf, hI_wI, hJ_wJ, hR_wR, hI_J, hI_R, hJ_I, hJ_R, hR_I, hR_J, hN_I, hN_J, hN_R, wI_I, wJ_J, upd_at, updL_at, kR_s, Option.toList, List.append_nil, List.nil_append, List.cons_append, if_true, if_false, reduceIte, Bool.false_eq_true, not_true_eq_false, not_false_eq_true, true_and, and_true, false_and, and_false, true_or, or_true,  Nat.reduceEqDiff, Nat.reduceAdd, Nat.reduceLeDiff]
/-- the days, with some guessed -/
def uF (G : Nat → Int32) (a : aS) (g u : Nat) : Prop := (∀ j, j < aN a → G j = oI (shN (ogN a (gdN a g) u j))) ∧ G 6 = nI 0 ∧ G 8 = nI (aPu a)
theorem og_6 {a : aS} (w : aW a) {g : Nat} (hg : g < 121) : ∀ u, own6 a (ogN a (gdN a g) u)
  | 0 => own_6 w
  | u + 1 => by
    intro j hj
    rw [ogN]
    unfold va_up
    split
    · cases hd : gdN a g u with
      | none => exact .inl rfl
      | some x => have := gdN_le hg hd; exact .inr (by simp only; omega)
    · exact og_6 w hg u j hj
theorem l_fu {d : Nat} {h : qH} {s g : Nat} {a : aS} {y : Int32} (k : mK h s a) (hg : g < 11 ^ aUn a) : ∀ (m u : Nat), u + m = aUn a → ∀ (G : Nat → Int32), uF G a g u → ∃ G', uF G' a g (aUn a) ∧ ∀ o4 Q, WP (d + 1) mX9_fitting (0, 0) 48 [some (.ref (44 : Nat)), some (.int y), some (.int (nI g)), some (.int (nI u)), o4] [] (wI h 47 G) Q = WP (d + 1) mX9_fitting (0, 0) 85 [some (.ref (44 : Nat)), some (.int y), some (.int (nI g)), some (.int (nI (aUn a))), o4] [] (wI h 47 G') Q := by
  have hs := k.2.2.1.1
  have f := k.2.2.1.2.1
  have ww := k.2.2.1.2.2.1
  have h6 := ww.1
  have F := k.1
  have e1 := k.2.2.1.2.2.2.1.2.2.2.2.2.2.1
  have u2 := ww.2.2.2.2.2.2.2.2.2.2.1
  have g121 : g < 121 := Nat.lt_of_lt_of_le hg (p11 ww)
  intro m
  induction m with
  | zero =>
    intro u hu G hG
    obtain rfl : u = aUn a := by omega
    refine ⟨G, hG, fun o4 Q => ?_⟩
    simp (implicitDefEqProofs := false) only [rX9_fitting_48, rX9_fitting_49, rX9_fitting_49b, rX9_fitting_50, rX9_fitting_53, rX9_fitting_56, rX9_fitting_59, rX9_fitting_59b, rX9_fitting_60, rX9_fitting_63, rX9_fitting_63b, rX9_fitting_64, rX9_fitting_67, rX9_fitting_70, rX9_fitting_71, rX9_fitting_72, rX9_fitting_72b, rX9_fitting_73, rX9_fitting_74, rX9_fitting_75, rX9_fitting_78, kA_44, kB_44, kA_47, kB_47, kU0 hs, nU hs, k.2.1, e1, pCX9_fitting, pSX9_fitting, pOX9_fitting, pLX9_fitting, Int32.le_refl, kl_I, kl_J, kl_R, kl_T, kl_N, Nat.le_refl, Nat.zero_le, List.map_nil, List.map_cons, List.sum_nil, List.sum_cons, c_I, c_J, c_R, c_T, va_rf, hI_wI, hJ_wJ, hR_wR, hI_J, hI_R, hJ_I, hJ_R, hR_I, hR_J, hN_I, hN_J, hN_R, wI_I, wJ_J, upd_at, updL_at, kR_s, Option.toList, List.append_nil, List.nil_append, List.cons_append, if_true, if_false, reduceIte, Bool.false_eq_true, not_true_eq_false, not_false_eq_true, true_and, and_true, false_and, and_false, true_or, or_true,  Nat.reduceEqDiff, Nat.reduceAdd, Nat.reduceLeDiff]
  | succ m ih =>
    intro u hu G hG
    have hlt : u < aUn a := by omega
    have g1 : ¬ nI (aUn a) ≤ nI u := nI_ge hlt (by omega)
    have uh := k.2.2.1.2.2.2.2.2.2.2.1 u hlt
    have ul := ww.2.2.2.2.2.2.2.2.2.2.2.1 u hlt
    have k1 : mK (wI h 47 G) s a := mK_sx k (sx_w (L := [47]) sx_refl (by simp)) (by decide)
    have fd := c_fitDay (d := d) (g := g) (u := u) k1 hg hlt
    have v2 : vp_in (nI u) 2 := nI_vp (by omega) (by decide)
    have cl : (nI u).toNatClampNeg = u := nI_cl (by omega)
    have v10 : vp_in (nI (aUh a u)) 10 := nI_vp (by omega) (by decide)
    have cl2 : (nI (aUh a u)).toNatClampNeg = aUh a u := nI_cl (by omega)
    have hG' : uF (upd G (aUh a u) (oI (gdN a g u))) a g (u + 1) := by
      refine ⟨fun j hj => ?_, by rw [upd_at, if_neg (by omega)]; exact hG.2.1, by rw [upd_at, if_neg (by omega)]; exact hG.2.2⟩
      rw [upd_at, ogN]
      unfold va_up
      by_cases c : j = aUh a u
      · rw [if_pos c, if_pos c]
        cases hd : gdN a g u with
        | none => rfl
        | some x =>
          have := gdN_le g121 hd
          simp only [shN]
          rw [if_neg (by omega)]
      · rw [if_neg c, if_neg c]; exact hG.1 j hj
    obtain ⟨G', h1, h2⟩ := ih (u + 1) (by omega) _ hG'
    refine ⟨G', h1, fun o4 Q => ?_⟩
    have h2 := h2 o4 Q
    simp (implicitDefEqProofs := false) only [rX9_fitting_48, rX9_fitting_49, rX9_fitting_49b, rX9_fitting_50, rX9_fitting_53, rX9_fitting_56, rX9_fitting_59, rX9_fitting_59b, rX9_fitting_60, rX9_fitting_63, rX9_fitting_63b, rX9_fitting_64, rX9_fitting_67, rX9_fitting_70, rX9_fitting_71, rX9_fitting_72, rX9_fitting_72b, rX9_fitting_73, rX9_fitting_74, rX9_fitting_75, rX9_fitting_78, kA_44, kB_44, kA_47, kB_47, fin_44_5 F, fin_44_15 F, fin_44_16 F, fin_44_17 F, fin_44_18 F, fin_44_21 F, fin_44_23 F, fin_44_24 F, fin_44_25 F, fin_44_29 F, fin_44_33 F, kU0 hs, kU1 hs, kV1 hs, fU1 f, kU2 hs, kV2 hs, fU2 f, kU3 hs, kV3 hs, fU3 f, kU4 hs, kV4 hs, fU4 f, kU5 hs, kV5 hs, fU5 f, kU6 hs, kV6 hs, fU6 f, kU7 hs, kV7 hs, fU7 f, kU8 hs, kV8 hs, fU8 f, kU9 hs, kV9 hs, fU9 f, kU10 hs, kV10 hs, fU10 f, kU11 hs, kV11 hs, fU11 f, kU12 hs, kV12 hs, fU12 f, nU hs, nUk hs, k.2.1, e1, g1, uh, v2, cl, fd, v10, cl2, pCX9_fitting, pSX9_fitting, pOX9_fitting, pLX9_fitting, pCX9_fitDay, pSX9_fitDay, pOX9_fitDay, pLX9_fitDay, kl_I, kl_J, kl_R, kl_T, kl_N, Nat.le_refl, Nat.zero_le, List.map_nil, List.map_cons, List.sum_nil, List.sum_cons, c_I, c_J, c_R, c_T, va_rf, hI_wI, hJ_wJ, hR_wR, hI_J, hI_R, hJ_I, hJ_R, hR_I, hR_J, hN_I, hN_J, hN_R, wI_I, wJ_J, upd_at, updL_at, kR_s, Option.toList, List.append_nil, List.nil_append, List.cons_append, if_true, if_false, reduceIte, Bool.false_eq_true, not_true_eq_false, not_false_eq_true, true_and, and_true, false_and, and_false, true_or, or_true,  Nat.reduceEqDiff, Nat.reduceAdd, Nat.reduceLeDiff]
    rw [rX9_fitting_79, nI_1]
    simp (implicitDefEqProofs := false) only [rX9_fitting_82, kl_I, kl_J, kl_R, kl_T, kl_N, Nat.le_refl, Nat.zero_le, List.map_nil, List.map_cons, List.sum_nil, List.sum_cons, c_I, c_J, c_R, c_T, va_rf, hI_wI, hJ_wJ, hR_wR, hI_J, hI_R, hJ_I, hJ_R, hR_I, hR_J, hN_I, hN_J, hN_R, wI_I, wJ_J, upd_at, updL_at, kR_s, Option.toList, List.append_nil, List.nil_append, List.cons_append, if_true, if_false, reduceIte, Bool.false_eq_true, not_true_eq_false, not_false_eq_true, true_and, and_true, false_and, and_false, true_or, or_true,  Nat.reduceEqDiff, Nat.reduceAdd, Nat.reduceLeDiff]
    exact h2
theorem as_wr {a : aS} {r : Nat → Nat} : ∀ k i, asR a r k i = true ↔ wrL a r k i = none
  | 0, i => by simp [asR, wrL]
  | k + 1, i => by
    rw [asR, wrL]
    by_cases c : sooN (aN a) r (aPu a) (aRd a i) = aRf a i
    · rw [if_pos c, if_pos c]; exact as_wr k (i + 1)
    · rw [if_neg c, if_neg c]; simp
theorem wr_lt {a : aS} {r : Nat → Nat} : ∀ k i x, wrL a r k i = some x → x < i + k
  | 0, i, x, h => by rw [wrL] at h; cases h
  | k + 1, i, x, h => by
    rw [wrL] at h
    split at h
    · have := wr_lt k (i + 1) x h; omega
    · cases h; omega
theorem c_wrong {d : Nat} {h : qH} {s g : Nat} {a : aS} (k : mK h s a) (hg : g < 121) (u : uF (hI h 47) a g (aUn a)) : ∃ h', (∀ Q, WM (d + 3) mX9_wrong [.ref (44 : Nat)] h Q = Q (some (some (.int (oI (wrL a (gRow a g) (aRu a) 0))))) h') ∧ sx [50] h h' ∧ atR h' a (gRow a g) := by
  have ww := k.2.2.1.2.2.1
  have cb := c_burnsAll (d := d) (cut := 0) (wo := none) k.1 k.2.1 k.2.2.1 (by omega) (fun y hy => by cases hy) u.1 (og_6 ww hg (aUn a)) u.2.1 k.2.2.2
  have x1 : sx [50] h (wI h 50 (fil (aN a) (f9 (sprN a 0 none (ogN a (gdN a g) (aUn a)))) (hI h 50))) := sx_w sx_refl (by simp)
  have k1 := mK_sx k x1 (by decide)
  have at1 : atR (wI h 50 (fil (aN a) (f9 (sprN a 0 none (ogN a (gdN a g) (aUn a)))) (hI h 50))) a (gRow a g) := at_mk ww (og_6 ww hg (aUn a))
  have l := fun Q => l_wrong (d := d + 1) (Q := Q) k1.1 k1.2.1 k1.2.2.1 at1 (by rw [hI_wI, if_neg (by decide)]; exact u.2.2) (aRu a) 0 (by omega)
  refine ⟨_, fun Q => ?_, x1, at1⟩
  have l := l Q
  simp (implicitDefEqProofs := false) only [eX9_wrong, rX9_wrong_0, rX9_wrong_0b, rX9_wrong_1, rX9_wrong_4, rX9_wrong_5, kA_44, kB_44, cb, pCX9_wrong, pSX9_wrong, pOX9_wrong, pLX9_wrong, pCX9_burnsAll, pSX9_burnsAll, pOX9_burnsAll, pLX9_burnsAll, kl_I, kl_J, kl_R, kl_T, kl_N, Nat.le_refl, Nat.zero_le, List.map_nil, List.map_cons, List.sum_nil, List.sum_cons, c_I, c_J, c_R, c_T, va_rf, hI_wI, hJ_wJ, hR_wR, hI_J, hI_R, hJ_I, hJ_R, hR_I, hR_J, hN_I, hN_J, hN_R, wI_I, wJ_J, upd_at, updL_at, kR_s, Option.toList, List.append_nil, List.nil_append, List.cons_append, if_true, if_false, reduceIte, Bool.false_eq_true, not_true_eq_false, not_false_eq_true, true_and, and_true, false_and, and_false, true_or, or_true,  Nat.reduceEqDiff, Nat.reduceAdd, Nat.reduceLeDiff]
  exact l
def cnG (G : Nat → Int32) (a : aS) (L : List Nat) (g t : Nat) : Prop := ∀ u, u ≤ 90 → ∀ p, p ≤ 6 → G (7 * u + p) = nI (ctN (lfF a L u) p L.length + (if u < t ∧ plN (soG a g u) = p then 1 else 0))
theorem l_fd {d : Nat} {h : qH} {s g c : Nat} {a : aS} {y : Int32} {L : List Nat} (k : mK h s a) (at0 : atR h a (gRow a g)) (e8 : hI h 47 8 = nI (aPu a)) : ∀ (m t : Nat), t + m = 91 → ∀ (G : Nat → Int32), cnG G a L g t → ∃ G', cnG G' a L g 91 ∧ ∀ o4 Q X, (∀ p4, WP (d + 2) mX9_fitting (0, 0) 169 [some (.ref (44 : Nat)), some (.int y), some (.int (nI c)), some (.int (nI 91)), p4] [] (wI h 53 G') Q = X) → WP (d + 2) mX9_fitting (0, 0) 122 [some (.ref (44 : Nat)), some (.int y), some (.int (nI c)), some (.int (nI t)), o4] [] (wI h 53 G) Q = X := by
  have ww := k.2.2.1.2.2.1
  have h6 := ww.1
  have p64 := p6 h6
  have pu := ww.2.2.2.1
  have F := k.1
  intro m
  induction m with
  | zero =>
    intro t ht G hG
    obtain rfl : t = 91 := by omega
    refine ⟨G, hG, fun o4 Q X hX => ?_⟩
    have hX := hX o4
    simp (implicitDefEqProofs := false) only [rX9_fitting_122, rX9_fitting_123, rX9_fitting_125, rX9_fitting_128, rX9_fitting_128b, rX9_fitting_129, rX9_fitting_130, rX9_fitting_133, rX9_fitting_135, rX9_fitting_135b, rX9_fitting_136, rX9_fitting_139, rX9_fitting_141, rX9_fitting_142, rX9_fitting_143, rX9_fitting_145, rX9_fitting_147, rX9_fitting_150, rX9_fitting_152, rX9_fitting_155, rX9_fitting_157, rX9_fitting_158, rX9_fitting_159, rX9_fitting_160, rX9_fitting_161, rX9_fitting_162, show (90 : Int32) < nI 91 from by decide, pCX9_fitting, pSX9_fitting, pOX9_fitting, pLX9_fitting, kl_I, kl_J, kl_R, kl_T, kl_N, Nat.le_refl, Nat.zero_le, List.map_nil, List.map_cons, List.sum_nil, List.sum_cons, c_I, c_J, c_R, c_T, va_rf, hI_wI, hJ_wJ, hR_wR, hI_J, hI_R, hJ_I, hJ_R, hR_I, hR_J, hN_I, hN_J, hN_R, wI_I, wJ_J, upd_at, updL_at, kR_s, Option.toList, List.append_nil, List.nil_append, List.cons_append, if_true, if_false, reduceIte, Bool.false_eq_true, not_true_eq_false, not_false_eq_true, true_and, and_true, false_and, and_false, true_or, or_true,  Nat.reduceEqDiff, Nat.reduceAdd, Nat.reduceLeDiff]
    exact hX
  | succ m ih =>
    intro t ht G hG
    have x1 : sx [53] h (wI h 53 G) := sx_w sx_refl (by simp)
    have k1 := mK_sx k x1 (by decide)
    have at1 := at_sx at0 x1 (by decide)
    have nx : ∀ Q, WM (d + 1) mX9_nextOn [.ref (44 : Nat), .int (nI t)] (wI h 53 G) Q = Q (some (some (.int (oI (soG a g t))))) (wI h 53 G) := c_nextOn (d := d) (y := t) k1.1 k1.2.1 k1.2.2.1 at1 (by omega) (by omega) (by rw [hI_wI, if_neg (by decide)]; exact e8)
    have g1 : ¬ (90 : Int32) < nI t := by rw [ngt (x := t) (k := 90) (c := 90) rfl (by omega) (by omega)]; omega
    have m7 : 7 * nI t = nI (7 * t) := by rw [show (7 : Int32) = nI 7 from rfl, nI_mul]
    have pl6 : plN (soG a g t) ≤ 6 := by
      cases hs : soG a g t with
      | none => exact Nat.le_refl _
      | some x => have := soo_lt hs; simp only [plN]; omega
    have vx : vp_in (nI (7 * t + plN (soG a g t))) 637 := nI_vp (by omega) (by decide)
    have clx : (nI (7 * t + plN (soG a g t))).toNatClampNeg = 7 * t + plN (soG a g t) := nI_cl (by omega)
    have rd := hG t (by omega) (plN (soG a g t)) pl6
    rw [if_neg (by omega), Nat.add_zero] at rd
    have hG' : cnG (upd G (7 * t + plN (soG a g t)) (nI (ctN (lfF a L t) (plN (soG a g t)) L.length + 1))) a L g (t + 1) := by
      intro u hu p hp
      rw [upd_at]
      by_cases c : 7 * u + p = 7 * t + plN (soG a g t)
      · rw [if_pos c]
        obtain ⟨rfl, rfl⟩ : u = t ∧ p = plN (soG a g t) := by omega
        rw [if_pos ⟨by omega, rfl⟩]
      · rw [if_neg c, hG u hu p hp]
        by_cases c2 : u < t ∧ plN (soG a g u) = p
        · rw [if_pos c2, if_pos ⟨by omega, c2.2⟩]
        · rw [if_neg c2, if_neg]
          rintro ⟨q1, q2⟩
          by_cases e : u = t
          · subst e; omega
          · exact c2 ⟨by omega, q2⟩
    obtain ⟨G', h1, h2⟩ := ih (t + 1) (by omega) _ hG'
    refine ⟨G', h1, fun o4 Q X hX => ?_⟩
    have h2 := h2 (some (.int (oI (soG a g t)))) Q X hX
    cases hs : soG a g t with
    | none =>
      rw [hs] at h2 nx
      simp only [hs, plN] at vx clx rd h2
      simp (implicitDefEqProofs := false) only [rX9_fitting_122, rX9_fitting_123, rX9_fitting_125, rX9_fitting_128, rX9_fitting_128b, rX9_fitting_129, rX9_fitting_130, rX9_fitting_133, rX9_fitting_135, rX9_fitting_135b, rX9_fitting_136, rX9_fitting_139, rX9_fitting_141, rX9_fitting_142, rX9_fitting_143, rX9_fitting_145, rX9_fitting_147, rX9_fitting_150, rX9_fitting_152, rX9_fitting_155, rX9_fitting_157, rX9_fitting_158, rX9_fitting_159, rX9_fitting_160, rX9_fitting_161, rX9_fitting_162, kA_44, kB_44, kA_53, kB_53, fin_44_5 F, fin_44_15 F, fin_44_16 F, fin_44_17 F, fin_44_18 F, fin_44_21 F, fin_44_23 F, fin_44_24 F, fin_44_25 F, fin_44_29 F, fin_44_33 F, g1, nx, m7, oI_no, show (6 : Int32) = nI 6 from rfl, nI_add, vx, clx, rd, nI_1, pCX9_fitting, pSX9_fitting, pOX9_fitting, pLX9_fitting, pCX9_nextOn, pSX9_nextOn, pOX9_nextOn, pLX9_nextOn, kl_I, kl_J, kl_R, kl_T, kl_N, Nat.le_refl, Nat.zero_le, List.map_nil, List.map_cons, List.sum_nil, List.sum_cons, c_I, c_J, c_R, c_T, va_rf, hI_wI, hJ_wJ, hR_wR, hI_J, hI_R, hJ_I, hJ_R, hR_I, hR_J, hN_I, hN_J, hN_R, wI_I, wJ_J, upd_at, updL_at, kR_s, Option.toList, List.append_nil, List.nil_append, List.cons_append, if_true, if_false, reduceIte, Bool.false_eq_true, not_true_eq_false, not_false_eq_true, true_and, and_true, false_and, and_false, true_or, or_true,  Nat.reduceEqDiff, Nat.reduceAdd, Nat.reduceLeDiff]
      rw [rX9_fitting_163, nI_1]
      simp (implicitDefEqProofs := false) only [rX9_fitting_166, kl_I, kl_J, kl_R, kl_T, kl_N, Nat.le_refl, Nat.zero_le, List.map_nil, List.map_cons, List.sum_nil, List.sum_cons, c_I, c_J, c_R, c_T, va_rf, hI_wI, hJ_wJ, hR_wR, hI_J, hI_R, hJ_I, hJ_R, hR_I, hR_J, hN_I, hN_J, hN_R, wI_I, wJ_J, upd_at, updL_at, kR_s, Option.toList, List.append_nil, List.nil_append, List.cons_append, if_true, if_false, reduceIte, Bool.false_eq_true, not_true_eq_false, not_false_eq_true, true_and, and_true, false_and, and_false, true_or, or_true,  Nat.reduceEqDiff, Nat.reduceAdd, Nat.reduceLeDiff]
      exact h2
    | some x =>
      have xl := soo_lt hs
      have nn := nN (x := x) (k := 0) (by omega)
      rw [hs] at h2 nx
      simp only [hs, plN] at vx clx rd h2
      simp (implicitDefEqProofs := false) only [rX9_fitting_122, rX9_fitting_123, rX9_fitting_125, rX9_fitting_128, rX9_fitting_128b, rX9_fitting_129, rX9_fitting_130, rX9_fitting_133, rX9_fitting_135, rX9_fitting_135b, rX9_fitting_136, rX9_fitting_139, rX9_fitting_141, rX9_fitting_142, rX9_fitting_143, rX9_fitting_145, rX9_fitting_147, rX9_fitting_150, rX9_fitting_152, rX9_fitting_155, rX9_fitting_157, rX9_fitting_158, rX9_fitting_159, rX9_fitting_160, rX9_fitting_161, rX9_fitting_162, kA_44, kB_44, kA_53, kB_53, fin_44_5 F, fin_44_15 F, fin_44_16 F, fin_44_17 F, fin_44_18 F, fin_44_21 F, fin_44_23 F, fin_44_24 F, fin_44_25 F, fin_44_29 F, fin_44_33 F, g1, nx, m7, oI_so, nn, nI_add, vx, clx, rd, nI_1, pCX9_fitting, pSX9_fitting, pOX9_fitting, pLX9_fitting, pCX9_nextOn, pSX9_nextOn, pOX9_nextOn, pLX9_nextOn, kl_I, kl_J, kl_R, kl_T, kl_N, Nat.le_refl, Nat.zero_le, List.map_nil, List.map_cons, List.sum_nil, List.sum_cons, c_I, c_J, c_R, c_T, va_rf, hI_wI, hJ_wJ, hR_wR, hI_J, hI_R, hJ_I, hJ_R, hR_I, hR_J, hN_I, hN_J, hN_R, wI_I, wJ_J, upd_at, updL_at, kR_s, Option.toList, List.append_nil, List.nil_append, List.cons_append, if_true, if_false, reduceIte, Bool.false_eq_true, not_true_eq_false, not_false_eq_true, true_and, and_true, false_and, and_false, true_or, or_true,  Nat.reduceEqDiff, Nat.reduceAdd, Nat.reduceLeDiff]
      rw [rX9_fitting_163, nI_1]
      simp (implicitDefEqProofs := false) only [rX9_fitting_166, kl_I, kl_J, kl_R, kl_T, kl_N, Nat.le_refl, Nat.zero_le, List.map_nil, List.map_cons, List.sum_nil, List.sum_cons, c_I, c_J, c_R, c_T, va_rf, hI_wI, hJ_wJ, hR_wR, hI_J, hI_R, hJ_I, hJ_R, hR_I, hR_J, hN_I, hN_J, hN_R, wI_I, wJ_J, upd_at, updL_at, kR_s, Option.toList, List.append_nil, List.nil_append, List.cons_append, if_true, if_false, reduceIte, Bool.false_eq_true, not_true_eq_false, not_false_eq_true, true_and, and_true, false_and, and_false, true_or, or_true,  Nat.reduceEqDiff, Nat.reduceAdd, Nat.reduceLeDiff]
      exact h2
def foI (y : Int32) (L : List Nat) : Int32 := match ix y L.length with
  | none => -1
  | some i => nI (L.getD i 0)
def FI (h : qH) (a : aS) (y : Int32) (L : List Nat) : Prop := hI h 44 26 = nI L.length ∧ hI h 44 27 = foI y L ∧ ∀ t, t ≤ 90 → ∀ p, p ≤ 6 → hI h 53 (7 * t + p) = nI (ctN (lfF a L t) p L.length)
theorem FI_mv {h h' : qH} {a : aS} {y : Int32} {L : List Nat} (f : FI h a y L) (e1 : hI h' 44 26 = hI h 44 26) (e2 : hI h' 44 27 = hI h 44 27) (e3 : hI h' 53 = hI h 53) : FI h' a y L := by
  unfold FI
  rw [e1, e2, e3]
  exact f
theorem ct_app {a : aS} {L : List Nat} {g t p : Nat} : ctN (lfF a (L ++ [g]) t) p (L ++ [g]).length = ctN (lfF a L t) p L.length + (if plN (soG a g t) = p then 1 else 0) := by
  have key : ∀ n, n ≤ L.length → ctN (lfF a (L ++ [g]) t) p n = ctN (lfF a L t) p n := by
    intro n
    induction n with
    | zero => intro _; rfl
    | succ n ih =>
      intro hn
      rw [ctN, ctN, ih (by omega)]
      have : lfF a (L ++ [g]) t n = lfF a L t n := by
        unfold lfF
        rw [show (L ++ [g]).getD n 0 = L.getD n 0 from by
          simp only [List.getD_eq_getElem?_getD]
          rw [List.getElem?_append_left (by omega)]]
      rw [this]
  rw [List.length_append, List.length_singleton, ctN, key _ (Nat.le_refl _)]
  have : lfF a (L ++ [g]) t L.length = plN (soG a g t) := by
    unfold lfF
    rw [show (L ++ [g]).getD L.length 0 = g from by simp [List.getD_eq_getElem?_getD]]
  rw [this]
theorem fo_app {y : Int32} {L : List Nat} {g : Nat} (hl : L.length < 1000) : foI y (L ++ [g]) = if nI L.length = y then nI g else foI y L := by
  unfold foI
  rw [List.length_append, List.length_singleton]
  by_cases c : nI L.length = y
  · rw [if_pos c, ← c, ix_i (by omega) (by omega)]
    simp [List.getD_eq_getElem?_getD]
  · rw [if_neg c]
    cases hx : ix y L.length with
    | none =>
      have e : ix y (L.length + 1) = none := by
        cases hy : ix y (L.length + 1) with
        | none => rfl
        | some j =>
          obtain ⟨rfl, hj⟩ := ix_s (by omega) hy
          by_cases ej : j = L.length
          · rw [ej] at c; exact absurd rfl c
          · rw [ix_i (by omega) (by omega)] at hx; cases hx
      rw [e]
    | some i =>
      obtain ⟨rfl, hi⟩ := ix_s (by omega) hx
      rw [ix_i (by omega) (by omega)]
      simp only [List.getD_eq_getElem?_getD]
      rw [List.getElem?_append_left hi]
theorem fiB_t {a : aS} {n : Nat} (h : asRung a n = true) : fiB a (n + 1) = fiB a n ++ [n] := by
  unfold fiB
  rw [List.range_succ, List.filter_append]
  simp [h]
theorem fiB_f {a : aS} {n : Nat} (h : ¬ asRung a n = true) : fiB a (n + 1) = fiB a n := by
  unfold fiB
  rw [List.range_succ, List.filter_append]
  simp [h]
set_option maxHeartbeats 1000000 in
theorem l_fit {d : Nat} {s : Nat} {a : aS} {y : Int32} : ∀ (m c : Nat), c + m = 11 ^ aUn a → ∀ (h : qH), mK h s a → FI h a y (fiB a c) → ∃ h', (∀ o3 o4 Q, WP (d + 4) mX9_fitting (0, 0) 34 [some (.ref (44 : Nat)), some (.int y), some (.int (nI c)), o3, o4] [] h Q = Q (some none) h') ∧ kp h h' ∧ FI h' a y (fiL a) := by
  intro m
  induction m with
  | zero =>
    intro c hc h k f
    obtain rfl : c = 11 ^ aUn a := by omega
    have fc := c_fitCodes (d := d + 3) k
    refine ⟨h, fun o3 o4 Q => ?_, kp_refl, f⟩
    simp (implicitDefEqProofs := false) only [rX9_fitting_34, rX9_fitting_35, rX9_fitting_35b, rX9_fitting_36, rX9_fitting_39, rX9_fitting_42, rX9_fitting_42b, rX9_fitting_43, rX9_fitting_46, rX9_fitting_47, rX9_fitting_175, kA_44, kB_44, fc, pCX9_fitting, pSX9_fitting, pOX9_fitting, pLX9_fitting, pCX9_fitCodes, pSX9_fitCodes, pOX9_fitCodes, pLX9_fitCodes, Int32.le_refl, kl_I, kl_J, kl_R, kl_T, kl_N, Nat.le_refl, Nat.zero_le, List.map_nil, List.map_cons, List.sum_nil, List.sum_cons, c_I, c_J, c_R, c_T, va_rf, hI_wI, hJ_wJ, hR_wR, hI_J, hI_R, hJ_I, hJ_R, hR_I, hR_J, hN_I, hN_J, hN_R, wI_I, wJ_J, upd_at, updL_at, kR_s, Option.toList, List.append_nil, List.nil_append, List.cons_append, if_true, if_false, reduceIte, Bool.false_eq_true, not_true_eq_false, not_false_eq_true, true_and, and_true, false_and, and_false, true_or, or_true,  Nat.reduceEqDiff, Nat.reduceAdd, Nat.reduceLeDiff]
  | succ m ih =>
    intro c hc h k f
    have ww := k.2.2.1.2.2.1
    have p121 := p11 ww
    have fc := c_fitCodes (d := d + 3) k
    have g1 : ¬ nI (11 ^ aUn a) ≤ nI c := nI_ge (by omega) (by omega)
    obtain ⟨G, e1, vG⟩ := c_asTold (d := d + 3) k.1 k.2.1 k.2.2.1
    have u0 : uF G a c 0 := ⟨fun j hj => by rw [vG.1 j hj]; exact own_c ww hj, by rw [vG.2.1, cutN_0], vG.2.2.2.1⟩
    obtain ⟨G', u1, e2⟩ := l_fu (d := d + 3) (y := y) k (g := c) (by omega) (aUn a) 0 (by omega) G u0
    have x1 : sx [47] h (wI h 47 G') := sx_w sx_refl (by simp)
    have k1 := mK_sx k x1 (by decide)
    obtain ⟨h2, e3, x2, a2⟩ := c_wrong (d := d) (g := c) k1 (by omega) (by rw [hI_wI, if_pos rfl]; exact u1)
    have k2 := mK_sx k1 x2 (by decide)
    have kk : kp h h2 := kp_tr (kp_sx x1 (by decide)) (kp_sx x2 (by decide))
    have c44 : hI h2 44 = hI h 44 := by rw [x2.2.2.2 44 (by decide), x1.2.2.2 44 (by decide)]
    have c53 : hI h2 53 = hI h 53 := by rw [x2.2.2.2 53 (by decide), x1.2.2.2 53 (by decide)]
    have st : ∀ o3 o4 Q X, WP (d + 4) mX9_fitting (0, 0) 89 [some (.ref (44 : Nat)), some (.int y), some (.int (nI c)), some (.int (nI (aUn a))), o4] [.int (oI (wrL a (gRow a c) (aRu a) 0))] h2 Q = X → WP (d + 4) mX9_fitting (0, 0) 34 [some (.ref (44 : Nat)), some (.int y), some (.int (nI c)), o3, o4] [] h Q = X := fun o3 o4 Q X hX => by
      have e2 := e2 o4 Q
      simp (implicitDefEqProofs := false) only [rX9_fitting_34, rX9_fitting_35, rX9_fitting_35b, rX9_fitting_36, rX9_fitting_39, rX9_fitting_42, rX9_fitting_42b, rX9_fitting_43, rX9_fitting_46, rX9_fitting_47, kA_44, kB_44, fc, g1, e1, pCX9_fitting, pSX9_fitting, pOX9_fitting, pLX9_fitting, pCX9_fitCodes, pSX9_fitCodes, pOX9_fitCodes, pLX9_fitCodes, pCX9_asTold, pSX9_asTold, pOX9_asTold, pLX9_asTold, kl_I, kl_J, kl_R, kl_T, kl_N, Nat.le_refl, Nat.zero_le, List.map_nil, List.map_cons, List.sum_nil, List.sum_cons, c_I, c_J, c_R, c_T, va_rf, hI_wI, hJ_wJ, hR_wR, hI_J, hI_R, hJ_I, hJ_R, hR_I, hR_J, hN_I, hN_J, hN_R, wI_I, wJ_J, upd_at, updL_at, kR_s, Option.toList, List.append_nil, List.nil_append, List.cons_append, if_true, if_false, reduceIte, Bool.false_eq_true, not_true_eq_false, not_false_eq_true, true_and, and_true, false_and, and_false, true_or, or_true,  Nat.reduceEqDiff, Nat.reduceAdd, Nat.reduceLeDiff]
      rw [← nI_0, e2]
      simp (implicitDefEqProofs := false) only [rX9_fitting_85, rX9_fitting_85b, rX9_fitting_86, kA_44, kB_44, e3, pCX9_fitting, pSX9_fitting, pOX9_fitting, pLX9_fitting, pCX9_wrong, pSX9_wrong, pOX9_wrong, pLX9_wrong, kl_I, kl_J, kl_R, kl_T, kl_N, Nat.le_refl, Nat.zero_le, List.map_nil, List.map_cons, List.sum_nil, List.sum_cons, c_I, c_J, c_R, c_T, va_rf, hI_wI, hJ_wJ, hR_wR, hI_J, hI_R, hJ_I, hJ_R, hR_I, hR_J, hN_I, hN_J, hN_R, wI_I, wJ_J, upd_at, updL_at, kR_s, Option.toList, List.append_nil, List.nil_append, List.cons_append, if_true, if_false, reduceIte, Bool.false_eq_true, not_true_eq_false, not_false_eq_true, true_and, and_true, false_and, and_false, true_or, or_true,  Nat.reduceEqDiff, Nat.reduceAdd, Nat.reduceLeDiff]
      exact hX
    by_cases hr : asRung a c = true
    · have hw : wrL a (gRow a c) (aRu a) 0 = none := (as_wr _ _).mp hr
      rw [hw, oI_no] at st
      have fl := fiB_len (a := a) (n := c)
      obtain ⟨f1, f2, f3⟩ := f
      -- found, counted
      have fo := fo_app (y := y) (L := fiB a c) (g := c) (by omega)
      have hfin : ∃ A, (A 26 = nI ((fiB a c).length + 1) ∧ A 27 = foI y (fiB a c ++ [c]) ∧ ∀ j, j ≠ 26 → j ≠ 27 → A j = hI h2 44 j) ∧ ∀ o4 Q X, WP (d + 4) mX9_fitting (0, 0) 122 [some (.ref (44 : Nat)), some (.int y), some (.int (nI c)), some (.int (nI 0)), o4] [] (wI h2 44 A) Q = X → WP (d + 4) mX9_fitting (0, 0) 89 [some (.ref (44 : Nat)), some (.int y), some (.int (nI c)), some (.int (nI (aUn a))), o4] [.int (-2)] h2 Q = X := by
        by_cases cy : nI (fiB a c).length = y
        · rw [if_pos cy] at fo
          refine ⟨upd (upd (hI h2 44) 27 (nI c)) 26 (nI ((fiB a c).length + 1)), ⟨by rw [upd_at, if_pos rfl], by rw [upd_at, if_neg (by decide), upd_at, if_pos rfl, fo], fun j h1 h2 => by rw [upd_at, if_neg h1, upd_at, if_neg h2]⟩, fun o4 Q X hX => ?_⟩
          have r26 : hI h2 44 26 = nI (fiB a c).length := by rw [c44]; exact f1
          simp (implicitDefEqProofs := false) only [rX9_fitting_89, rX9_fitting_91, rX9_fitting_94, rX9_fitting_97, rX9_fitting_97b, rX9_fitting_98, rX9_fitting_101, rX9_fitting_102, rX9_fitting_105, rX9_fitting_105b, rX9_fitting_106, rX9_fitting_107, rX9_fitting_110, rX9_fitting_110b, rX9_fitting_111, rX9_fitting_111b, rX9_fitting_112, rX9_fitting_115, rX9_fitting_116, rX9_fitting_117, rX9_fitting_120, rX9_fitting_121, kA_44, kB_44, r26, eq_true cy, nI_1, pCX9_fitting, pSX9_fitting, pOX9_fitting, pLX9_fitting, kl_I, kl_J, kl_R, kl_T, kl_N, Nat.le_refl, Nat.zero_le, List.map_nil, List.map_cons, List.sum_nil, List.sum_cons, c_I, c_J, c_R, c_T, va_rf, hI_wI, hJ_wJ, hR_wR, hI_J, hI_R, hJ_I, hJ_R, hR_I, hR_J, hN_I, hN_J, hN_R, wI_I, wJ_J, upd_at, updL_at, kR_s, Option.toList, List.append_nil, List.nil_append, List.cons_append, if_true, if_false, reduceIte, Bool.false_eq_true, not_true_eq_false, not_false_eq_true, true_and, and_true, false_and, and_false, true_or, or_true,  Nat.reduceEqDiff, Nat.reduceAdd, Nat.reduceLeDiff]
          rw [← nI_0]
          exact hX
        · rw [if_neg cy] at fo
          refine ⟨upd (hI h2 44) 26 (nI ((fiB a c).length + 1)), ⟨by rw [upd_at, if_pos rfl], by rw [upd_at, if_neg (by decide), fo, c44, f2], fun j h1 h2 => by rw [upd_at, if_neg h1]⟩, fun o4 Q X hX => ?_⟩
          have r26 : hI h2 44 26 = nI (fiB a c).length := by rw [c44]; exact f1
          simp (implicitDefEqProofs := false) only [rX9_fitting_89, rX9_fitting_91, rX9_fitting_94, rX9_fitting_97, rX9_fitting_97b, rX9_fitting_98, rX9_fitting_101, rX9_fitting_102, rX9_fitting_105, rX9_fitting_105b, rX9_fitting_106, rX9_fitting_107, rX9_fitting_110, rX9_fitting_110b, rX9_fitting_111, rX9_fitting_111b, rX9_fitting_112, rX9_fitting_115, rX9_fitting_116, rX9_fitting_117, rX9_fitting_120, rX9_fitting_121, kA_44, kB_44, r26, cy, nI_1, pCX9_fitting, pSX9_fitting, pOX9_fitting, pLX9_fitting, kl_I, kl_J, kl_R, kl_T, kl_N, Nat.le_refl, Nat.zero_le, List.map_nil, List.map_cons, List.sum_nil, List.sum_cons, c_I, c_J, c_R, c_T, va_rf, hI_wI, hJ_wJ, hR_wR, hI_J, hI_R, hJ_I, hJ_R, hR_I, hR_J, hN_I, hN_J, hN_R, wI_I, wJ_J, upd_at, updL_at, kR_s, Option.toList, List.append_nil, List.nil_append, List.cons_append, if_true, if_false, reduceIte, Bool.false_eq_true, not_true_eq_false, not_false_eq_true, true_and, and_true, false_and, and_false, true_or, or_true,  Nat.reduceEqDiff, Nat.reduceAdd, Nat.reduceLeDiff]
          rw [← nI_0]
          exact hX
      obtain ⟨A, ⟨A1, A2, A3⟩, e4⟩ := hfin
      have kA : kp h2 (wI h2 44 A) := ⟨rfl, rfl, fun b hb => ⟨by rw [hI_wI, if_neg (fun q => hb (by rw [q]; simp))], rfl⟩, fun j hj => by rw [hI_wI, if_pos rfl, A3 j (fun q => by subst q; revert hj; decide) (fun q => by subst q; revert hj; decide)]⟩
      have k3 : mK (wI h2 44 A) s a := mK_kq k2 (kq_kp kA)
      have at3 : atR (wI h2 44 A) a (gRow a c) := by
        unfold atR
        rw [hI_wI, if_neg (by decide)]
        exact a2
      have e83 : hI (wI h2 44 A) 47 8 = nI (aPu a) := by
        rw [hI_wI, if_neg (by decide), x2.2.2.2 47 (by decide), hI_wI, if_pos rfl]
        exact u1.2.2
      obtain ⟨G2, c2, e5⟩ := l_fd (d := d + 2) (y := y) (c := c) (g := c) (L := fiB a c) k3 at3 e83 91 0 (by omega) (hI h 53) (fun u hu p hp => by rw [if_neg (by omega), Nat.add_zero]; exact f3 u hu p hp)
      have k4 : kp (wI h2 44 A) (wI (wI h2 44 A) 53 G2) := ⟨rfl, rfl, fun b hb => ⟨by rw [hI_wI, if_neg (fun q => hb (by rw [q]; simp))], rfl⟩, fun j hj => by rw [hI_wI, if_neg (by decide)]⟩
      have k5 : mK (wI (wI h2 44 A) 53 G2) s a := mK_kq k3 (kq_kp k4)
      have FI5 : FI (wI (wI h2 44 A) 53 G2) a y (fiB a (c + 1)) := by
        rw [fiB_t hr]
        refine ⟨?_, ?_, fun t ht p hp => ?_⟩
        · rw [hI_wI, if_neg (by decide), hI_wI, if_pos rfl, A1, List.length_append, List.length_singleton]
        · rw [hI_wI, if_neg (by decide), hI_wI, if_pos rfl, A2]
        · rw [hI_wI, if_pos rfl, c2 t ht p hp, ct_app]
          congr 2
          by_cases q : plN (soG a c t) = p
          · rw [if_pos ⟨by omega, q⟩, if_pos q]
          · rw [if_neg (fun z => q z.2), if_neg q]
      obtain ⟨h9, e9, k9, f9'⟩ := ih (c + 1) (by omega) (wI (wI h2 44 A) 53 G2) k5 FI5
      refine ⟨h9, fun o3 o4 Q => ?_, kp_tr kk (kp_tr kA (kp_tr k4 k9)), f9'⟩
      refine st o3 o4 Q _ (e4 o4 Q _ ?_)
      have w53 : wI h2 44 A = wI (wI h2 44 A) 53 (hI h 53) := by
        rw [← c53]
        have : hI h2 53 = hI (wI h2 44 A) 53 := by rw [hI_wI, if_neg (by decide)]
        rw [this, wI_same]
      rw [w53]
      refine e5 o4 Q _ (fun p4 => ?_)
      rw [rX9_fitting_169, nI_1]
      simp (implicitDefEqProofs := false) only [rX9_fitting_172, kl_I, kl_J, kl_R, kl_T, kl_N, Nat.le_refl, Nat.zero_le, List.map_nil, List.map_cons, List.sum_nil, List.sum_cons, c_I, c_J, c_R, c_T, va_rf, hI_wI, hJ_wJ, hR_wR, hI_J, hI_R, hJ_I, hJ_R, hR_I, hR_J, hN_I, hN_J, hN_R, wI_I, wJ_J, upd_at, updL_at, kR_s, Option.toList, List.append_nil, List.nil_append, List.cons_append, if_true, if_false, reduceIte, Bool.false_eq_true, not_true_eq_false, not_false_eq_true, true_and, and_true, false_and, and_false, true_or, or_true,  Nat.reduceEqDiff, Nat.reduceAdd, Nat.reduceLeDiff]
      exact e9 _ _ Q
    · have hw : ¬ wrL a (gRow a c) (aRu a) 0 = none := fun q => hr ((as_wr _ _).mpr q)
      have qw := oI_none (o := wrL a (gRow a c) (aRu a) 0) (fun x hx => by have := wr_lt _ _ _ hx; have := ww.2.2.2.2.2.2.2.2.2.2.2.2.2.1; omega)
      obtain ⟨h9, e9, k9, f9'⟩ := ih (c + 1) (by omega) h2 k2 (by rw [fiB_f hr]; exact FI_mv f (by rw [c44]) (by rw [c44]) c53)
      refine ⟨h9, fun o3 o4 Q => ?_, kp_tr kk k9, f9'⟩
      refine st o3 o4 Q _ ?_
      have e9 := e9 (some (.int (nI (aUn a)))) o4 Q
      simp (implicitDefEqProofs := false) only [rX9_fitting_89, rX9_fitting_91, rX9_fitting_94, qw, hw, pCX9_fitting, pSX9_fitting, pOX9_fitting, pLX9_fitting, kl_I, kl_J, kl_R, kl_T, kl_N, Nat.le_refl, Nat.zero_le, List.map_nil, List.map_cons, List.sum_nil, List.sum_cons, c_I, c_J, c_R, c_T, va_rf, hI_wI, hJ_wJ, hR_wR, hI_J, hI_R, hJ_I, hJ_R, hR_I, hR_J, hN_I, hN_J, hN_R, wI_I, wJ_J, upd_at, updL_at, kR_s, Option.toList, List.append_nil, List.nil_append, List.cons_append, if_true, if_false, reduceIte, Bool.false_eq_true, not_true_eq_false, not_false_eq_true, true_and, and_true, false_and, and_false, true_or, or_true,  Nat.reduceEqDiff, Nat.reduceAdd, Nat.reduceLeDiff]
      rw [rX9_fitting_169, nI_1]
      simp (implicitDefEqProofs := false) only [rX9_fitting_172, kl_I, kl_J, kl_R, kl_T, kl_N, Nat.le_refl, Nat.zero_le, List.map_nil, List.map_cons, List.sum_nil, List.sum_cons, c_I, c_J, c_R, c_T, va_rf, hI_wI, hJ_wJ, hR_wR, hI_J, hI_R, hJ_I, hJ_R, hR_I, hR_J, hN_I, hN_J, hN_R, wI_I, wJ_J, upd_at, updL_at, kR_s, Option.toList, List.append_nil, List.nil_append, List.cons_append, if_true, if_false, reduceIte, Bool.false_eq_true, not_true_eq_false, not_false_eq_true, true_and, and_true, false_and, and_false, true_or, or_true,  Nat.reduceEqDiff, Nat.reduceAdd, Nat.reduceLeDiff]
      exact e9
theorem l_fz {d : Nat} {h : qH} {y : Int32} {o3 o4 : Option Value} (F : Fin0 (hR h)) {Q : Option (Option Value) → qH → Prop} : ∀ (k i : Nat), i + k = 637 → WP d mX9_fitting (0, 0) 12 [some (.ref (44 : Nat)), some (.int y), some (.int (nI i)), o3, o4] [] (wI h 53 (fil i (fun _ => 0) (hI h 53))) Q = WP d mX9_fitting (0, 0) 32 [some (.ref (44 : Nat)), some (.int y), some (.int 637), o3, o4] [] (wI h 53 (fil 637 (fun _ => 0) (hI h 53))) Q := by
  intro k
  induction k with
  | zero =>
    intro i hi
    obtain rfl : i = 637 := by omega
    simp (implicitDefEqProofs := false) only [rX9_fitting_12, rX9_fitting_13, rX9_fitting_16, rX9_fitting_19, rX9_fitting_19b, rX9_fitting_20, rX9_fitting_23, rX9_fitting_24, rX9_fitting_25, pCX9_fitting, pSX9_fitting, pOX9_fitting, pLX9_fitting, show nI 637 = 637 from rfl, Int32.le_refl, kl_I, kl_J, kl_R, kl_T, kl_N, Nat.le_refl, Nat.zero_le, List.map_nil, List.map_cons, List.sum_nil, List.sum_cons, c_I, c_J, c_R, c_T, va_rf, hI_wI, hJ_wJ, hR_wR, hI_J, hI_R, hJ_I, hJ_R, hR_I, hR_J, hN_I, hN_J, hN_R, wI_I, wJ_J, upd_at, updL_at, kR_s, Option.toList, List.append_nil, List.nil_append, List.cons_append, if_true, if_false, reduceIte, Bool.false_eq_true, not_true_eq_false, not_false_eq_true, true_and, and_true, false_and, and_false, true_or, or_true,  Nat.reduceEqDiff, Nat.reduceAdd, Nat.reduceLeDiff]
  | succ k ih =>
    intro i hi
    have v10 : vp_in (nI i) 637 := nI_vp (by omega) (by decide)
    have cl : (nI i).toNatClampNeg = i := nI_cl (by omega)
    have i1 := ih (i + 1) (by omega)
    rw [← fil_s] at i1
    simp (implicitDefEqProofs := false) only [rX9_fitting_12, rX9_fitting_13, rX9_fitting_16, rX9_fitting_19, rX9_fitting_19b, rX9_fitting_20, rX9_fitting_23, rX9_fitting_24, rX9_fitting_25, kA_44, kB_44, kA_53, kB_53, fin_44_5 F, fin_44_15 F, fin_44_16 F, fin_44_17 F, fin_44_18 F, fin_44_21 F, fin_44_23 F, fin_44_24 F, fin_44_25 F, fin_44_29 F, fin_44_33 F, nge (x := i) (k := 637) (c := 637) rfl (by omega) (by omega), show ¬ 637 ≤ i from by omega, v10, cl, pCX9_fitting, pSX9_fitting, pOX9_fitting, pLX9_fitting, kl_I, kl_J, kl_R, kl_T, kl_N, Nat.le_refl, Nat.zero_le, List.map_nil, List.map_cons, List.sum_nil, List.sum_cons, c_I, c_J, c_R, c_T, va_rf, hI_wI, hJ_wJ, hR_wR, hI_J, hI_R, hJ_I, hJ_R, hR_I, hR_J, hN_I, hN_J, hN_R, wI_I, wJ_J, upd_at, updL_at, kR_s, Option.toList, List.append_nil, List.nil_append, List.cons_append, if_true, if_false, reduceIte, Bool.false_eq_true, not_true_eq_false, not_false_eq_true, true_and, and_true, false_and, and_false, true_or, or_true,  Nat.reduceEqDiff, Nat.reduceAdd, Nat.reduceLeDiff]
    rw [rX9_fitting_26, nI_1]
    simp (implicitDefEqProofs := false) only [rX9_fitting_29, kl_I, kl_J, kl_R, kl_T, kl_N, Nat.le_refl, Nat.zero_le, List.map_nil, List.map_cons, List.sum_nil, List.sum_cons, c_I, c_J, c_R, c_T, va_rf, hI_wI, hJ_wJ, hR_wR, hI_J, hI_R, hJ_I, hJ_R, hR_I, hR_J, hN_I, hN_J, hN_R, wI_I, wJ_J, upd_at, updL_at, kR_s, Option.toList, List.append_nil, List.nil_append, List.cons_append, if_true, if_false, reduceIte, Bool.false_eq_true, not_true_eq_false, not_false_eq_true, true_and, and_true, false_and, and_false, true_or, or_true,  Nat.reduceEqDiff, Nat.reduceAdd, Nat.reduceLeDiff]
    exact i1
theorem c_fitting {d : Nat} {h : qH} {s : Nat} {a : aS} {y : Int32} (k : mK h s a) : ∃ h', (∀ Q, WM (d + 4) mX9_fitting [.ref (44 : Nat), .int y] h Q = Q (some none) h') ∧ kp h h' ∧ FI h' a y (fiL a) := by
  have F := k.1
  have kA : kp h (wI (wI h 44 (upd (upd (hI h 44) 26 0) 27 (-1))) 53 (fil 637 (fun _ => 0) (hI h 53))) := by
    refine ⟨rfl, rfl, fun b hb => ⟨?_, rfl⟩, fun j hj => ?_⟩
    · simp at hb
      rw [hI_wI, if_neg (by omega), hI_wI, if_neg (by omega)]
    · simp at hj
      rw [hI_wI, if_neg (by decide), hI_wI, if_pos rfl, upd_at, if_neg (by omega), upd_at, if_neg (by omega)]
  have k1 := mK_kq k (kq_kp kA)
  have e0 : fiB a 0 = [] := rfl
  have ix00 : foI y [] = -1 := by unfold foI; rw [List.length_nil, ix0]
  obtain ⟨h', e1, k2, f2⟩ := l_fit (d := d) (y := y) (11 ^ aUn a) 0 (by omega) _ k1 (by
    rw [e0]
    refine ⟨?_, ?_, fun t ht p hp => ?_⟩
    · rw [hI_wI, if_neg (by decide), hI_wI, if_pos rfl, upd_at, if_neg (by decide), upd_at, if_pos rfl]; rfl
    · rw [hI_wI, if_neg (by decide), hI_wI, if_pos rfl, upd_at, if_pos rfl, ix00]
    · rw [hI_wI, if_pos rfl, fil_at (by omega)]; rfl)
  refine ⟨h', fun Q => ?_, kp_tr kA k2, f2⟩
  have F1 : Fin0 (hR (wI h 44 (upd (upd (hI h 44) 26 0) 27 (-1)))) := F
  have l := fun o3 o4 => l_fz (d := d + 4) (y := y) (o3 := o3) (o4 := o4) (Q := Q) F1 637 0 (by omega)
  rw [fil_0, wI_same] at l
  have h53 : hI (wI h 44 (upd (upd (hI h 44) 26 0) 27 (-1))) 53 = hI h 53 := by rw [hI_wI, if_neg (by decide)]
  rw [h53] at l
  have e1 := e1 none none Q
  simp (implicitDefEqProofs := false) only [eX9_fitting, rX9_fitting_0, rX9_fitting_0b, rX9_fitting_1, rX9_fitting_2, rX9_fitting_5, rX9_fitting_5b, rX9_fitting_6, rX9_fitting_7, rX9_fitting_10, rX9_fitting_11, kA_44, kB_44, pCX9_fitting, pSX9_fitting, pOX9_fitting, pLX9_fitting, kl_I, kl_J, kl_R, kl_T, kl_N, Nat.le_refl, Nat.zero_le, List.map_nil, List.map_cons, List.sum_nil, List.sum_cons, c_I, c_J, c_R, c_T, va_rf, hI_wI, hJ_wJ, hR_wR, hI_J, hI_R, hJ_I, hJ_R, hR_I, hR_J, hN_I, hN_J, hN_R, wI_I, wJ_J, upd_at, updL_at, kR_s, Option.toList, List.append_nil, List.nil_append, List.cons_append, if_true, if_false, reduceIte, Bool.false_eq_true, not_true_eq_false, not_false_eq_true, true_and, and_true, false_and, and_false, true_or, or_true,  Nat.reduceEqDiff, Nat.reduceAdd, Nat.reduceLeDiff]
  change WP (d + 4) mX9_fitting (0, 0) 12 [some (.ref (44 : Nat)), some (.int y), some (.int (nI 0)), none, none] [] (wI h 44 (upd (upd (hI h 44) 26 0) 27 (-1))) Q = _
  rw [l none none]
  simp (implicitDefEqProofs := false) only [rX9_fitting_32, rX9_fitting_33, kl_I, kl_J, kl_R, kl_T, kl_N, Nat.le_refl, Nat.zero_le, List.map_nil, List.map_cons, List.sum_nil, List.sum_cons, c_I, c_J, c_R, c_T, va_rf, hI_wI, hJ_wJ, hR_wR, hI_J, hI_R, hJ_I, hJ_R, hR_I, hR_J, hN_I, hN_J, hN_R, wI_I, wJ_J, upd_at, updL_at, kR_s, Option.toList, List.append_nil, List.nil_append, List.cons_append, if_true, if_false, reduceIte, Bool.false_eq_true, not_true_eq_false, not_false_eq_true, true_and, and_true, false_and, and_false, true_or, or_true,  Nat.reduceEqDiff, Nat.reduceAdd, Nat.reduceLeDiff]
  exact e1
