/-! ===== guesses ===== -/
theorem mxN {x y : Nat} (hx : x < 2 ^ 31) (hy : y < 2 ^ 31) : mxI (nI x) (nI y) = nI (max x y) := by
  rw [mxI]
  by_cases c : x < y
  · rw [if_pos (nI_lt c hy)]; congr 1; omega
  · rw [if_neg (nI_nlt (by omega) hx)]; congr 1; omega
theorem oI_inj {o p : Option Nat} (ho : ∀ x, o = some x → x < 2 ^ 31) (hp : ∀ x, p = some x → x < 2 ^ 31) : (oI o = oI p) = (o = p) := by
  cases p with
  | none => exact oI_none ho
  | some y => exact oI_eq ho (hp y rfl)
/-- a guess's digit -/
def gdN (a : aS) (g u : Nat) : Option Nat := if (if u + 1 < aUn a then g / 11 else g % 11) = 10 then none else some (if u + 1 < aUn a then g / 11 else g % 11)
theorem gdN_le {a : aS} {g u x : Nat} (hg : g < 121) (h : gdN a g u = some x) : x ≤ 9 := by
  unfold gdN at h
  by_cases q : u + 1 < aUn a
  · rw [if_pos q] at h
    by_cases c : g / 11 = 10
    · rw [if_pos c] at h; cases h
    · rw [if_neg c] at h
      simp only [Option.some.injEq] at h
      omega
  · rw [if_neg q] at h
    by_cases c : g % 11 = 10
    · rw [if_pos c] at h; cases h
    · rw [if_neg c] at h
      simp only [Option.some.injEq] at h
      omega
noncomputable def gRow (a : aS) (g : Nat) : Nat → Nat := sprN a 0 none (ogN a (gdN a g) (aUn a))
theorem p11 {a : aS} (w : aW a) : 11 ^ aUn a ≤ 121 := (Nat.pow_le_pow_right (by omega) w.2.2.2.2.2.2.2.2.2.2.1 : 11 ^ aUn a ≤ 11 ^ 2)
theorem gRow_le {a : aS} (w : aW a) {g : Nat} (hg : g < 121) (j : Nat) : gRow a g j ≤ 1000 := sprN_le (fun j hj => ogN_le w (aUn a) (Nat.le_refl _) (fun v hv x hx => gdN_le hg hx) j hj) j
noncomputable def asR (a : aS) (r : Nat → Nat) : Nat → Nat → Bool
  | 0, _ => true
  | k + 1, i => if sooN (aN a) r (aPu a) (aRd a i) = aRf a i then asR a r k (i + 1) else false
noncomputable def asRung (a : aS) (g : Nat) : Bool := asR a (gRow a g) (aRu a) 0
noncomputable def fiB (a : aS) (n : Nat) : List Nat := (List.range n).filter (asRung a)
noncomputable def fiL (a : aS) : List Nat := fiB a (11 ^ aUn a)
theorem c_guessed {d : Nat} {h : qH} {s : Nat} {a : aS} {g u : Nat} (F : Fin0 (hR h)) (hf : hR h 32 0 = some s) (w : cS h s a) (hg : g < 121) (hu : u < 2) : ∀ Q, WM d mX1_guessed [.ref (39 : Nat), .int (nI g), .int (nI u)] h Q = Q (some (some (.int (oI (gdN a g u))))) h := by
  intro Q
  have hs := w.1
  have h2 := w.2.1.2.2.2.2.2.2.2.2.2.2.1
  have e1 : (nI (aUn a) ≤ nI (u + 1)) = (aUn a ≤ u + 1) := propext (nI_leI (by omega) (by omega))
  have d1 : nI g / 11 = nI (g / 11) := pk_div (d := 11) (by omega) (by omega) (by omega)
  have d2 : nI g - nI g / 11 * 11 = nI (g % 11) := pk_rem (d := 11) (by omega) (by omega) (by omega)
  unfold gdN
  by_cases c : u + 1 < aUn a
  · have c' : ¬ aUn a ≤ u + 1 := by omega
    have c2 : (nI (g / 11) = 10) = (g / 11 = 10) := nq (x := g / 11) (k := 10) (c := 10) rfl (by omega) (by omega)
    by_cases c3 : g / 11 = 10
    · simp (implicitDefEqProofs := false) only [eX1_guessed, rX1_guessed_0, rX1_guessed_1, rX1_guessed_2, rX1_guessed_3, rX1_guessed_3b, rX1_guessed_4, rX1_guessed_7, rX1_guessed_10, rX1_guessed_13, rX1_guessed_16, rX1_guessed_17, rX1_guessed_19, rX1_guessed_20, rX1_guessed_23, rX1_guessed_24, rX1_guessed_26, rX1_guessed_27, rX1_guessed_28, rX1_guessed_29, rX1_guessed_31, rX1_guessed_34, rX1_guessed_36, rX1_guessed_39, rX1_guessed_40, kS0 hs, kS1 hs, kT1 hs, fS1 hs F, kS2 hs, kT2 hs, fS2 hs F, kS3 hs, kT3 hs, fS3 hs F, kS4 hs, kT4 hs, fS4 hs F, kS5 hs, kT5 hs, fS5 hs F, kS6 hs, kT6 hs, fS6 hs F, kS7 hs, kT7 hs, fS7 hs F, kS8 hs, kT8 hs, fS8 hs F, kS9 hs, kT9 hs, fS9 hs F, kS10 hs, kT10 hs, fS10 hs F, kS11 hs, kT11 hs, fS11 hs F, nS hs, nSs hs, fin_39_0 F, fin_39_1 F, fin_39_2 F, fin_39_3 F, fin_39_4 F, kA_32, kB_32, kA_39, kB_39, hf, pCX1_guessed, pSX1_guessed, pOX1_guessed, pLX1_guessed, nI_1, e1, w.2.2.1.2.2.2.2.2.1, c, c', show ¬ (11 : Int32) = 0 from by decide, d1, c2, c3, oI, show nI 10 = 10 from rfl, kl_I, kl_J, kl_R, kl_T, kl_N, Nat.le_refl, Nat.zero_le, List.map_nil, List.map_cons, List.sum_nil, List.sum_cons, c_I, c_J, c_R, c_T, va_rf, hI_wI, hJ_wJ, hR_wR, hI_J, hI_R, hJ_I, hJ_R, hR_I, hR_J, hN_I, hN_J, hN_R, wI_I, wJ_J, upd_at, updL_at, kR_s, Option.toList, List.append_nil, List.nil_append, List.cons_append, if_true, if_false, reduceIte, Bool.false_eq_true, not_true_eq_false, not_false_eq_true, true_and, and_true, false_and, and_false, true_or, or_true,  Nat.reduceEqDiff, Nat.reduceAdd, Nat.reduceLeDiff]
    · simp (implicitDefEqProofs := false) only [eX1_guessed, rX1_guessed_0, rX1_guessed_1, rX1_guessed_2, rX1_guessed_3, rX1_guessed_3b, rX1_guessed_4, rX1_guessed_7, rX1_guessed_10, rX1_guessed_13, rX1_guessed_16, rX1_guessed_17, rX1_guessed_19, rX1_guessed_20, rX1_guessed_23, rX1_guessed_24, rX1_guessed_26, rX1_guessed_27, rX1_guessed_28, rX1_guessed_29, rX1_guessed_31, rX1_guessed_34, rX1_guessed_36, rX1_guessed_39, rX1_guessed_40, kS0 hs, kS1 hs, kT1 hs, fS1 hs F, kS2 hs, kT2 hs, fS2 hs F, kS3 hs, kT3 hs, fS3 hs F, kS4 hs, kT4 hs, fS4 hs F, kS5 hs, kT5 hs, fS5 hs F, kS6 hs, kT6 hs, fS6 hs F, kS7 hs, kT7 hs, fS7 hs F, kS8 hs, kT8 hs, fS8 hs F, kS9 hs, kT9 hs, fS9 hs F, kS10 hs, kT10 hs, fS10 hs F, kS11 hs, kT11 hs, fS11 hs F, nS hs, nSs hs, fin_39_0 F, fin_39_1 F, fin_39_2 F, fin_39_3 F, fin_39_4 F, kA_32, kB_32, kA_39, kB_39, hf, pCX1_guessed, pSX1_guessed, pOX1_guessed, pLX1_guessed, nI_1, e1, w.2.2.1.2.2.2.2.2.1, c, c', show ¬ (11 : Int32) = 0 from by decide, d1, c2, c3, oI, kl_I, kl_J, kl_R, kl_T, kl_N, Nat.le_refl, Nat.zero_le, List.map_nil, List.map_cons, List.sum_nil, List.sum_cons, c_I, c_J, c_R, c_T, va_rf, hI_wI, hJ_wJ, hR_wR, hI_J, hI_R, hJ_I, hJ_R, hR_I, hR_J, hN_I, hN_J, hN_R, wI_I, wJ_J, upd_at, updL_at, kR_s, Option.toList, List.append_nil, List.nil_append, List.cons_append, if_true, if_false, reduceIte, Bool.false_eq_true, not_true_eq_false, not_false_eq_true, true_and, and_true, false_and, and_false, true_or, or_true,  Nat.reduceEqDiff, Nat.reduceAdd, Nat.reduceLeDiff]
  · have c' : aUn a ≤ u + 1 := by omega
    have c2 : (nI (g % 11) = 10) = (g % 11 = 10) := nq (x := g % 11) (k := 10) (c := 10) rfl (by omega) (by omega)
    by_cases c3 : g % 11 = 10
    · simp (implicitDefEqProofs := false) only [eX1_guessed, rX1_guessed_0, rX1_guessed_1, rX1_guessed_2, rX1_guessed_3, rX1_guessed_3b, rX1_guessed_4, rX1_guessed_7, rX1_guessed_10, rX1_guessed_13, rX1_guessed_16, rX1_guessed_17, rX1_guessed_19, rX1_guessed_20, rX1_guessed_23, rX1_guessed_24, rX1_guessed_26, rX1_guessed_27, rX1_guessed_28, rX1_guessed_29, rX1_guessed_31, rX1_guessed_34, rX1_guessed_36, rX1_guessed_39, rX1_guessed_40, kS0 hs, kS1 hs, kT1 hs, fS1 hs F, kS2 hs, kT2 hs, fS2 hs F, kS3 hs, kT3 hs, fS3 hs F, kS4 hs, kT4 hs, fS4 hs F, kS5 hs, kT5 hs, fS5 hs F, kS6 hs, kT6 hs, fS6 hs F, kS7 hs, kT7 hs, fS7 hs F, kS8 hs, kT8 hs, fS8 hs F, kS9 hs, kT9 hs, fS9 hs F, kS10 hs, kT10 hs, fS10 hs F, kS11 hs, kT11 hs, fS11 hs F, nS hs, nSs hs, fin_39_0 F, fin_39_1 F, fin_39_2 F, fin_39_3 F, fin_39_4 F, kA_32, kB_32, kA_39, kB_39, hf, pCX1_guessed, pSX1_guessed, pOX1_guessed, pLX1_guessed, nI_1, e1, w.2.2.1.2.2.2.2.2.1, c, c', show ¬ (11 : Int32) = 0 from by decide, d2, c2, c3, oI, show nI 10 = 10 from rfl, kl_I, kl_J, kl_R, kl_T, kl_N, Nat.le_refl, Nat.zero_le, List.map_nil, List.map_cons, List.sum_nil, List.sum_cons, c_I, c_J, c_R, c_T, va_rf, hI_wI, hJ_wJ, hR_wR, hI_J, hI_R, hJ_I, hJ_R, hR_I, hR_J, hN_I, hN_J, hN_R, wI_I, wJ_J, upd_at, updL_at, kR_s, Option.toList, List.append_nil, List.nil_append, List.cons_append, if_true, if_false, reduceIte, Bool.false_eq_true, not_true_eq_false, not_false_eq_true, true_and, and_true, false_and, and_false, true_or, or_true,  Nat.reduceEqDiff, Nat.reduceAdd, Nat.reduceLeDiff]
    · simp (implicitDefEqProofs := false) only [eX1_guessed, rX1_guessed_0, rX1_guessed_1, rX1_guessed_2, rX1_guessed_3, rX1_guessed_3b, rX1_guessed_4, rX1_guessed_7, rX1_guessed_10, rX1_guessed_13, rX1_guessed_16, rX1_guessed_17, rX1_guessed_19, rX1_guessed_20, rX1_guessed_23, rX1_guessed_24, rX1_guessed_26, rX1_guessed_27, rX1_guessed_28, rX1_guessed_29, rX1_guessed_31, rX1_guessed_34, rX1_guessed_36, rX1_guessed_39, rX1_guessed_40, kS0 hs, kS1 hs, kT1 hs, fS1 hs F, kS2 hs, kT2 hs, fS2 hs F, kS3 hs, kT3 hs, fS3 hs F, kS4 hs, kT4 hs, fS4 hs F, kS5 hs, kT5 hs, fS5 hs F, kS6 hs, kT6 hs, fS6 hs F, kS7 hs, kT7 hs, fS7 hs F, kS8 hs, kT8 hs, fS8 hs F, kS9 hs, kT9 hs, fS9 hs F, kS10 hs, kT10 hs, fS10 hs F, kS11 hs, kT11 hs, fS11 hs F, nS hs, nSs hs, fin_39_0 F, fin_39_1 F, fin_39_2 F, fin_39_3 F, fin_39_4 F, kA_32, kB_32, kA_39, kB_39, hf, pCX1_guessed, pSX1_guessed, pOX1_guessed, pLX1_guessed, nI_1, e1, w.2.2.1.2.2.2.2.2.1, c, c', show ¬ (11 : Int32) = 0 from by decide, d2, c2, c3, oI, kl_I, kl_J, kl_R, kl_T, kl_N, Nat.le_refl, Nat.zero_le, List.map_nil, List.map_cons, List.sum_nil, List.sum_cons, c_I, c_J, c_R, c_T, va_rf, hI_wI, hJ_wJ, hR_wR, hI_J, hI_R, hJ_I, hJ_R, hR_I, hR_J, hN_I, hN_J, hN_R, wI_I, wJ_J, upd_at, updL_at, kR_s, Option.toList, List.append_nil, List.nil_append, List.cons_append, if_true, if_false, reduceIte, Bool.false_eq_true, not_true_eq_false, not_false_eq_true, true_and, and_true, false_and, and_false, true_or, or_true,  Nat.reduceEqDiff, Nat.reduceAdd, Nat.reduceLeDiff]
theorem soo_lt {n : Nat} {r : Nat → Nat} {wi af x : Nat} (h : sooN n r wi af = some x) : x < n := by
  have := sooL_lt (k := n) (i := 0) (fun z hz => by cases hz) h
  omega
theorem l_isAsRung {d : Nat} {h : qH} {s : Nat} {a : aS} {r : Nat → Nat} (F : Fin0 (hR h)) (hf : hR h 32 0 = some s) (w : cS h s a) (hr : ∀ j, j < aN a → hI h 34 j = nI (r j)) (hk : ∀ j, r j ≤ 1000) {Q : Option (Option Value) → qH → Prop} : ∀ (k i : Nat), i + k = aRu a → WP (d + 1) mX1_isAsRung (0, 0) 2 [some (.ref (39 : Nat)), some (.int (nI i))] [] h Q = Q (some (some (.int (bI (asR a r k i))))) h := by
  have hs := w.1
  have ww := w.2.1
  have w3 := w.2.2.1
  have h4 := ww.2.2.2.2.2.2.2.2.2.2.2.2.2.1
  have w8 := w.2.2.2.2.2.2.2
  intro k
  induction k with
  | zero =>
    intro i hi
    obtain rfl : i = aRu a := by omega
    simp (implicitDefEqProofs := false) only [rX1_isAsRung_2, rX1_isAsRung_3, rX1_isAsRung_3b, rX1_isAsRung_4, rX1_isAsRung_7, rX1_isAsRung_10, rX1_isAsRung_13, rX1_isAsRung_76, rX1_isAsRung_77, kS0 hs, kS1 hs, kT1 hs, fS1 hs F, kS2 hs, kT2 hs, fS2 hs F, kS3 hs, kT3 hs, fS3 hs F, kS4 hs, kT4 hs, fS4 hs F, kS5 hs, kT5 hs, fS5 hs F, kS6 hs, kT6 hs, fS6 hs F, kS7 hs, kT7 hs, fS7 hs F, kS8 hs, kT8 hs, fS8 hs F, kS9 hs, kT9 hs, fS9 hs F, kS10 hs, kT10 hs, fS10 hs F, kS11 hs, kT11 hs, fS11 hs F, nS hs, nSs hs, fin_39_0 F, fin_39_1 F, fin_39_2 F, fin_39_3 F, fin_39_4 F, kA_32, kB_32, kA_39, kB_39, hf, pCX1_isAsRung, pSX1_isAsRung, pOX1_isAsRung, pLX1_isAsRung, w3.2.2.2.2.2.2, Int32.le_refl, asR, bI, kl_I, kl_J, kl_R, kl_T, kl_N, Nat.le_refl, Nat.zero_le, List.map_nil, List.map_cons, List.sum_nil, List.sum_cons, c_I, c_J, c_R, c_T, va_rf, hI_wI, hJ_wJ, hR_wR, hI_J, hI_R, hJ_I, hJ_R, hR_I, hR_J, hN_I, hN_J, hN_R, wI_I, wJ_J, upd_at, updL_at, kR_s, Option.toList, List.append_nil, List.nil_append, List.cons_append, if_true, if_false, reduceIte, Bool.false_eq_true, not_true_eq_false, not_false_eq_true, true_and, and_true, false_and, and_false, true_or, or_true,  Nat.reduceEqDiff, Nat.reduceAdd, Nat.reduceLeDiff]
  | succ k ih =>
    intro i hi
    have c1 : i < aRu a := by omega
    have g1 : ¬ nI (aRu a) ≤ nI i := nI_ge c1 (by omega)
    have v4 : vp_in (nI i) 4 := nI_vp (by omega) (by decide)
    have cl : (nI i).toNatClampNeg = i := nI_cl (by omega)
    obtain ⟨e1, e2⟩ := w8 i c1
    obtain ⟨b1, b2⟩ := ww.2.2.2.2.2.2.2.2.2.2.2.2.2.2 i c1
    have h6 := ww.1
    have p64 := p6 h6
    have pu := ww.2.2.2.1
    have so := c_soonestIn (d := d) (A := 34) (len := 6) (tt := 0) (wi := aPu a) (af := aRd a i) (r := r) F hf w rfl rfl (by omega) (by omega) (fun j hj => by rw [Nat.zero_mul, Nat.zero_add]; exact hr j hj) (fun j _ => hk j) (by omega) (by omega)
    rw [nI_0] at so
    have q := oI_inj (o := sooN (aN a) r (aPu a) (aRd a i)) (p := aRf a i) (fun x hx => by have := soo_lt hx; omega) (fun x hx => by have := b2 x hx; omega)
    rw [asR]
    by_cases c : sooN (aN a) r (aPu a) (aRd a i) = aRf a i
    · rw [if_pos c]
      simp (implicitDefEqProofs := false) only [rX1_isAsRung_2, rX1_isAsRung_3, rX1_isAsRung_3b, rX1_isAsRung_4, rX1_isAsRung_7, rX1_isAsRung_10, rX1_isAsRung_13, rX1_isAsRung_16, rX1_isAsRung_16b, rX1_isAsRung_17, rX1_isAsRung_20, rX1_isAsRung_20b, rX1_isAsRung_21, rX1_isAsRung_24, rX1_isAsRung_27, rX1_isAsRung_28, rX1_isAsRung_28b, rX1_isAsRung_29, rX1_isAsRung_32, rX1_isAsRung_35, rX1_isAsRung_38, rX1_isAsRung_38b, rX1_isAsRung_39, rX1_isAsRung_42, rX1_isAsRung_45, rX1_isAsRung_48, rX1_isAsRung_49, rX1_isAsRung_50, rX1_isAsRung_53, rX1_isAsRung_53b, rX1_isAsRung_54, rX1_isAsRung_57, rX1_isAsRung_60, rX1_isAsRung_63, rX1_isAsRung_64, rX1_isAsRung_65, rX1_isAsRung_68, rX1_isAsRung_69, rX1_isAsRung_70, kS0 hs, kS1 hs, kT1 hs, fS1 hs F, kS2 hs, kT2 hs, fS2 hs F, kS3 hs, kT3 hs, fS3 hs F, kS4 hs, kT4 hs, fS4 hs F, kS5 hs, kT5 hs, fS5 hs F, kS6 hs, kT6 hs, fS6 hs F, kS7 hs, kT7 hs, fS7 hs F, kS8 hs, kT8 hs, fS8 hs F, kS9 hs, kT9 hs, fS9 hs F, kS10 hs, kT10 hs, fS10 hs F, kS11 hs, kT11 hs, fS11 hs F, nS hs, nSs hs, fin_32_1 F, fin_32_2 F, fin_32_3 F, fin_32_4 F, fin_39_0 F, fin_39_1 F, fin_39_2 F, fin_39_3 F, fin_39_4 F, kA_32, kB_32, kA_34, kB_34, kA_39, kB_39, hf, pCX1_isAsRung, pSX1_isAsRung, pOX1_isAsRung, pLX1_isAsRung, pCX0_soonestIn, pSX0_soonestIn, pOX0_soonestIn, pLX0_soonestIn, w3.2.2.2.2.2.2, w3.2.2.1, g1, v4, cl, e1, e2, so, q, c, kl_I, kl_J, kl_R, kl_T, kl_N, Nat.le_refl, Nat.zero_le, List.map_nil, List.map_cons, List.sum_nil, List.sum_cons, c_I, c_J, c_R, c_T, va_rf, hI_wI, hJ_wJ, hR_wR, hI_J, hI_R, hJ_I, hJ_R, hR_I, hR_J, hN_I, hN_J, hN_R, wI_I, wJ_J, upd_at, updL_at, kR_s, Option.toList, List.append_nil, List.nil_append, List.cons_append, if_true, if_false, reduceIte, Bool.false_eq_true, not_true_eq_false, not_false_eq_true, true_and, and_true, false_and, and_false, true_or, or_true,  Nat.reduceEqDiff, Nat.reduceAdd, Nat.reduceLeDiff]
      rw [rX1_isAsRung_73, nI_1]
      exact ih (i + 1) (by omega)
    · rw [if_neg c]
      simp (implicitDefEqProofs := false) only [rX1_isAsRung_2, rX1_isAsRung_3, rX1_isAsRung_3b, rX1_isAsRung_4, rX1_isAsRung_7, rX1_isAsRung_10, rX1_isAsRung_13, rX1_isAsRung_16, rX1_isAsRung_16b, rX1_isAsRung_17, rX1_isAsRung_20, rX1_isAsRung_20b, rX1_isAsRung_21, rX1_isAsRung_24, rX1_isAsRung_27, rX1_isAsRung_28, rX1_isAsRung_28b, rX1_isAsRung_29, rX1_isAsRung_32, rX1_isAsRung_35, rX1_isAsRung_38, rX1_isAsRung_38b, rX1_isAsRung_39, rX1_isAsRung_42, rX1_isAsRung_45, rX1_isAsRung_48, rX1_isAsRung_49, rX1_isAsRung_50, rX1_isAsRung_53, rX1_isAsRung_53b, rX1_isAsRung_54, rX1_isAsRung_57, rX1_isAsRung_60, rX1_isAsRung_63, rX1_isAsRung_64, rX1_isAsRung_65, rX1_isAsRung_68, rX1_isAsRung_69, rX1_isAsRung_70, kS0 hs, kS1 hs, kT1 hs, fS1 hs F, kS2 hs, kT2 hs, fS2 hs F, kS3 hs, kT3 hs, fS3 hs F, kS4 hs, kT4 hs, fS4 hs F, kS5 hs, kT5 hs, fS5 hs F, kS6 hs, kT6 hs, fS6 hs F, kS7 hs, kT7 hs, fS7 hs F, kS8 hs, kT8 hs, fS8 hs F, kS9 hs, kT9 hs, fS9 hs F, kS10 hs, kT10 hs, fS10 hs F, kS11 hs, kT11 hs, fS11 hs F, nS hs, nSs hs, fin_32_1 F, fin_32_2 F, fin_32_3 F, fin_32_4 F, fin_39_0 F, fin_39_1 F, fin_39_2 F, fin_39_3 F, fin_39_4 F, kA_32, kB_32, kA_34, kB_34, kA_39, kB_39, hf, pCX1_isAsRung, pSX1_isAsRung, pOX1_isAsRung, pLX1_isAsRung, pCX0_soonestIn, pSX0_soonestIn, pOX0_soonestIn, pLX0_soonestIn, w3.2.2.2.2.2.2, w3.2.2.1, g1, v4, cl, e1, e2, so, q, c, bI, kl_I, kl_J, kl_R, kl_T, kl_N, Nat.le_refl, Nat.zero_le, List.map_nil, List.map_cons, List.sum_nil, List.sum_cons, c_I, c_J, c_R, c_T, va_rf, hI_wI, hJ_wJ, hR_wR, hI_J, hI_R, hJ_I, hJ_R, hR_I, hR_J, hN_I, hN_J, hN_R, wI_I, wJ_J, upd_at, updL_at, kR_s, Option.toList, List.append_nil, List.nil_append, List.cons_append, if_true, if_false, reduceIte, Bool.false_eq_true, not_true_eq_false, not_false_eq_true, true_and, and_true, false_and, and_false, true_or, or_true,  Nat.reduceEqDiff, Nat.reduceAdd, Nat.reduceLeDiff]
theorem c_isAsRung {d : Nat} {h : qH} {s : Nat} {a : aS} {r : Nat → Nat} (F : Fin0 (hR h)) (hf : hR h 32 0 = some s) (w : cS h s a) (hr : ∀ j, j < aN a → hI h 34 j = nI (r j)) (hk : ∀ j, r j ≤ 1000) : ∀ Q, WM (d + 1) mX1_isAsRung [.ref (39 : Nat)] h Q = Q (some (some (.int (bI (asR a r (aRu a) 0))))) h := by
  intro Q
  simp (implicitDefEqProofs := false) only [eX1_isAsRung, rX1_isAsRung_0, rX1_isAsRung_1, kl_I, kl_J, kl_R, kl_T, kl_N, Nat.le_refl, Nat.zero_le, List.map_nil, List.map_cons, List.sum_nil, List.sum_cons, c_I, c_J, c_R, c_T, va_rf, hI_wI, hJ_wJ, hR_wR, hI_J, hI_R, hJ_I, hJ_R, hR_I, hR_J, hN_I, hN_J, hN_R, wI_I, wJ_J, upd_at, updL_at, kR_s, Option.toList, List.append_nil, List.nil_append, List.cons_append, if_true, if_false, reduceIte, Bool.false_eq_true, not_true_eq_false, not_false_eq_true, true_and, and_true, false_and, and_false, true_or, or_true,  Nat.reduceEqDiff, Nat.reduceAdd, Nat.reduceLeDiff]
  exact l_isAsRung F hf w hr hk (aRu a) 0 (by omega)
/-- what fits, kept -/
def gA (h : qH) (a : aS) (L : List Nat) : Prop := ∀ i, i < L.length → hI h 43 i = nI (L.getD i 0) ∧ ∀ j, j < 6 → hI h 42 (i * 6 + j) = nI (gRow a (L.getD i 0) j)
noncomputable def soG (a : aS) (g y : Nat) : Option Nat := sooN (aN a) (gRow a g) (aPu a) y
theorem c_gSoonest {d : Nat} {h : qH} {s : Nat} {a : aS} {L : List Nat} {i y : Nat} (F : Fin0 (hR h)) (hf : hR h 32 0 = some s) (w : cS h s a) (gA0 : gA h a L) (hL : ∀ g ∈ L, g < 121) (hl : L.length ≤ 121) (hi : i < L.length) (hy : y < 2 ^ 31) : ∀ Q, WM (d + 1) mX1_soonest [.ref (39 : Nat), .int (nI i), .int (nI y)] h Q = Q (some (some (.int (oI (soG a (L.getD i 0) y))))) h := by
  intro Q
  have hs := w.1
  have ww := w.2.1
  have w3 := w.2.2.1
  have h6 := ww.1
  have p64 := p6 h6
  have pu := ww.2.2.2.1
  have gl : L.getD i 0 < 121 := by
    rw [List.getD_eq_getElem?_getD, List.getElem?_eq_getElem hi]
    exact hL _ (List.getElem_mem hi)
  have so := c_soonestIn (d := d) (A := 42) (len := 726) (tt := i) (wi := aPu a) (af := y) (r := gRow a (L.getD i 0)) F hf w rfl rfl (by omega) (by omega) (fun j hj => (gA0 i hi).2 j (by omega)) (fun j _ => gRow_le ww gl j) (by omega) hy
  simp (implicitDefEqProofs := false) only [eX1_soonest, rX1_soonest_0, rX1_soonest_0b, rX1_soonest_1, rX1_soonest_4, rX1_soonest_4b, rX1_soonest_5, rX1_soonest_8, rX1_soonest_9, rX1_soonest_9b, rX1_soonest_10, rX1_soonest_13, rX1_soonest_16, rX1_soonest_19, rX1_soonest_20, rX1_soonest_23, kS0 hs, kS1 hs, kT1 hs, fS1 hs F, kS2 hs, kT2 hs, fS2 hs F, kS3 hs, kT3 hs, fS3 hs F, kS4 hs, kT4 hs, fS4 hs F, kS5 hs, kT5 hs, fS5 hs F, kS6 hs, kT6 hs, fS6 hs F, kS7 hs, kT7 hs, fS7 hs F, kS8 hs, kT8 hs, fS8 hs F, kS9 hs, kT9 hs, fS9 hs F, kS10 hs, kT10 hs, fS10 hs F, kS11 hs, kT11 hs, fS11 hs F, nS hs, nSs hs, fin_32_1 F, fin_32_2 F, fin_32_3 F, fin_32_4 F, fin_39_0 F, fin_39_1 F, fin_39_2 F, fin_39_3 F, fin_39_4 F, kA_32, kB_32, kA_39, kB_39, kA_42, kB_42, hf, pCX1_soonest, pSX1_soonest, pOX1_soonest, pLX1_soonest, pCX0_soonestIn, pSX0_soonestIn, pOX0_soonestIn, pLX0_soonestIn, w3.2.2.1, so, soG, kl_I, kl_J, kl_R, kl_T, kl_N, Nat.le_refl, Nat.zero_le, List.map_nil, List.map_cons, List.sum_nil, List.sum_cons, c_I, c_J, c_R, c_T, va_rf, hI_wI, hJ_wJ, hR_wR, hI_J, hI_R, hJ_I, hJ_R, hR_I, hR_J, hN_I, hN_J, hN_R, wI_I, wJ_J, upd_at, updL_at, kR_s, Option.toList, List.append_nil, List.nil_append, List.cons_append, if_true, if_false, reduceIte, Bool.false_eq_true, not_true_eq_false, not_false_eq_true, true_and, and_true, false_and, and_false, true_or, or_true,  Nat.reduceEqDiff, Nat.reduceAdd, Nat.reduceLeDiff]
def plN : Option Nat → Nat
  | none => 6
  | some x => x
def ctN (f : Nat → Nat) (p : Nat) : Nat → Nat
  | 0 => 0
  | n + 1 => ctN f p n + (if f n = p then 1 else 0)
def mxC (f : Nat → Nat) : Nat → Nat
  | 0 => 0
  | n + 1 => max (mxC f n) (f n)
theorem ctN_le {f : Nat → Nat} {p : Nat} : ∀ n, ctN f p n ≤ n
  | 0 => Nat.le_refl _
  | n + 1 => by
    have := ctN_le (f := f) (p := p) n
    rw [ctN]; split <;> omega
theorem mxC_le {f : Nat → Nat} {b : Nat} (h : ∀ p, f p ≤ b) : ∀ n, mxC f n ≤ b
  | 0 => Nat.zero_le _
  | n + 1 => by
    have := mxC_le h n
    have := h n
    rw [mxC]; omega
theorem mxC_inc {f : Nat → Nat} {q : Nat} : ∀ n, mxC (fun p => f p + (if q = p then 1 else 0)) n = if q < n then max (mxC f n) (f q + 1) else mxC f n
  | 0 => by simp [mxC]
  | n + 1 => by
    rw [mxC, mxC_inc n]
    rcases Nat.lt_trichotomy q n with h | h | h
    · simp only [if_pos h, if_pos (show q < n + 1 by omega), if_neg (show ¬ q = n by omega), mxC]; omega
    · subst h
      simp only [if_neg (show ¬ q < q by omega), if_pos (show q < q + 1 by omega), if_true, mxC]; omega
    · simp only [if_neg (show ¬ q < n by omega), if_neg (show ¬ q < n + 1 by omega), if_neg (show ¬ q = n by omega), mxC]; omega
noncomputable def lfF (a : aS) (L : List Nat) (y : Nat) : Nat → Nat := fun i => plN (soG a (L.getD i 0) y)
noncomputable def moN (a : aS) (L : List Nat) (y : Nat) : Nat := mxC (fun p => ctN (lfF a L y) p L.length) 7
theorem l_most1 {d : Nat} {h : qH} {y : Int32} {o3 o4 o5 : Option Value} (F : Fin0 (hR h)) {Q : Option (Option Value) → qH → Prop} : ∀ (k i : Nat), i + k = 7 → WP d mX1_mostLeft (0, 0) 2 [some (.ref (39 : Nat)), some (.int y), some (.int (nI i)), o3, o4, o5] [] (wI h 41 (fil i (fun _ => 0) (hI h 41))) Q = WP d mX1_mostLeft (0, 0) 21 [some (.ref (39 : Nat)), some (.int y), some (.int (nI 7)), o3, o4, o5] [] (wI h 41 (fil 7 (fun _ => 0) (hI h 41))) Q := by
  intro k
  induction k with
  | zero =>
    intro i hi
    obtain rfl : i = 7 := by omega
    simp (implicitDefEqProofs := false) only [rX1_mostLeft_2, rX1_mostLeft_3, rX1_mostLeft_5, rX1_mostLeft_8, rX1_mostLeft_8b, rX1_mostLeft_9, rX1_mostLeft_12, rX1_mostLeft_13, rX1_mostLeft_14, rX1_mostLeft_15, fin_39_0 F, fin_39_1 F, fin_39_2 F, fin_39_3 F, fin_39_4 F, kA_39, kB_39, kA_41, kB_41, pCX1_mostLeft, pSX1_mostLeft, pOX1_mostLeft, pLX1_mostLeft, show (6 : Int32) < nI 7 from by decide, kl_I, kl_J, kl_R, kl_T, kl_N, Nat.le_refl, Nat.zero_le, List.map_nil, List.map_cons, List.sum_nil, List.sum_cons, c_I, c_J, c_R, c_T, va_rf, hI_wI, hJ_wJ, hR_wR, hI_J, hI_R, hJ_I, hJ_R, hR_I, hR_J, hN_I, hN_J, hN_R, wI_I, wJ_J, upd_at, updL_at, kR_s, Option.toList, List.append_nil, List.nil_append, List.cons_append, if_true, if_false, reduceIte, Bool.false_eq_true, not_true_eq_false, not_false_eq_true, true_and, and_true, false_and, and_false, true_or, or_true,  Nat.reduceEqDiff, Nat.reduceAdd, Nat.reduceLeDiff]
  | succ k ih =>
    intro i hi
    have g1 : (6 < nI i) = (6 < i) := ngt (x := i) (k := 6) (c := 6) rfl (by omega) (by omega)
    have v : vp_in (nI i) 7 := nI_vp (by omega) (by decide)
    have cl : (nI i).toNatClampNeg = i := nI_cl (by omega)
    have c : ¬ 6 < i := by omega
    simp (implicitDefEqProofs := false) only [rX1_mostLeft_2, rX1_mostLeft_3, rX1_mostLeft_5, rX1_mostLeft_8, rX1_mostLeft_8b, rX1_mostLeft_9, rX1_mostLeft_12, rX1_mostLeft_13, rX1_mostLeft_14, rX1_mostLeft_15, fin_39_0 F, fin_39_1 F, fin_39_2 F, fin_39_3 F, fin_39_4 F, kA_39, kB_39, kA_41, kB_41, pCX1_mostLeft, pSX1_mostLeft, pOX1_mostLeft, pLX1_mostLeft, g1, c, v, cl, kl_I, kl_J, kl_R, kl_T, kl_N, Nat.le_refl, Nat.zero_le, List.map_nil, List.map_cons, List.sum_nil, List.sum_cons, c_I, c_J, c_R, c_T, va_rf, hI_wI, hJ_wJ, hR_wR, hI_J, hI_R, hJ_I, hJ_R, hR_I, hR_J, hN_I, hN_J, hN_R, wI_I, wJ_J, upd_at, updL_at, kR_s, Option.toList, List.append_nil, List.nil_append, List.cons_append, if_true, if_false, reduceIte, Bool.false_eq_true, not_true_eq_false, not_false_eq_true, true_and, and_true, false_and, and_false, true_or, or_true,  Nat.reduceEqDiff, Nat.reduceAdd, Nat.reduceLeDiff]
    rw [rX1_mostLeft_18, nI_1]
    have := ih (i + 1) (by omega)
    rw [← fil_s] at this
    exact this
theorem l_most2 {d : Nat} {s : Nat} {a : aS} {L : List Nat} {y : Nat} (hL : ∀ g ∈ L, g < 121) (hl : L.length ≤ 121) (hy : y < 2 ^ 31) : ∀ (k i : Nat), i + k = L.length → ∀ (h : qH) (o4 o5 : Option Value) (F : Fin0 (hR h)) (hf : hR h 32 0 = some s) (w : cS h s a) (gA0 : gA h a L) (e6 : hI h 39 6 = nI L.length) (hc : ∀ p, p < 7 → hI h 41 p = nI (ctN (lfF a L y) p i)), ∃ h', (∀ Q, WP (d + 2) mX1_mostLeft (0, 0) 25 [some (.ref (39 : Nat)), some (.int (nI y)), some (.int (nI (mxC (fun p => ctN (lfF a L y) p i) 7))), some (.int (nI i)), o4, o5] [] h Q = Q (some (some (.int (nI (moN a L y))))) h') ∧ sx [41] h h' := by
  intro k
  induction k with
  | zero =>
    intro i hi h o4 o5 F hf w gA0 e6 hc
    obtain rfl : i = L.length := by omega
    refine ⟨h, fun Q => ?_, sx_refl⟩
    simp (implicitDefEqProofs := false) only [rX1_mostLeft_25, rX1_mostLeft_26, rX1_mostLeft_26b, rX1_mostLeft_27, rX1_mostLeft_30, rX1_mostLeft_33, rX1_mostLeft_33b, rX1_mostLeft_34, rX1_mostLeft_35, rX1_mostLeft_36, rX1_mostLeft_39, rX1_mostLeft_86, rX1_mostLeft_87, fin_39_0 F, fin_39_1 F, fin_39_2 F, fin_39_3 F, fin_39_4 F, kA_39, kB_39, kA_41, kB_41, pCX1_mostLeft, pSX1_mostLeft, pOX1_mostLeft, pLX1_mostLeft, e6, Int32.le_refl, moN, kl_I, kl_J, kl_R, kl_T, kl_N, Nat.le_refl, Nat.zero_le, List.map_nil, List.map_cons, List.sum_nil, List.sum_cons, c_I, c_J, c_R, c_T, va_rf, hI_wI, hJ_wJ, hR_wR, hI_J, hI_R, hJ_I, hJ_R, hR_I, hR_J, hN_I, hN_J, hN_R, wI_I, wJ_J, upd_at, updL_at, kR_s, Option.toList, List.append_nil, List.nil_append, List.cons_append, if_true, if_false, reduceIte, Bool.false_eq_true, not_true_eq_false, not_false_eq_true, true_and, and_true, false_and, and_false, true_or, or_true,  Nat.reduceEqDiff, Nat.reduceAdd, Nat.reduceLeDiff]
  | succ k ih =>
    intro i hi h o4 o5 F hf w gA0 e6 hc
    have hlt : i < L.length := by omega
    have g1 : ¬ nI L.length ≤ nI i := nI_ge hlt (by omega)
    have so := c_gSoonest (d := d) F hf w gA0 hL hl hlt hy
    have n6 := w.2.1.1
    have q := oI_none (o := soG a (L.getD i 0) y) (fun x hx => by have := soo_lt hx; omega)
    have fl : lfF a L y i < 7 := by
      unfold lfF
      cases hso : soG a (L.getD i 0) y with
      | none => simp [plN]
      | some x => have := soo_lt hso; simp only [plN]; omega
    have v : vp_in (nI (lfF a L y i)) 7 := nI_vp fl (by decide)
    have cl : (nI (lfF a L y i)).toNatClampNeg = lfF a L y i := nI_cl (by omega)
    have hq := hc _ fl
    have cle := ctN_le (f := lfF a L y) (p := lfF a L y i) i
    have mle : mxC (fun p => ctN (lfF a L y) p i) 7 ≤ i := mxC_le (fun p => ctN_le i) 7
    have hm := mxN (x := mxC (fun p => ctN (lfF a L y) p i) 7) (y := ctN (lfF a L y) (lfF a L y i) i + 1) (by omega) (by omega)
    have inc : max (mxC (fun p => ctN (lfF a L y) p i) 7) (ctN (lfF a L y) (lfF a L y i) i + 1) = mxC (fun p => ctN (lfF a L y) p (i + 1)) 7 := by
      have := mxC_inc (f := fun p => ctN (lfF a L y) p i) (q := lfF a L y i) 7
      rw [if_pos fl] at this
      rw [← this]
      rfl
    rw [inc] at hm
    let h1 : qH := wI h 41 (upd (hI h 41) (lfF a L y i) (nI (ctN (lfF a L y) (lfF a L y i) i + 1)))
    have key : ∀ (o5' : Value), ∃ h', (∀ Q, WP (d + 2) mX1_mostLeft (0, 0) 25 [some (.ref (39 : Nat)), some (.int (nI y)), some (.int (nI (mxC (fun p => ctN (lfF a L y) p (i + 1)) 7))), some (.int (nI (i + 1))), some (.int (oI (soG a (L.getD i 0) y))), some o5'] [] h1 Q = Q (some (some (.int (nI (moN a L y))))) h') ∧ sx [41] h1 h' := fun o5' =>
      ih (i + 1) (by omega) h1 _ _ F hf (cS_w w (by omega)) (fun i2 h2 => by
        have := gA0 i2 h2
        simp only [h1, hI_wI]
        rw [if_neg (by decide), if_neg (by decide)]
        exact this) (by simp only [h1, hI_wI]; rw [if_neg (by decide)]; exact e6) (fun p hp => by
        simp only [h1, hI_wI, if_true]
        rw [upd_at, ctN]
        by_cases c : p = lfF a L y i
        · rw [if_pos c, if_pos c.symm, c]
        · rw [if_neg c, if_neg (fun e => c e.symm), Nat.add_zero]; exact hc p hp)
    obtain ⟨h', k1, k2⟩ := key (.int (nI (lfF a L y i)))
    refine ⟨h', fun Q => ?_, sx_trans (sx_w sx_refl (by simp)) k2⟩
    have k3 := k1 Q
    simp only [h1] at k3
    cases hso : soG a (L.getD i 0) y with
    | none =>
      have e : lfF a L y i = 6 := by unfold lfF; rw [hso]; rfl
      rw [hso] at so q k3
      rw [e] at v cl hq k3 hm
      simp (implicitDefEqProofs := false) only [rX1_mostLeft_25, rX1_mostLeft_26, rX1_mostLeft_26b, rX1_mostLeft_27, rX1_mostLeft_30, rX1_mostLeft_33, rX1_mostLeft_33b, rX1_mostLeft_34, rX1_mostLeft_35, rX1_mostLeft_36, rX1_mostLeft_39, rX1_mostLeft_41, rX1_mostLeft_43, rX1_mostLeft_45, rX1_mostLeft_48, rX1_mostLeft_50, rX1_mostLeft_53, rX1_mostLeft_55, rX1_mostLeft_57, rX1_mostLeft_57b, rX1_mostLeft_58, rX1_mostLeft_61, rX1_mostLeft_63, rX1_mostLeft_64, rX1_mostLeft_65, rX1_mostLeft_66, rX1_mostLeft_67, rX1_mostLeft_68, rX1_mostLeft_69, rX1_mostLeft_69b, rX1_mostLeft_70, rX1_mostLeft_73, rX1_mostLeft_75, rX1_mostLeft_76, rX1_mostLeft_79, rX1_mostLeft_80, fin_39_0 F, fin_39_1 F, fin_39_2 F, fin_39_3 F, fin_39_4 F, kA_39, kB_39, kA_41, kB_41, pCX1_mostLeft, pSX1_mostLeft, pOX1_mostLeft, pLX1_mostLeft, pCX1_soonest, pSX1_soonest, pOX1_soonest, pLX1_soonest, e6, g1, so, oI, show (6 : Int32) = nI 6 from rfl, v, cl, hq, nI_1, hm, kl_I, kl_J, kl_R, kl_T, kl_N, Nat.le_refl, Nat.zero_le, List.map_nil, List.map_cons, List.sum_nil, List.sum_cons, c_I, c_J, c_R, c_T, va_rf, hI_wI, hJ_wJ, hR_wR, hI_J, hI_R, hJ_I, hJ_R, hR_I, hR_J, hN_I, hN_J, hN_R, wI_I, wJ_J, upd_at, updL_at, kR_s, Option.toList, List.append_nil, List.nil_append, List.cons_append, if_true, if_false, reduceIte, Bool.false_eq_true, not_true_eq_false, not_false_eq_true, true_and, and_true, false_and, and_false, true_or, or_true,  Nat.reduceEqDiff, Nat.reduceAdd, Nat.reduceLeDiff]
      rw [rX1_mostLeft_83]
      exact k3
    | some x =>
      have e : lfF a L y i = x := by unfold lfF; rw [hso]; rfl
      rw [hso] at so q k3
      rw [e] at v cl hq k3 hm
      simp only [oI, reduceCtorEq, eq_iff_iff, iff_false] at q
      simp (implicitDefEqProofs := false) only [rX1_mostLeft_25, rX1_mostLeft_26, rX1_mostLeft_26b, rX1_mostLeft_27, rX1_mostLeft_30, rX1_mostLeft_33, rX1_mostLeft_33b, rX1_mostLeft_34, rX1_mostLeft_35, rX1_mostLeft_36, rX1_mostLeft_39, rX1_mostLeft_41, rX1_mostLeft_43, rX1_mostLeft_45, rX1_mostLeft_48, rX1_mostLeft_50, rX1_mostLeft_53, rX1_mostLeft_55, rX1_mostLeft_57, rX1_mostLeft_57b, rX1_mostLeft_58, rX1_mostLeft_61, rX1_mostLeft_63, rX1_mostLeft_64, rX1_mostLeft_65, rX1_mostLeft_66, rX1_mostLeft_67, rX1_mostLeft_68, rX1_mostLeft_69, rX1_mostLeft_69b, rX1_mostLeft_70, rX1_mostLeft_73, rX1_mostLeft_75, rX1_mostLeft_76, rX1_mostLeft_79, rX1_mostLeft_80, fin_39_0 F, fin_39_1 F, fin_39_2 F, fin_39_3 F, fin_39_4 F, kA_39, kB_39, kA_41, kB_41, pCX1_mostLeft, pSX1_mostLeft, pOX1_mostLeft, pLX1_mostLeft, pCX1_soonest, pSX1_soonest, pOX1_soonest, pLX1_soonest, e6, g1, so, oI, q, v, cl, hq, nI_1, hm, kl_I, kl_J, kl_R, kl_T, kl_N, Nat.le_refl, Nat.zero_le, List.map_nil, List.map_cons, List.sum_nil, List.sum_cons, c_I, c_J, c_R, c_T, va_rf, hI_wI, hJ_wJ, hR_wR, hI_J, hI_R, hJ_I, hJ_R, hR_I, hR_J, hN_I, hN_J, hN_R, wI_I, wJ_J, upd_at, updL_at, kR_s, Option.toList, List.append_nil, List.nil_append, List.cons_append, if_true, if_false, reduceIte, Bool.false_eq_true, not_true_eq_false, not_false_eq_true, true_and, and_true, false_and, and_false, true_or, or_true,  Nat.reduceEqDiff, Nat.reduceAdd, Nat.reduceLeDiff]
      rw [rX1_mostLeft_83]
      exact k3
theorem ct0 {f : Nat → Nat} : mxC (fun p => ctN f p 0) 7 = 0 := by simp [mxC, ctN]
theorem c_mostLeft {d : Nat} {h : qH} {s : Nat} {a : aS} {L : List Nat} {y : Nat} (F : Fin0 (hR h)) (hf : hR h 32 0 = some s) (w : cS h s a) (gA0 : gA h a L) (e6 : hI h 39 6 = nI L.length) (hL : ∀ g ∈ L, g < 121) (hl : L.length ≤ 121) (hy : y < 2 ^ 31) : ∃ h', (∀ Q, WM (d + 2) mX1_mostLeft [.ref (39 : Nat), .int (nI y)] h Q = Q (some (some (.int (nI (moN a L y))))) h') ∧ sx [41] h h' := by
  have ⟨h', k1, k2⟩ := l_most2 (d := d) (s := s) (a := a) hL hl hy L.length 0 (by omega) (wI h 41 (fil 7 (fun _ => 0) (hI h 41))) none none F hf (cS_w w (by omega)) (fun i2 h2 => by
    have := gA0 i2 h2
    simp only [hI_wI]
    rw [if_neg (by decide), if_neg (by decide)]
    exact this) (by simp only [hI_wI]; rw [if_neg (by decide)]; exact e6) (fun p hp => by
    rw [hI_wI, if_pos rfl, fil_at hp, ctN, nI_0])
  refine ⟨h', fun Q => ?_, sx_trans (sx_w sx_refl (by simp)) k2⟩
  have l1 := l_most1 (d := d + 2) (h := h) (y := nI y) (o3 := none) (o4 := none) (o5 := none) (Q := Q) F 7 0 (by omega)
  rw [nI_0, fil_0, wI_same] at l1
  have k3 := k1 Q
  rw [ct0, nI_0] at k3
  simp (implicitDefEqProofs := false) only [eX1_mostLeft, rX1_mostLeft_0, rX1_mostLeft_1, kl_I, kl_J, kl_R, kl_T, kl_N, Nat.le_refl, Nat.zero_le, List.map_nil, List.map_cons, List.sum_nil, List.sum_cons, c_I, c_J, c_R, c_T, va_rf, hI_wI, hJ_wJ, hR_wR, hI_J, hI_R, hJ_I, hJ_R, hR_I, hR_J, hN_I, hN_J, hN_R, wI_I, wJ_J, upd_at, updL_at, kR_s, Option.toList, List.append_nil, List.nil_append, List.cons_append, if_true, if_false, reduceIte, Bool.false_eq_true, not_true_eq_false, not_false_eq_true, true_and, and_true, false_and, and_false, true_or, or_true,  Nat.reduceEqDiff, Nat.reduceAdd, Nat.reduceLeDiff]
  rw [l1]
  simp (implicitDefEqProofs := false) only [rX1_mostLeft_21, rX1_mostLeft_22, rX1_mostLeft_23, rX1_mostLeft_24, kl_I, kl_J, kl_R, kl_T, kl_N, Nat.le_refl, Nat.zero_le, List.map_nil, List.map_cons, List.sum_nil, List.sum_cons, c_I, c_J, c_R, c_T, va_rf, hI_wI, hJ_wJ, hR_wR, hI_J, hI_R, hJ_I, hJ_R, hR_I, hR_J, hN_I, hN_J, hN_R, wI_I, wJ_J, upd_at, updL_at, kR_s, Option.toList, List.append_nil, List.nil_append, List.cons_append, if_true, if_false, reduceIte, Bool.false_eq_true, not_true_eq_false, not_false_eq_true, true_and, and_true, false_and, and_false, true_or, or_true,  Nat.reduceEqDiff, Nat.reduceAdd, Nat.reduceLeDiff]
  exact k3

def tyL (f : Nat → Nat) : Nat → Nat → Option (Nat × Nat) → Option (Nat × Nat)
  | 0, _, b => b
  | k + 1, i, b => tyL f k (i + 1) (match b with
    | none => some (i, f i)
    | some q => if f i < q.2 then some (i, f i) else some q)
noncomputable def tyN (a : aS) (L : List Nat) : Option (Nat × Nat) := if L = [] then none else tyL (moN a L) 21 0 none
/-- the best day, and what is left -/
def tyH (h : qH) (b : Option (Nat × Nat)) : Prop := hI h 39 7 = oI (b.map (·.1)) ∧ hI h 39 8 = oI (b.map (·.2)) ∧ ∀ q, b = some q → q.1 ≤ 20 ∧ q.2 ≤ 121
theorem gA_sx {K : List Nat} {h h' : qH} {a : aS} {L : List Nat} (g : gA h a L) (x : sx K h h') (h2 : 42 ∉ K) (h3 : 43 ∉ K) : gA h' a L := by
  intro i hi
  rw [x.2.2.2 42 h2, x.2.2.2 43 h3]
  exact g i hi
theorem moN_le {a : aS} {L : List Nat} {y : Nat} : moN a L y ≤ L.length := mxC_le (fun _ => ctN_le _) 7
theorem l_makeTry {d : Nat} {s : Nat} {a : aS} {L : List Nat} (hL : ∀ g ∈ L, g < 121) (hl : L.length ≤ 121) (h0 : 0 < L.length) : ∀ (k i : Nat), i + k = 21 → ∀ (h : qH) (o2 : Option Value) (b : Option (Nat × Nat)) (F : Fin0 (hR h)) (hf : hR h 32 0 = some s) (w : cS h s a) (gA0 : gA h a L) (e6 : hI h 39 6 = nI L.length) (t : tyH h b), ∃ h', (∀ Q, WP (d + 3) mX1_makeTry (0, 0) 14 [some (.ref (39 : Nat)), some (.int (nI i)), o2] [] h Q = Q (some none) h') ∧ sx [39, 41] h h' ∧ (∀ j, j ≠ 7 → j ≠ 8 → hI h' 39 j = hI h 39 j) ∧ tyH h' (tyL (moN a L) k i b) := by
  intro k
  induction k with
  | zero =>
    intro i hi h o2 b F hf w gA0 e6 t
    obtain rfl : i = 21 := by omega
    refine ⟨h, fun Q => ?_, sx_refl, fun _ _ _ => rfl, t⟩
    simp (implicitDefEqProofs := false) only [rX1_makeTry_14, rX1_makeTry_15, rX1_makeTry_17, rX1_makeTry_20, rX1_makeTry_20b, rX1_makeTry_21, rX1_makeTry_24, rX1_makeTry_66, fin_39_0 F, fin_39_1 F, fin_39_2 F, fin_39_3 F, fin_39_4 F, kA_39, kB_39, kA_41, kB_41, pCX1_makeTry, pSX1_makeTry, pOX1_makeTry, pLX1_makeTry, show (20 : Int32) < nI 21 from by decide, kl_I, kl_J, kl_R, kl_T, kl_N, Nat.le_refl, Nat.zero_le, List.map_nil, List.map_cons, List.sum_nil, List.sum_cons, c_I, c_J, c_R, c_T, va_rf, hI_wI, hJ_wJ, hR_wR, hI_J, hI_R, hJ_I, hJ_R, hR_I, hR_J, hN_I, hN_J, hN_R, wI_I, wJ_J, upd_at, updL_at, kR_s, Option.toList, List.append_nil, List.nil_append, List.cons_append, if_true, if_false, reduceIte, Bool.false_eq_true, not_true_eq_false, not_false_eq_true, true_and, and_true, false_and, and_false, true_or, or_true,  Nat.reduceEqDiff, Nat.reduceAdd, Nat.reduceLeDiff]
  | succ k ih =>
    intro i hi h o2 b F hf w gA0 e6 t
    have g1 : (20 < nI i) = (20 < i) := ngt (x := i) (k := 20) (c := 20) rfl (by omega) (by omega)
    have c : ¬ 20 < i := by omega
    have g2 : ¬ nI L.length ≤ 0 := nI_nle h0 (by omega)
    obtain ⟨h1, k1, k2⟩ := c_mostLeft (d := d) (y := i) F hf w gA0 e6 hL hl (by omega)
    have ml := moN_le (a := a) (L := L) (y := i)
    obtain ⟨t1, t2, t3⟩ := t
    have e39 := k2.2.2.2 39 (by simp)
    have new : ∀ (o2' : Value), ∃ h', (∀ Q, WP (d + 3) mX1_makeTry (0, 0) 14 [some (.ref (39 : Nat)), some (.int (nI (i + 1))), some o2'] [] (wI h1 39 (upd (upd (hI h1 39) 7 (nI i)) 8 (nI (moN a L i)))) Q = Q (some none) h') ∧ sx [39, 41] (wI h1 39 (upd (upd (hI h1 39) 7 (nI i)) 8 (nI (moN a L i)))) h' ∧ (∀ j, j ≠ 7 → j ≠ 8 → hI h' 39 j = hI (wI h1 39 (upd (upd (hI h1 39) 7 (nI i)) 8 (nI (moN a L i)))) 39 j) ∧ tyH h' (tyL (moN a L) k (i + 1) (some (i, moN a L i))) := fun o2' => by
      have sx2 : sx [39, 41] h (wI h1 39 (upd (upd (hI h1 39) 7 (nI i)) 8 (nI (moN a L i)))) := sx_w (sx_mono k2 (by simp)) (by simp)
      refine ih (i + 1) (by omega) _ _ (some (i, moN a L i)) (Fin_sx F sx2) (by rw [sx2.1]; exact hf) (cS_sx w sx2 (by simp)) (gA_sx gA0 sx2 (by simp) (by simp)) ?_ ⟨?_, ?_, ?_⟩
      · rw [hI_wI, if_pos rfl, upd_at, if_neg (by decide), upd_at, if_neg (by decide), e39]; exact e6
      · rw [hI_wI, if_pos rfl, upd_at, if_neg (by decide), upd_at, if_pos rfl]; rfl
      · rw [hI_wI, if_pos rfl, upd_at, if_pos rfl]; rfl
      · intro q hq
        simp only [Option.some.injEq] at hq
        subst hq
        simp only
        omega
    have old : ∀ (o2' : Value), ∃ h', (∀ Q, WP (d + 3) mX1_makeTry (0, 0) 14 [some (.ref (39 : Nat)), some (.int (nI (i + 1))), some o2'] [] h1 Q = Q (some none) h') ∧ sx [39, 41] h1 h' ∧ (∀ j, j ≠ 7 → j ≠ 8 → hI h' 39 j = hI h1 39 j) ∧ tyH h' (tyL (moN a L) k (i + 1) b) := fun o2' =>
      ih (i + 1) (by omega) _ _ b (Fin_sx F k2) (by rw [k2.1]; exact hf) (cS_sx w k2 (by simp)) (gA_sx gA0 k2 (by simp) (by simp)) (by rw [e39]; exact e6) ⟨by rw [e39]; exact t1, by rw [e39]; exact t2, t3⟩
    have F1 := Fin_sx F k2
    cases b with
    | none =>
      obtain ⟨h', m1, m2, m3, m4⟩ := new (.int (nI (moN a L i)))
      refine ⟨h', fun Q => ?_, sx_trans (sx_w (sx_mono k2 (by simp)) (by simp)) m2, fun j h7 h8 => ?_, m4⟩
      · have m5 := m1 Q
        simp (implicitDefEqProofs := false) only [rX1_makeTry_14, rX1_makeTry_15, rX1_makeTry_17, rX1_makeTry_20, rX1_makeTry_20b, rX1_makeTry_21, rX1_makeTry_24, rX1_makeTry_27, rX1_makeTry_27b, rX1_makeTry_28, rX1_makeTry_29, rX1_makeTry_32, rX1_makeTry_33, rX1_makeTry_33b, rX1_makeTry_34, rX1_makeTry_37, rX1_makeTry_39, rX1_makeTry_42, rX1_makeTry_43, rX1_makeTry_43b, rX1_makeTry_44, rX1_makeTry_47, rX1_makeTry_50, rX1_makeTry_50b, rX1_makeTry_51, rX1_makeTry_52, rX1_makeTry_55, rX1_makeTry_55b, rX1_makeTry_56, rX1_makeTry_57, rX1_makeTry_60, fin_39_0 F1, fin_39_1 F1, fin_39_2 F1, fin_39_3 F1, fin_39_4 F1, kA_39, kB_39, kA_41, kB_41, pCX1_makeTry, pSX1_makeTry, pOX1_makeTry, pLX1_makeTry, pCX1_mostLeft, pSX1_mostLeft, pOX1_mostLeft, pLX1_mostLeft, e6, g1, g2, c, k1, e39, t1, Option.map, oI, kl_I, kl_J, kl_R, kl_T, kl_N, Nat.le_refl, Nat.zero_le, List.map_nil, List.map_cons, List.sum_nil, List.sum_cons, c_I, c_J, c_R, c_T, va_rf, hI_wI, hJ_wJ, hR_wR, hI_J, hI_R, hJ_I, hJ_R, hR_I, hR_J, hN_I, hN_J, hN_R, wI_I, wJ_J, upd_at, updL_at, kR_s, Option.toList, List.append_nil, List.nil_append, List.cons_append, if_true, if_false, reduceIte, Bool.false_eq_true, not_true_eq_false, not_false_eq_true, true_and, and_true, false_and, and_false, true_or, or_true,  Nat.reduceEqDiff, Nat.reduceAdd, Nat.reduceLeDiff]
        rw [rX1_makeTry_63, nI_1, ← e39]
        exact m5
      · rw [m3 j h7 h8, hI_wI, if_pos rfl, upd_at, if_neg h8, upd_at, if_neg h7, e39]
    | some q =>
      obtain ⟨b1, b2⟩ := t3 q rfl
      have t1' : hI h 39 7 = nI q.1 := t1
      have t2' : hI h 39 8 = nI q.2 := t2
      have q1 : ¬ nI q.1 = -2 := by
        have := oI_none (o := some q.1) (fun x hx => by simp only [Option.some.injEq] at hx; omega)
        simp only [oI, reduceCtorEq, eq_iff_iff, iff_false] at this
        exact this
      have q2 : (nI q.2 ≤ nI (moN a L i)) = (q.2 ≤ moN a L i) := propext (nI_leI (by omega) (by omega))
      by_cases c2 : moN a L i < q.2
      · have c3 : ¬ q.2 ≤ moN a L i := by omega
        obtain ⟨h', m1, m2, m3, m4⟩ := new (.int (nI (moN a L i)))
        refine ⟨h', fun Q => ?_, sx_trans (sx_w (sx_mono k2 (by simp)) (by simp)) m2, fun j h7 h8 => ?_, ?_⟩
        · have m5 := m1 Q
          simp (implicitDefEqProofs := false) only [rX1_makeTry_14, rX1_makeTry_15, rX1_makeTry_17, rX1_makeTry_20, rX1_makeTry_20b, rX1_makeTry_21, rX1_makeTry_24, rX1_makeTry_27, rX1_makeTry_27b, rX1_makeTry_28, rX1_makeTry_29, rX1_makeTry_32, rX1_makeTry_33, rX1_makeTry_33b, rX1_makeTry_34, rX1_makeTry_37, rX1_makeTry_39, rX1_makeTry_42, rX1_makeTry_43, rX1_makeTry_43b, rX1_makeTry_44, rX1_makeTry_47, rX1_makeTry_50, rX1_makeTry_50b, rX1_makeTry_51, rX1_makeTry_52, rX1_makeTry_55, rX1_makeTry_55b, rX1_makeTry_56, rX1_makeTry_57, rX1_makeTry_60, fin_39_0 F1, fin_39_1 F1, fin_39_2 F1, fin_39_3 F1, fin_39_4 F1, kA_39, kB_39, kA_41, kB_41, pCX1_makeTry, pSX1_makeTry, pOX1_makeTry, pLX1_makeTry, pCX1_mostLeft, pSX1_mostLeft, pOX1_mostLeft, pLX1_mostLeft, e6, g1, g2, c, k1, e39, t1', t2', q1, q2, c3, kl_I, kl_J, kl_R, kl_T, kl_N, Nat.le_refl, Nat.zero_le, List.map_nil, List.map_cons, List.sum_nil, List.sum_cons, c_I, c_J, c_R, c_T, va_rf, hI_wI, hJ_wJ, hR_wR, hI_J, hI_R, hJ_I, hJ_R, hR_I, hR_J, hN_I, hN_J, hN_R, wI_I, wJ_J, upd_at, updL_at, kR_s, Option.toList, List.append_nil, List.nil_append, List.cons_append, if_true, if_false, reduceIte, Bool.false_eq_true, not_true_eq_false, not_false_eq_true, true_and, and_true, false_and, and_false, true_or, or_true,  Nat.reduceEqDiff, Nat.reduceAdd, Nat.reduceLeDiff]
          rw [rX1_makeTry_63, nI_1, ← e39]
          exact m5
        · rw [m3 j h7 h8, hI_wI, if_pos rfl, upd_at, if_neg h8, upd_at, if_neg h7, e39]
        · rw [tyL]
          simp only [if_pos c2]
          exact m4
      · have c3 : q.2 ≤ moN a L i := by omega
        obtain ⟨h', m1, m2, m3, m4⟩ := old (.int (nI (moN a L i)))
        refine ⟨h', fun Q => ?_, sx_trans (sx_mono k2 (by simp)) m2, fun j h7 h8 => ?_, ?_⟩
        · have m5 := m1 Q
          simp (implicitDefEqProofs := false) only [rX1_makeTry_14, rX1_makeTry_15, rX1_makeTry_17, rX1_makeTry_20, rX1_makeTry_20b, rX1_makeTry_21, rX1_makeTry_24, rX1_makeTry_27, rX1_makeTry_27b, rX1_makeTry_28, rX1_makeTry_29, rX1_makeTry_32, rX1_makeTry_33, rX1_makeTry_33b, rX1_makeTry_34, rX1_makeTry_37, rX1_makeTry_39, rX1_makeTry_42, rX1_makeTry_43, rX1_makeTry_43b, rX1_makeTry_44, rX1_makeTry_47, rX1_makeTry_50, rX1_makeTry_50b, rX1_makeTry_51, rX1_makeTry_52, rX1_makeTry_55, rX1_makeTry_55b, rX1_makeTry_56, rX1_makeTry_57, rX1_makeTry_60, fin_39_0 F1, fin_39_1 F1, fin_39_2 F1, fin_39_3 F1, fin_39_4 F1, kA_39, kB_39, kA_41, kB_41, pCX1_makeTry, pSX1_makeTry, pOX1_makeTry, pLX1_makeTry, pCX1_mostLeft, pSX1_mostLeft, pOX1_mostLeft, pLX1_mostLeft, e6, g1, g2, c, k1, e39, t1', t2', q1, q2, c3, kl_I, kl_J, kl_R, kl_T, kl_N, Nat.le_refl, Nat.zero_le, List.map_nil, List.map_cons, List.sum_nil, List.sum_cons, c_I, c_J, c_R, c_T, va_rf, hI_wI, hJ_wJ, hR_wR, hI_J, hI_R, hJ_I, hJ_R, hR_I, hR_J, hN_I, hN_J, hN_R, wI_I, wJ_J, upd_at, updL_at, kR_s, Option.toList, List.append_nil, List.nil_append, List.cons_append, if_true, if_false, reduceIte, Bool.false_eq_true, not_true_eq_false, not_false_eq_true, true_and, and_true, false_and, and_false, true_or, or_true,  Nat.reduceEqDiff, Nat.reduceAdd, Nat.reduceLeDiff]
          rw [rX1_makeTry_63, nI_1]
          exact m5
        · rw [m3 j h7 h8, e39]
        · rw [tyL]
          simp only [if_neg c2]
          exact m4
theorem c_makeTry {d : Nat} {h : qH} {s : Nat} {a : aS} {L : List Nat} (hL : ∀ g ∈ L, g < 121) (hl : L.length ≤ 121) (F : Fin0 (hR h)) (hf : hR h 32 0 = some s) (w : cS h s a) (gA0 : gA h a L) (e6 : hI h 39 6 = nI L.length) : ∃ h', (∀ Q, WM (d + 3) mX1_makeTry [.ref (39 : Nat)] h Q = Q (some none) h') ∧ sx [39, 41] h h' ∧ (∀ j, j ≠ 7 → j ≠ 8 → hI h' 39 j = hI h 39 j) ∧ tyH h' (tyN a L) := by
  have s1 : sx [39, 41] h (wI h 39 (upd (upd (hI h 39) 7 (-2)) 8 (-2))) := sx_w sx_refl (by simp)
  have ty0 : tyH (wI h 39 (upd (upd (hI h 39) 7 (-2)) 8 (-2))) none := by
    refine ⟨?_, ?_, fun q hq => by cases hq⟩
    · simp (implicitDefEqProofs := false) only [hI_wI, upd_at, Option.map, oI, kl_I, kl_J, kl_R, kl_T, kl_N, Nat.le_refl, Nat.zero_le, List.map_nil, List.map_cons, List.sum_nil, List.sum_cons, c_I, c_J, c_R, c_T, va_rf, hI_wI, hJ_wJ, hR_wR, hI_J, hI_R, hJ_I, hJ_R, hR_I, hR_J, hN_I, hN_J, hN_R, wI_I, wJ_J, upd_at, updL_at, kR_s, Option.toList, List.append_nil, List.nil_append, List.cons_append, if_true, if_false, reduceIte, Bool.false_eq_true, not_true_eq_false, not_false_eq_true, true_and, and_true, false_and, and_false, true_or, or_true,  Nat.reduceEqDiff, Nat.reduceAdd, Nat.reduceLeDiff]
    · simp (implicitDefEqProofs := false) only [hI_wI, upd_at, Option.map, oI, kl_I, kl_J, kl_R, kl_T, kl_N, Nat.le_refl, Nat.zero_le, List.map_nil, List.map_cons, List.sum_nil, List.sum_cons, c_I, c_J, c_R, c_T, va_rf, hI_wI, hJ_wJ, hR_wR, hI_J, hI_R, hJ_I, hJ_R, hR_I, hR_J, hN_I, hN_J, hN_R, wI_I, wJ_J, upd_at, updL_at, kR_s, Option.toList, List.append_nil, List.nil_append, List.cons_append, if_true, if_false, reduceIte, Bool.false_eq_true, not_true_eq_false, not_false_eq_true, true_and, and_true, false_and, and_false, true_or, or_true,  Nat.reduceEqDiff, Nat.reduceAdd, Nat.reduceLeDiff]
  have e6' : hI (wI h 39 (upd (upd (hI h 39) 7 (-2)) 8 (-2))) 39 6 = nI L.length := by simp (implicitDefEqProofs := false) only [hI_wI, upd_at, e6, kl_I, kl_J, kl_R, kl_T, kl_N, Nat.le_refl, Nat.zero_le, List.map_nil, List.map_cons, List.sum_nil, List.sum_cons, c_I, c_J, c_R, c_T, va_rf, hI_wI, hJ_wJ, hR_wR, hI_J, hI_R, hJ_I, hJ_R, hR_I, hR_J, hN_I, hN_J, hN_R, wI_I, wJ_J, upd_at, updL_at, kR_s, Option.toList, List.append_nil, List.nil_append, List.cons_append, if_true, if_false, reduceIte, Bool.false_eq_true, not_true_eq_false, not_false_eq_true, true_and, and_true, false_and, and_false, true_or, or_true,  Nat.reduceEqDiff, Nat.reduceAdd, Nat.reduceLeDiff]
  by_cases c : L = []
  · refine ⟨wI h 39 (upd (upd (hI h 39) 7 (-2)) 8 (-2)), fun Q => ?_, s1, fun j h7 h8 => ?_, ?_⟩
    · have e60 : hI h 39 6 = 0 := by rw [e6, c]; rfl
      simp (implicitDefEqProofs := false) only [eX1_makeTry, rX1_makeTry_0, rX1_makeTry_0b, rX1_makeTry_1, rX1_makeTry_3, rX1_makeTry_6, rX1_makeTry_6b, rX1_makeTry_7, rX1_makeTry_9, rX1_makeTry_12, rX1_makeTry_13, rX1_makeTry_14, rX1_makeTry_15, rX1_makeTry_17, rX1_makeTry_20, rX1_makeTry_20b, rX1_makeTry_21, rX1_makeTry_24, rX1_makeTry_27, rX1_makeTry_27b, rX1_makeTry_28, rX1_makeTry_29, rX1_makeTry_32, rX1_makeTry_33, rX1_makeTry_33b, rX1_makeTry_34, rX1_makeTry_37, rX1_makeTry_39, rX1_makeTry_42, rX1_makeTry_43, rX1_makeTry_43b, rX1_makeTry_44, rX1_makeTry_47, rX1_makeTry_50, rX1_makeTry_50b, rX1_makeTry_51, rX1_makeTry_52, rX1_makeTry_55, rX1_makeTry_55b, rX1_makeTry_56, rX1_makeTry_57, rX1_makeTry_60, rX1_makeTry_63, rX1_makeTry_66, fin_39_0 F, fin_39_1 F, fin_39_2 F, fin_39_3 F, fin_39_4 F, kA_39, kB_39, kA_41, kB_41, pCX1_makeTry, pSX1_makeTry, pOX1_makeTry, pLX1_makeTry, e60, Int32.le_refl, show ¬ (20 : Int32) < 0 from by decide, kl_I, kl_J, kl_R, kl_T, kl_N, Nat.le_refl, Nat.zero_le, List.map_nil, List.map_cons, List.sum_nil, List.sum_cons, c_I, c_J, c_R, c_T, va_rf, hI_wI, hJ_wJ, hR_wR, hI_J, hI_R, hJ_I, hJ_R, hR_I, hR_J, hN_I, hN_J, hN_R, wI_I, wJ_J, upd_at, updL_at, kR_s, Option.toList, List.append_nil, List.nil_append, List.cons_append, if_true, if_false, reduceIte, Bool.false_eq_true, not_true_eq_false, not_false_eq_true, true_and, and_true, false_and, and_false, true_or, or_true,  Nat.reduceEqDiff, Nat.reduceAdd, Nat.reduceLeDiff]
    · rw [hI_wI, if_pos rfl, upd_at, if_neg h8, upd_at, if_neg h7]
    · rw [tyN, if_pos c]; exact ty0
  · have h0 : 0 < L.length := List.length_pos_iff.mpr c
    obtain ⟨h', k1, k2, k3, k4⟩ := l_makeTry (d := d) (s := s) (a := a) hL hl h0 21 0 (by omega) _ none none (Fin_sx F s1) (by rw [s1.1]; exact hf) (cS_sx w s1 (by simp)) (gA_sx gA0 s1 (by simp) (by simp)) e6' ty0
    refine ⟨h', fun Q => ?_, sx_trans s1 k2, fun j h7 h8 => ?_, ?_⟩
    · have k5 := k1 Q
      rw [nI_0] at k5
      simp (implicitDefEqProofs := false) only [eX1_makeTry, rX1_makeTry_0, rX1_makeTry_0b, rX1_makeTry_1, rX1_makeTry_3, rX1_makeTry_6, rX1_makeTry_6b, rX1_makeTry_7, rX1_makeTry_9, rX1_makeTry_12, rX1_makeTry_13, fin_39_0 F, fin_39_1 F, fin_39_2 F, fin_39_3 F, fin_39_4 F, kA_39, kB_39, kA_41, kB_41, pCX1_makeTry, pSX1_makeTry, pOX1_makeTry, pLX1_makeTry, kl_I, kl_J, kl_R, kl_T, kl_N, Nat.le_refl, Nat.zero_le, List.map_nil, List.map_cons, List.sum_nil, List.sum_cons, c_I, c_J, c_R, c_T, va_rf, hI_wI, hJ_wJ, hR_wR, hI_J, hI_R, hJ_I, hJ_R, hR_I, hR_J, hN_I, hN_J, hN_R, wI_I, wJ_J, upd_at, updL_at, kR_s, Option.toList, List.append_nil, List.nil_append, List.cons_append, if_true, if_false, reduceIte, Bool.false_eq_true, not_true_eq_false, not_false_eq_true, true_and, and_true, false_and, and_false, true_or, or_true,  Nat.reduceEqDiff, Nat.reduceAdd, Nat.reduceLeDiff]
      exact k5
    · rw [k3 j h7 h8, hI_wI, if_pos rfl, upd_at, if_neg h8, upd_at, if_neg h7]
    · rw [tyN, if_neg c]; exact k4
