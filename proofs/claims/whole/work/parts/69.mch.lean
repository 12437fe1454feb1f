/-! ===== the model: chances ===== -/
def pmN (a : aS) (t c : Nat) : Nat → Nat
  | 0 => 1
  | i + 1 => pmN a t c i * (if causeN a t i = none then (if c.testBit i = true then 0 else 1) else if c.testBit i = true then aBy a i else 100 - aBy a i)
theorem pm_st {a : aS} {t c : Nat} : ∀ (m i k : Nat), i + m = aN a → wtL a t c (m + k) i (pmN a t c i) = wtL a t c k (aN a) (pmN a t c (aN a))
  | 0, i, k, h => by
    obtain rfl : i = aN a := by omega
    rw [Nat.zero_add]
  | m + 1, i, k, h => by
    rw [← pm_st m (i + 1) k (by omega), show m + 1 + k = (m + k) + 1 by omega, wtL, pmN]
    by_cases c1 : causeN a t i = none
    · rw [if_neg (fun q => q.2 c1), if_pos c1]
      by_cases c2 : c.testBit i = true
      · rw [if_pos c2, if_pos c2, Nat.mul_zero, wtL_0]
      · rw [if_neg c2, if_neg c2, Nat.mul_one]
    · rw [if_pos ⟨by omega, c1⟩, if_neg c1]
theorem pm_hi {a : aS} {t c : Nat} : ∀ (k i p : Nat), aN a ≤ i → (∀ j, aN a ≤ j → c.testBit j = false) → wtL a t c k i p = p
  | 0, _, _, _, _ => rfl
  | k + 1, i, p, h1, h2 => by
    rw [wtL, if_neg (fun q => by omega), if_neg (by rw [h2 i h1]; simp)]
    exact pm_hi k (i + 1) p (by omega) h2
theorem pm_w {a : aS} (h6 : aN a ≤ 6) {t c : Nat} (hc : c < 2 ^ aN a) : pmN a t c (aN a) = wtN a t c := by
  unfold wtN
  have h1 := pm_st (a := a) (t := t) (c := c) (aN a) 0 (6 - aN a) (by omega)
  rw [show aN a + (6 - aN a) = 6 by omega] at h1
  rw [show (1 : Nat) = pmN a t c 0 from rfl, h1, pm_hi _ _ _ (Nat.le_refl _) (fun j hj => Nat.testBit_lt_two_pow (Nat.lt_of_lt_of_le hc (Nat.pow_le_pow_right (by omega) hj)))]
theorem ov_hi {a : aS} (w : aW a) {t y so x : Nat} : ∀ m, 2 ^ aN a + m ≤ 64 → ovN a t y so x (2 ^ aN a + m) = ovN a t y so x (2 ^ aN a)
  | 0, _ => rfl
  | m + 1, h => by
    have z : wtN a t (2 ^ aN a + m) = 0 := by
      rcases Nat.eq_zero_or_pos (wtN a t (2 ^ aN a + m)) with q | q
      · exact q
      · have := wtN_lt w (t := t) (c := 2 ^ aN a + m) (by omega) (by omega)
        omega
    rw [← Nat.add_assoc, ovN, ov_hi w m (by omega), z, Nat.zero_mul, Nat.add_zero]
theorem ov_64 {a : aS} (w : aW a) {t y so x : Nat} : ovN a t y so x 64 = ovN a t y so x (2 ^ aN a) := by
  have := p6 w.1
  have h := ov_hi w (t := t) (y := y) (so := so) (x := x) (64 - 2 ^ aN a) (by omega)
  rw [show 2 ^ aN a + (64 - 2 ^ aN a) = 64 by omega] at h
  exact h
theorem l_common {d : Nat} {h : qH} {U W : Int64} : ∀ (m A B : Nat) (o8 o9 : Option Value), B ≤ m → A < 2 ^ 63 → B < 2 ^ 63 → ∀ Q, WP d mX9_common (0, 0) 6 [some (.long U), none, some (.long W), none, some (.long (lN A)), none, some (.long (lN B)), none, o8, o9] [] h Q = Q (some (some (.long (lN (Nat.gcd A B))))) h := by
  intro m
  induction m with
  | zero =>
    intro A B o8 o9 h1 h2 h3 Q
    obtain rfl : B = 0 := by omega
    have cmp := lg0 (x := 0) (by decide)
    rw [if_pos rfl] at cmp
    simp (implicitDefEqProofs := false) only [rX9_common_6, rX9_common_8, rX9_common_9, rX9_common_10, rX9_common_13, rX9_common_15, rX9_common_17, rX9_common_18, rX9_common_20, rX9_common_22, rX9_common_24, rX9_common_26, rX9_common_31, rX9_common_33, pCX9_common, pSX9_common, pOX9_common, pLX9_common, cmp, Nat.gcd_zero_right, kl_I, kl_J, kl_R, kl_T, kl_N, Nat.le_refl, Nat.zero_le, List.map_nil, List.map_cons, List.sum_nil, List.sum_cons, c_I, c_J, c_R, c_T, va_rf, hI_wI, hJ_wJ, hR_wR, hI_J, hI_R, hJ_I, hJ_R, hR_I, hR_J, hN_I, hN_J, hN_R, wI_I, wJ_J, upd_at, updL_at, kR_s, Option.toList, List.append_nil, List.nil_append, List.cons_append, if_true, if_false, reduceIte, Bool.false_eq_true, not_true_eq_false, not_false_eq_true, true_and, and_true, false_and, and_false, true_or, or_true,  Nat.reduceEqDiff, Nat.reduceAdd, Nat.reduceLeDiff]
  | succ m ih =>
    intro A B o8 o9 h1 h2 h3 Q
    have cmp := lg0 (x := B) h3
    by_cases c : B = 0
    · subst c
      rw [if_pos rfl] at cmp
      simp (implicitDefEqProofs := false) only [rX9_common_6, rX9_common_8, rX9_common_9, rX9_common_10, rX9_common_13, rX9_common_15, rX9_common_17, rX9_common_18, rX9_common_20, rX9_common_22, rX9_common_24, rX9_common_26, rX9_common_31, rX9_common_33, pCX9_common, pSX9_common, pOX9_common, pLX9_common, cmp, Nat.gcd_zero_right, kl_I, kl_J, kl_R, kl_T, kl_N, Nat.le_refl, Nat.zero_le, List.map_nil, List.map_cons, List.sum_nil, List.sum_cons, c_I, c_J, c_R, c_T, va_rf, hI_wI, hJ_wJ, hR_wR, hI_J, hI_R, hJ_I, hJ_R, hR_I, hR_J, hN_I, hN_J, hN_R, wI_I, wJ_J, upd_at, updL_at, kR_s, Option.toList, List.append_nil, List.nil_append, List.cons_append, if_true, if_false, reduceIte, Bool.false_eq_true, not_true_eq_false, not_false_eq_true, true_and, and_true, false_and, and_false, true_or, or_true,  Nat.reduceEqDiff, Nat.reduceAdd, Nat.reduceLeDiff]
    · rw [if_neg c] at cmp
      have nz : ¬ lN B = 0 := fun q => c ((pk_lEQ h3 (by decide)).mp (q.trans (show (0 : Int64) = lN 0 from rfl)))
      have rm := pk_lRem (a := A) (b := B) h2 (by omega) h3
      have r1 : A % B < B := Nat.mod_lt _ (by omega)
      have gc : Nat.gcd A B = Nat.gcd B (A % B) := by rw [Nat.gcd_comm, Nat.gcd_rec B A, Nat.gcd_comm]
      have i1 := ih B (A % B) (some (.long (lN (A % B)))) none (by omega) h3 (by omega) Q
      rw [gc]
      simp (implicitDefEqProofs := false) only [rX9_common_6, rX9_common_8, rX9_common_9, rX9_common_10, rX9_common_13, rX9_common_15, rX9_common_17, rX9_common_18, rX9_common_20, rX9_common_22, rX9_common_24, rX9_common_26, pCX9_common, pSX9_common, pOX9_common, pLX9_common, cmp, nz, rm, show ¬ (1 : Int32) = 0 from by decide, kl_I, kl_J, kl_R, kl_T, kl_N, Nat.le_refl, Nat.zero_le, List.map_nil, List.map_cons, List.sum_nil, List.sum_cons, c_I, c_J, c_R, c_T, va_rf, hI_wI, hJ_wJ, hR_wR, hI_J, hI_R, hJ_I, hJ_R, hR_I, hR_J, hN_I, hN_J, hN_R, wI_I, wJ_J, upd_at, updL_at, kR_s, Option.toList, List.append_nil, List.nil_append, List.cons_append, if_true, if_false, reduceIte, Bool.false_eq_true, not_true_eq_false, not_false_eq_true, true_and, and_true, false_and, and_false, true_or, or_true,  Nat.reduceEqDiff, Nat.reduceAdd, Nat.reduceLeDiff]
      rw [rX9_common_28]
      exact i1
theorem c_common {d : Nat} {h : qH} {A B : Nat} (h2 : A < 2 ^ 63) (h3 : B < 2 ^ 63) : ∀ Q, WM d mX9_common [.long (lN A), .long (lN B)] h Q = Q (some (some (.long (lN (Nat.gcd A B))))) h := by
  intro Q
  simp (implicitDefEqProofs := false) only [eX9_common, rX9_common_0, rX9_common_1, rX9_common_3, rX9_common_4, pCX9_common, pSX9_common, pOX9_common, pLX9_common, kl_I, kl_J, kl_R, kl_T, kl_N, Nat.le_refl, Nat.zero_le, List.map_nil, List.map_cons, List.sum_nil, List.sum_cons, c_I, c_J, c_R, c_T, va_rf, hI_wI, hJ_wJ, hR_wR, hI_J, hI_R, hJ_I, hJ_R, hR_I, hR_J, hN_I, hN_J, hN_R, wI_I, wJ_J, upd_at, updL_at, kR_s, Option.toList, List.append_nil, List.nil_append, List.cons_append, if_true, if_false, reduceIte, Bool.false_eq_true, not_true_eq_false, not_false_eq_true, true_and, and_true, false_and, and_false, true_or, or_true,  Nat.reduceEqDiff, Nat.reduceAdd, Nat.reduceLeDiff]
  exact l_common (d := d) B A B none none (Nat.le_refl _) h2 h3 Q
theorem c_fraction {d : Nat} {h : qH} {U W : Nat} {lo : Bool} (hU : U < 2 ^ 63) (hW : W < 2 ^ 63) (hp : 0 < W) : ∀ Q, WM (d + 1) mX9_fraction [.ref (44 : Nat), .long (lN U), .long (lN W), .int (bI lo)] h Q = Q (some (some (.long (lN (fcN U W lo))))) (tm h 0) := by
  intro Q
  have gp : 0 < Nat.gcd U W := Nat.gcd_pos_of_pos_right _ hp
  have gl : Nat.gcd U W ≤ W := Nat.gcd_le_right _ hp
  have nz : ¬ lN (Nat.gcd U W) = 0 := fun q => by
    have := (pk_lEQ (by omega) (by decide)).mp (q.trans (show (0 : Int64) = lN 0 from rfl))
    omega
  have d1 := pk_lDiv (a := U) (b := Nat.gcd U W) hU gp (by omega)
  have d2 := pk_lDiv (a := W) (b := Nat.gcd U W) hW gp (by omega)
  have cm := c_common (d := d) (h := tm h 0) hU hW
  unfold fcN
  cases lo with
  | true => simp (implicitDefEqProofs := false) only [eX9_fraction, rX9_fraction_0, rX9_fraction_0b, rX9_fraction_1, rX9_fraction_2, rX9_fraction_5, rX9_fraction_6, rX9_fraction_8, rX9_fraction_11, rX9_fraction_12, rX9_fraction_15, rX9_fraction_16, rX9_fraction_17, rX9_fraction_18, rX9_fraction_21, rX9_fraction_22, kA_44, kB_44, c_mgood, cm, bI_t, nz, d1, d2, show ¬ (1 : Int32) = 0 from by decide, pCX9_fraction, pSX9_fraction, pOX9_fraction, pLX9_fraction, pCX9_good, pSX9_good, pOX9_good, pLX9_good, pCX9_common, pSX9_common, pOX9_common, pLX9_common, kl_I, kl_J, kl_R, kl_T, kl_N, Nat.le_refl, Nat.zero_le, List.map_nil, List.map_cons, List.sum_nil, List.sum_cons, c_I, c_J, c_R, c_T, va_rf, hI_wI, hJ_wJ, hR_wR, hI_J, hI_R, hJ_I, hJ_R, hR_I, hR_J, hN_I, hN_J, hN_R, wI_I, wJ_J, upd_at, updL_at, kR_s, Option.toList, List.append_nil, List.nil_append, List.cons_append, if_true, if_false, reduceIte, Bool.false_eq_true, not_true_eq_false, not_false_eq_true, true_and, and_true, false_and, and_false, true_or, or_true,  Nat.reduceEqDiff, Nat.reduceAdd, Nat.reduceLeDiff]
  | false => simp (implicitDefEqProofs := false) only [eX9_fraction, rX9_fraction_0, rX9_fraction_0b, rX9_fraction_1, rX9_fraction_2, rX9_fraction_5, rX9_fraction_6, rX9_fraction_8, rX9_fraction_11, rX9_fraction_12, rX9_fraction_15, rX9_fraction_16, rX9_fraction_17, rX9_fraction_18, rX9_fraction_21, rX9_fraction_22, kA_44, kB_44, c_mgood, cm, bI_f, nz, d1, d2, pCX9_fraction, pSX9_fraction, pOX9_fraction, pLX9_fraction, pCX9_good, pSX9_good, pOX9_good, pLX9_good, pCX9_common, pSX9_common, pOX9_common, pLX9_common, kl_I, kl_J, kl_R, kl_T, kl_N, Nat.le_refl, Nat.zero_le, List.map_nil, List.map_cons, List.sum_nil, List.sum_cons, c_I, c_J, c_R, c_T, va_rf, hI_wI, hJ_wJ, hR_wR, hI_J, hI_R, hJ_I, hJ_R, hR_I, hR_J, hN_I, hN_J, hN_R, wI_I, wJ_J, upd_at, updL_at, kR_s, Option.toList, List.append_nil, List.nil_append, List.cons_append, if_true, if_false, reduceIte, Bool.false_eq_true, not_true_eq_false, not_false_eq_true, true_and, and_true, false_and, and_false, true_or, or_true,  Nat.reduceEqDiff, Nat.reduceAdd, Nat.reduceLeDiff]
/-- loops of chances -/
theorem l_ch1 {d : Nat} {h : qH} {y : Int32} (F : Fin0 (hR h)) : ∀ (m i : Nat), i + m = 6 → ∀ (G : Nat → Int64), (∀ j, j < i → G j = 0) → ∃ G', (∀ j, j < 6 → G' j = 0) ∧ ∀ Q, WP d mX9_chances (0, 0) 17 [some (.ref (44 : Nat)), some (.int y), some (.int (nI i)), none, none, none, none] [] (wJ h 54 G) Q = WP d mX9_chances (0, 0) 36 [some (.ref (44 : Nat)), some (.int y), some (.int (nI 6)), none, none, none, none] [] (wJ h 54 G') Q := by
  intro m
  induction m with
  | zero =>
    intro i hi G hG
    obtain rfl : i = 6 := by omega
    refine ⟨G, hG, fun Q => ?_⟩
    simp (implicitDefEqProofs := false) only [rX9_chances_17, rX9_chances_18, rX9_chances_20, rX9_chances_23, rX9_chances_23b, rX9_chances_24, rX9_chances_27, rX9_chances_28, rX9_chances_29, show (6 : Int32) ≤ nI 6 from by decide, pCX9_chances, pSX9_chances, pOX9_chances, pLX9_chances, kl_I, kl_J, kl_R, kl_T, kl_N, Nat.le_refl, Nat.zero_le, List.map_nil, List.map_cons, List.sum_nil, List.sum_cons, c_I, c_J, c_R, c_T, va_rf, hI_wI, hJ_wJ, hR_wR, hI_J, hI_R, hJ_I, hJ_R, hR_I, hR_J, hN_I, hN_J, hN_R, wI_I, wJ_J, upd_at, updL_at, kR_s, Option.toList, List.append_nil, List.nil_append, List.cons_append, if_true, if_false, reduceIte, Bool.false_eq_true, not_true_eq_false, not_false_eq_true, true_and, and_true, false_and, and_false, true_or, or_true,  Nat.reduceEqDiff, Nat.reduceAdd, Nat.reduceLeDiff]
  | succ m ih =>
    intro i hi G hG
    have v6 : vp_in (nI i) 6 := nI_vp (by omega) (by decide)
    have cl : (nI i).toNatClampNeg = i := nI_cl (by omega)
    obtain ⟨G', h1, h2⟩ := ih (i + 1) (by omega) (vp_updL G i 0) (fun j hj => by
      rw [updL_at]
      split
      · rfl
      · exact hG j (by omega))
    refine ⟨G', h1, fun Q => ?_⟩
    have h2 := h2 Q
    simp (implicitDefEqProofs := false) only [rX9_chances_17, rX9_chances_18, rX9_chances_20, rX9_chances_23, rX9_chances_23b, rX9_chances_24, rX9_chances_27, rX9_chances_28, rX9_chances_29, kA_44, kB_44, kA_54, kB_54, fin_44_5 F, fin_44_15 F, fin_44_16 F, fin_44_17 F, fin_44_18 F, fin_44_21 F, fin_44_23 F, fin_44_24 F, fin_44_25 F, fin_44_29 F, fin_44_33 F, nge (x := i) (k := 6) (c := 6) rfl (by omega) (by omega), show ¬ 6 ≤ i from by omega, v6, cl, pCX9_chances, pSX9_chances, pOX9_chances, pLX9_chances, kl_I, kl_J, kl_R, kl_T, kl_N, Nat.le_refl, Nat.zero_le, List.map_nil, List.map_cons, List.sum_nil, List.sum_cons, c_I, c_J, c_R, c_T, va_rf, hI_wI, hJ_wJ, hR_wR, hI_J, hI_R, hJ_I, hJ_R, hR_I, hR_J, hN_I, hN_J, hN_R, wI_I, wJ_J, upd_at, updL_at, kR_s, Option.toList, List.append_nil, List.nil_append, List.cons_append, if_true, if_false, reduceIte, Bool.false_eq_true, not_true_eq_false, not_false_eq_true, true_and, and_true, false_and, and_false, true_or, or_true,  Nat.reduceEqDiff, Nat.reduceAdd, Nat.reduceLeDiff]
    rw [rX9_chances_30, nI_1]
    simp (implicitDefEqProofs := false) only [rX9_chances_33, kl_I, kl_J, kl_R, kl_T, kl_N, Nat.le_refl, Nat.zero_le, List.map_nil, List.map_cons, List.sum_nil, List.sum_cons, c_I, c_J, c_R, c_T, va_rf, hI_wI, hJ_wJ, hR_wR, hI_J, hI_R, hJ_I, hJ_R, hR_I, hR_J, hN_I, hN_J, hN_R, wI_I, wJ_J, upd_at, updL_at, kR_s, Option.toList, List.append_nil, List.nil_append, List.cons_append, if_true, if_false, reduceIte, Bool.false_eq_true, not_true_eq_false, not_false_eq_true, true_and, and_true, false_and, and_false, true_or, or_true,  Nat.reduceEqDiff, Nat.reduceAdd, Nat.reduceLeDiff]
    exact h2
theorem l_ch2 {d : Nat} {h : qH} {s : Nat} {a : aS} {x : sT} {y : Int32} (k : mK h s a) (v : vF (hI h 46) a x) : ∀ (m i : Nat), i + m = aN a → ∀ Q, WP d mX9_chances (0, 0) 38 [some (.ref (44 : Nat)), some (.int y), some (.int (nI i)), none, none, none, none] [] (wJ h 44 (vp_updL (hJ h 44) 30 (lN (whN a x.1 i)))) Q = WP d mX9_chances (0, 0) 82 [some (.ref (44 : Nat)), some (.int y), some (.int (nI (aN a))), none, none, none, none] [] (wJ h 44 (vp_updL (hJ h 44) 30 (lN (whN a x.1 (aN a))))) Q := by
  have hs := k.2.2.1.1
  have ww := k.2.2.1.2.2.1
  have h6 := ww.1
  have F := k.1
  have e1 := k.2.2.1.2.2.2.1.2.1
  have uu : ∀ (f : Nat → Int64) (p q : Int64), vp_updL (vp_updL f 30 p) 30 q = vp_updL f 30 q := fun f p q => by
    funext j
    rw [updL_at, updL_at, updL_at]
    split <;> rfl
  intro m
  induction m with
  | zero =>
    intro i hi Q
    obtain rfl : i = aN a := by omega
    simp (implicitDefEqProofs := false) only [rX9_chances_38, rX9_chances_39, rX9_chances_39b, rX9_chances_40, rX9_chances_43, rX9_chances_46, rX9_chances_49, rX9_chances_49b, rX9_chances_50, rX9_chances_50b, rX9_chances_51, rX9_chances_54, rX9_chances_54b, rX9_chances_55, rX9_chances_58, rX9_chances_59, rX9_chances_60, rX9_chances_62, rX9_chances_65, rX9_chances_66, rX9_chances_69, rX9_chances_72, rX9_chances_73, kA_44, kB_44, kU0 hs, nU hs, k.2.1, e1, pCX9_chances, pSX9_chances, pOX9_chances, pLX9_chances, Int32.le_refl, kl_I, kl_J, kl_R, kl_T, kl_N, Nat.le_refl, Nat.zero_le, List.map_nil, List.map_cons, List.sum_nil, List.sum_cons, c_I, c_J, c_R, c_T, va_rf, hI_wI, hJ_wJ, hR_wR, hI_J, hI_R, hJ_I, hJ_R, hR_I, hR_J, hN_I, hN_J, hN_R, wI_I, wJ_J, upd_at, updL_at, kR_s, Option.toList, List.append_nil, List.nil_append, List.cons_append, if_true, if_false, reduceIte, Bool.false_eq_true, not_true_eq_false, not_false_eq_true, true_and, and_true, false_and, and_false, true_or, or_true,  Nat.reduceEqDiff, Nat.reduceAdd, Nat.reduceLeDiff]
  | succ m ih =>
    intro i hi Q
    have hlt : i < aN a := by omega
    have g1 : ¬ nI (aN a) ≤ nI i := nI_ge hlt (by omega)
    have v10 : vp_in (nI i) 10 := nI_vp (by omega) (by decide)
    have cl : (nI i).toNatClampNeg = i := nI_cl (by omega)
    have vi := v.1 i hlt
    have q1 := oI_none (o := causeN a x.1 i) (fun z hz => by have := causeN_le ww hlt hz; omega)
    have i1 := ih (i + 1) (by omega) Q
    rw [whN] at i1
    by_cases c : causeN a x.1 i = none
    · rw [if_pos c] at i1
      simp (implicitDefEqProofs := false) only [rX9_chances_38, rX9_chances_39, rX9_chances_39b, rX9_chances_40, rX9_chances_43, rX9_chances_46, rX9_chances_49, rX9_chances_49b, rX9_chances_50, rX9_chances_50b, rX9_chances_51, rX9_chances_54, rX9_chances_54b, rX9_chances_55, rX9_chances_58, rX9_chances_59, rX9_chances_60, rX9_chances_62, rX9_chances_65, rX9_chances_66, rX9_chances_69, rX9_chances_72, rX9_chances_73, kA_44, kB_44, kA_46, kB_46, fin_44_5 F, fin_44_15 F, fin_44_16 F, fin_44_17 F, fin_44_18 F, fin_44_21 F, fin_44_23 F, fin_44_24 F, fin_44_25 F, fin_44_29 F, fin_44_33 F, kU0 hs, nU hs, k.2.1, e1, g1, v10, cl, vi, q1.trans (eq_true c), uu, show (1 : Int64) = lN 1 from rfl, lN_mul, Nat.mul_one, pCX9_chances, pSX9_chances, pOX9_chances, pLX9_chances, kl_I, kl_J, kl_R, kl_T, kl_N, Nat.le_refl, Nat.zero_le, List.map_nil, List.map_cons, List.sum_nil, List.sum_cons, c_I, c_J, c_R, c_T, va_rf, hI_wI, hJ_wJ, hR_wR, hI_J, hI_R, hJ_I, hJ_R, hR_I, hR_J, hN_I, hN_J, hN_R, wI_I, wJ_J, upd_at, updL_at, kR_s, Option.toList, List.append_nil, List.nil_append, List.cons_append, if_true, if_false, reduceIte, Bool.false_eq_true, not_true_eq_false, not_false_eq_true, true_and, and_true, false_and, and_false, true_or, or_true,  Nat.reduceEqDiff, Nat.reduceAdd, Nat.reduceLeDiff]
      rw [rX9_chances_76, nI_1]
      simp (implicitDefEqProofs := false) only [rX9_chances_79, kl_I, kl_J, kl_R, kl_T, kl_N, Nat.le_refl, Nat.zero_le, List.map_nil, List.map_cons, List.sum_nil, List.sum_cons, c_I, c_J, c_R, c_T, va_rf, hI_wI, hJ_wJ, hR_wR, hI_J, hI_R, hJ_I, hJ_R, hR_I, hR_J, hN_I, hN_J, hN_R, wI_I, wJ_J, upd_at, updL_at, kR_s, Option.toList, List.append_nil, List.nil_append, List.cons_append, if_true, if_false, reduceIte, Bool.false_eq_true, not_true_eq_false, not_false_eq_true, true_and, and_true, false_and, and_false, true_or, or_true,  Nat.reduceEqDiff, Nat.reduceAdd, Nat.reduceLeDiff]
      exact i1
    · rw [if_neg c] at i1
      simp (implicitDefEqProofs := false) only [rX9_chances_38, rX9_chances_39, rX9_chances_39b, rX9_chances_40, rX9_chances_43, rX9_chances_46, rX9_chances_49, rX9_chances_49b, rX9_chances_50, rX9_chances_50b, rX9_chances_51, rX9_chances_54, rX9_chances_54b, rX9_chances_55, rX9_chances_58, rX9_chances_59, rX9_chances_60, rX9_chances_62, rX9_chances_65, rX9_chances_66, rX9_chances_69, rX9_chances_72, rX9_chances_73, kA_44, kB_44, kA_46, kB_46, fin_44_5 F, fin_44_15 F, fin_44_16 F, fin_44_17 F, fin_44_18 F, fin_44_21 F, fin_44_23 F, fin_44_24 F, fin_44_25 F, fin_44_29 F, fin_44_33 F, kU0 hs, nU hs, k.2.1, e1, g1, v10, cl, vi, q1, c, uu, show (100 : Int64) = lN 100 from rfl, lN_mul, pCX9_chances, pSX9_chances, pOX9_chances, pLX9_chances, kl_I, kl_J, kl_R, kl_T, kl_N, Nat.le_refl, Nat.zero_le, List.map_nil, List.map_cons, List.sum_nil, List.sum_cons, c_I, c_J, c_R, c_T, va_rf, hI_wI, hJ_wJ, hR_wR, hI_J, hI_R, hJ_I, hJ_R, hR_I, hR_J, hN_I, hN_J, hN_R, wI_I, wJ_J, upd_at, updL_at, kR_s, Option.toList, List.append_nil, List.nil_append, List.cons_append, if_true, if_false, reduceIte, Bool.false_eq_true, not_true_eq_false, not_false_eq_true, true_and, and_true, false_and, and_false, true_or, or_true,  Nat.reduceEqDiff, Nat.reduceAdd, Nat.reduceLeDiff]
      rw [rX9_chances_76, nI_1]
      simp (implicitDefEqProofs := false) only [rX9_chances_79, kl_I, kl_J, kl_R, kl_T, kl_N, Nat.le_refl, Nat.zero_le, List.map_nil, List.map_cons, List.sum_nil, List.sum_cons, c_I, c_J, c_R, c_T, va_rf, hI_wI, hJ_wJ, hR_wR, hI_J, hI_R, hJ_I, hJ_R, hR_I, hR_J, hN_I, hN_J, hN_R, wI_I, wJ_J, upd_at, updL_at, kR_s, Option.toList, List.append_nil, List.nil_append, List.cons_append, if_true, if_false, reduceIte, Bool.false_eq_true, not_true_eq_false, not_false_eq_true, true_and, and_true, false_and, and_false, true_or, or_true,  Nat.reduceEqDiff, Nat.reduceAdd, Nat.reduceLeDiff]
      exact i1
/-- causes that come, in part -/
def xcF (G : Nat → Int32) (a : aS) (t c i : Nat) : Prop := (∀ j, j < aN a → G j = oI (if j < i ∧ c.testBit j = false then none else causeN a t j)) ∧ G 6 = nI (cutN a t)
theorem xc_own {a : aS} (w : aW a) {t c j : Nat} (hj : j < aN a) : oI (if j < aN a ∧ c.testBit j = false then none else causeN a t j) = oI (shN (ownN a t c j)) := by
  unfold ownN
  cases hc : causeN a t j with
  | none =>
    rw [show (if j < aN a ∧ c.testBit j = false then (none : Option Nat) else none) = none from by split <;> rfl]
    rfl
  | some x =>
    have := causeN_le w hj hc
    cases hb : c.testBit j with
    | true =>
      rw [if_neg (by simp)]
      simp only [if_true, shN]
      rw [if_neg (by omega)]
    | false =>
      rw [if_pos ⟨hj, rfl⟩]
      simp only [Bool.false_eq_true, if_false]
      rfl
set_option maxHeartbeats 1000000 in
theorem l_ch3 {d : Nat} {h : qH} {s c : Nat} {a : aS} {x : sT} {y : Int32} (k : mK h s a) (v : vF (hI h 46) a x) (hc : c < 64) : ∀ (m i : Nat), i + m = aN a → ∀ (G : Nat → Int32), xcF G a x.1 c i → ∃ G', xcF G' a x.1 c (aN a) ∧ ∀ o6 Q, WP (d + 1) mX9_chances (0, 0) 106 [some (.ref (44 : Nat)), some (.int y), some (.int (nI c)), some (.long (lN (pmN a x.1 c i))), none, some (.int (nI i)), o6] [] (wI h 47 G) Q = WP (d + 1) mX9_chances (0, 0) 214 [some (.ref (44 : Nat)), some (.int y), some (.int (nI c)), some (.long (lN (pmN a x.1 c (aN a)))), none, some (.int (nI (aN a))), o6] [] (wI h 47 G') Q := by
  have hs := k.2.2.1.1
  have f := k.2.2.1.2.1
  have ww := k.2.2.1.2.2.1
  have h6 := ww.1
  have F := k.1
  have e1 := k.2.2.1.2.2.2.1.2.1
  intro m
  induction m with
  | zero =>
    intro i hi G hG
    obtain rfl : i = aN a := by omega
    refine ⟨G, hG, fun o6 Q => ?_⟩
    simp (implicitDefEqProofs := false) only [rX9_chances_106, rX9_chances_108, rX9_chances_108b, rX9_chances_109, rX9_chances_112, rX9_chances_115, rX9_chances_118, rX9_chances_118b, rX9_chances_119, rX9_chances_122, rX9_chances_124, rX9_chances_125, rX9_chances_127, rX9_chances_130, rX9_chances_131, rX9_chances_132, rX9_chances_134, rX9_chances_137, rX9_chances_140, rX9_chances_141, rX9_chances_144, rX9_chances_145, rX9_chances_146, rX9_chances_147, rX9_chances_150, rX9_chances_151, rX9_chances_152, rX9_chances_154, rX9_chances_157, rX9_chances_160, rX9_chances_160b, rX9_chances_161, rX9_chances_164, rX9_chances_167, rX9_chances_169, rX9_chances_170, rX9_chances_171, rX9_chances_174, rX9_chances_176, rX9_chances_176b, rX9_chances_177, rX9_chances_180, rX9_chances_183, rX9_chances_185, rX9_chances_186, rX9_chances_187, rX9_chances_188, rX9_chances_189, rX9_chances_190, rX9_chances_191, rX9_chances_193, rX9_chances_196, rX9_chances_199, rX9_chances_199b, rX9_chances_200, rX9_chances_203, rX9_chances_205, rX9_chances_207, kA_44, kB_44, kA_47, kB_47, kU0 hs, nU hs, k.2.1, e1, pCX9_chances, pSX9_chances, pOX9_chances, pLX9_chances, Int32.le_refl, kl_I, kl_J, kl_R, kl_T, kl_N, Nat.le_refl, Nat.zero_le, List.map_nil, List.map_cons, List.sum_nil, List.sum_cons, c_I, c_J, c_R, c_T, va_rf, hI_wI, hJ_wJ, hR_wR, hI_J, hI_R, hJ_I, hJ_R, hR_I, hR_J, hN_I, hN_J, hN_R, wI_I, wJ_J, upd_at, updL_at, kR_s, Option.toList, List.append_nil, List.nil_append, List.cons_append, if_true, if_false, reduceIte, Bool.false_eq_true, not_true_eq_false, not_false_eq_true, true_and, and_true, false_and, and_false, true_or, or_true,  Nat.reduceEqDiff, Nat.reduceAdd, Nat.reduceLeDiff]
  | succ m ih =>
    intro i hi G hG
    have hlt : i < aN a := by omega
    have g1 : ¬ nI (aN a) ≤ nI i := nI_ge hlt (by omega)
    have v10 : vp_in (nI i) 10 := nI_vp (by omega) (by decide)
    have v6 : vp_in (nI i) 6 := nI_vp (by omega) (by decide)
    have cl : (nI i).toNatClampNeg = i := nI_cl (by omega)
    have vi := v.1 i hlt
    have q1 := oI_none (o := causeN a x.1 i) (fun z hz => by have := causeN_le ww hlt hz; omega)
    have bt := fun h => c_mbit (d := d) (h := h) (t := c) (j := i) (by omega) (by omega)
    have e3 := (k.2.2.1.2.2.2.2.1 i hlt).2.2.1
    have k3 := (ww.2.2.1 i hlt).2.2.1
    have m1 : (nI (aBy a i)).toInt64 = lN (aBy a i) := nI_l (by omega)
    have m2 : (100 - nI (aBy a i)).toInt64 = lN (100 - aBy a i) := by
      rw [show (100 : Int32) = nI 100 from rfl, pk_sub (by omega)]
      exact nI_l (by omega)
    have i47 : ∀ G, hI (wI h 47 G) 46 = hI h 46 := fun G => by rw [hI_wI, if_neg (by decide)]
    cases hb : c.testBit i with
    | true =>
      have hG' : xcF G a x.1 c (i + 1) := ⟨fun j hj => by
        rw [hG.1 j hj]
        by_cases e : j = i
        · subst e; rw [if_neg (by omega), if_neg (by rw [hb]; simp)]
        · by_cases q : j < i ∧ c.testBit j = false
          · rw [if_pos q, if_pos ⟨by omega, q.2⟩]
          · rw [if_neg q, if_neg (fun z => q ⟨by omega, z.2⟩)], hG.2⟩
      obtain ⟨G', h1, h2⟩ := ih (i + 1) (by omega) G hG'
      refine ⟨G', h1, fun o6 Q => ?_⟩
      have h2 := h2 o6 Q
      rw [pmN, hb] at h2
      have bt := bt (wI h 47 G)
      rw [hb] at bt
      by_cases c2 : causeN a x.1 i = none
      · rw [if_pos c2, if_pos rfl] at h2
        simp (implicitDefEqProofs := false) only [rX9_chances_106, rX9_chances_108, rX9_chances_108b, rX9_chances_109, rX9_chances_112, rX9_chances_115, rX9_chances_118, rX9_chances_118b, rX9_chances_119, rX9_chances_122, rX9_chances_124, rX9_chances_125, rX9_chances_127, rX9_chances_130, rX9_chances_131, rX9_chances_132, rX9_chances_134, rX9_chances_137, rX9_chances_140, rX9_chances_141, rX9_chances_144, rX9_chances_145, rX9_chances_146, rX9_chances_147, rX9_chances_150, rX9_chances_151, rX9_chances_152, rX9_chances_154, rX9_chances_157, rX9_chances_160, rX9_chances_160b, rX9_chances_161, rX9_chances_164, rX9_chances_167, rX9_chances_169, rX9_chances_170, rX9_chances_171, rX9_chances_174, rX9_chances_176, rX9_chances_176b, rX9_chances_177, rX9_chances_180, rX9_chances_183, rX9_chances_185, rX9_chances_186, rX9_chances_187, rX9_chances_188, rX9_chances_189, rX9_chances_190, rX9_chances_191, rX9_chances_193, rX9_chances_196, rX9_chances_199, rX9_chances_199b, rX9_chances_200, rX9_chances_203, rX9_chances_205, rX9_chances_207, kA_44, kB_44, kA_46, kB_46, kA_47, kB_47, fin_44_5 F, fin_44_15 F, fin_44_16 F, fin_44_17 F, fin_44_18 F, fin_44_21 F, fin_44_23 F, fin_44_24 F, fin_44_25 F, fin_44_29 F, fin_44_33 F, kU0 hs, kU1 hs, kV1 hs, fU1 f, kU2 hs, kV2 hs, fU2 f, kU3 hs, kV3 hs, fU3 f, kU4 hs, kV4 hs, fU4 f, kU5 hs, kV5 hs, fU5 f, kU6 hs, kV6 hs, fU6 f, kU7 hs, kV7 hs, fU7 f, kU8 hs, kV8 hs, fU8 f, kU9 hs, kV9 hs, fU9 f, kU10 hs, kV10 hs, fU10 f, kU11 hs, kV11 hs, fU11 f, kU12 hs, kV12 hs, fU12 f, nU hs, nUk hs, k.2.1, e1, g1, v10, v6, cl, vi, q1.trans (eq_true c2), bt, bI_t, show ¬ (1 : Int32) = 0 from by decide, show (0 : Int64) = lN 0 from rfl, lN_mul, pCX9_chances, pSX9_chances, pOX9_chances, pLX9_chances, pCX9_bit, pSX9_bit, pOX9_bit, pLX9_bit, kl_I, kl_J, kl_R, kl_T, kl_N, Nat.le_refl, Nat.zero_le, List.map_nil, List.map_cons, List.sum_nil, List.sum_cons, c_I, c_J, c_R, c_T, va_rf, hI_wI, hJ_wJ, hR_wR, hI_J, hI_R, hJ_I, hJ_R, hR_I, hR_J, hN_I, hN_J, hN_R, wI_I, wJ_J, upd_at, updL_at, kR_s, Option.toList, List.append_nil, List.nil_append, List.cons_append, if_true, if_false, reduceIte, Bool.false_eq_true, not_true_eq_false, not_false_eq_true, true_and, and_true, false_and, and_false, true_or, or_true,  Nat.reduceEqDiff, Nat.reduceAdd, Nat.reduceLeDiff]
        rw [rX9_chances_208, nI_1]
        simp (implicitDefEqProofs := false) only [rX9_chances_211, kl_I, kl_J, kl_R, kl_T, kl_N, Nat.le_refl, Nat.zero_le, List.map_nil, List.map_cons, List.sum_nil, List.sum_cons, c_I, c_J, c_R, c_T, va_rf, hI_wI, hJ_wJ, hR_wR, hI_J, hI_R, hJ_I, hJ_R, hR_I, hR_J, hN_I, hN_J, hN_R, wI_I, wJ_J, upd_at, updL_at, kR_s, Option.toList, List.append_nil, List.nil_append, List.cons_append, if_true, if_false, reduceIte, Bool.false_eq_true, not_true_eq_false, not_false_eq_true, true_and, and_true, false_and, and_false, true_or, or_true,  Nat.reduceEqDiff, Nat.reduceAdd, Nat.reduceLeDiff]
        exact h2
      · rw [if_neg c2, if_pos rfl] at h2
        simp (implicitDefEqProofs := false) only [rX9_chances_106, rX9_chances_108, rX9_chances_108b, rX9_chances_109, rX9_chances_112, rX9_chances_115, rX9_chances_118, rX9_chances_118b, rX9_chances_119, rX9_chances_122, rX9_chances_124, rX9_chances_125, rX9_chances_127, rX9_chances_130, rX9_chances_131, rX9_chances_132, rX9_chances_134, rX9_chances_137, rX9_chances_140, rX9_chances_141, rX9_chances_144, rX9_chances_145, rX9_chances_146, rX9_chances_147, rX9_chances_150, rX9_chances_151, rX9_chances_152, rX9_chances_154, rX9_chances_157, rX9_chances_160, rX9_chances_160b, rX9_chances_161, rX9_chances_164, rX9_chances_167, rX9_chances_169, rX9_chances_170, rX9_chances_171, rX9_chances_174, rX9_chances_176, rX9_chances_176b, rX9_chances_177, rX9_chances_180, rX9_chances_183, rX9_chances_185, rX9_chances_186, rX9_chances_187, rX9_chances_188, rX9_chances_189, rX9_chances_190, rX9_chances_191, rX9_chances_193, rX9_chances_196, rX9_chances_199, rX9_chances_199b, rX9_chances_200, rX9_chances_203, rX9_chances_205, rX9_chances_207, kA_44, kB_44, kA_46, kB_46, kA_47, kB_47, fin_44_5 F, fin_44_15 F, fin_44_16 F, fin_44_17 F, fin_44_18 F, fin_44_21 F, fin_44_23 F, fin_44_24 F, fin_44_25 F, fin_44_29 F, fin_44_33 F, kU0 hs, kU1 hs, kV1 hs, fU1 f, kU2 hs, kV2 hs, fU2 f, kU3 hs, kV3 hs, fU3 f, kU4 hs, kV4 hs, fU4 f, kU5 hs, kV5 hs, fU5 f, kU6 hs, kV6 hs, fU6 f, kU7 hs, kV7 hs, fU7 f, kU8 hs, kV8 hs, fU8 f, kU9 hs, kV9 hs, fU9 f, kU10 hs, kV10 hs, fU10 f, kU11 hs, kV11 hs, fU11 f, kU12 hs, kV12 hs, fU12 f, nU hs, nUk hs, k.2.1, e1, g1, v10, v6, cl, vi, q1, c2, bt, bI_t, show ¬ (1 : Int32) = 0 from by decide, e3, m1, lN_mul, pCX9_chances, pSX9_chances, pOX9_chances, pLX9_chances, pCX9_bit, pSX9_bit, pOX9_bit, pLX9_bit, kl_I, kl_J, kl_R, kl_T, kl_N, Nat.le_refl, Nat.zero_le, List.map_nil, List.map_cons, List.sum_nil, List.sum_cons, c_I, c_J, c_R, c_T, va_rf, hI_wI, hJ_wJ, hR_wR, hI_J, hI_R, hJ_I, hJ_R, hR_I, hR_J, hN_I, hN_J, hN_R, wI_I, wJ_J, upd_at, updL_at, kR_s, Option.toList, List.append_nil, List.nil_append, List.cons_append, if_true, if_false, reduceIte, Bool.false_eq_true, not_true_eq_false, not_false_eq_true, true_and, and_true, false_and, and_false, true_or, or_true,  Nat.reduceEqDiff, Nat.reduceAdd, Nat.reduceLeDiff]
        rw [rX9_chances_208, nI_1]
        simp (implicitDefEqProofs := false) only [rX9_chances_211, kl_I, kl_J, kl_R, kl_T, kl_N, Nat.le_refl, Nat.zero_le, List.map_nil, List.map_cons, List.sum_nil, List.sum_cons, c_I, c_J, c_R, c_T, va_rf, hI_wI, hJ_wJ, hR_wR, hI_J, hI_R, hJ_I, hJ_R, hR_I, hR_J, hN_I, hN_J, hN_R, wI_I, wJ_J, upd_at, updL_at, kR_s, Option.toList, List.append_nil, List.nil_append, List.cons_append, if_true, if_false, reduceIte, Bool.false_eq_true, not_true_eq_false, not_false_eq_true, true_and, and_true, false_and, and_false, true_or, or_true,  Nat.reduceEqDiff, Nat.reduceAdd, Nat.reduceLeDiff]
        exact h2
    | false =>
      have hG' : xcF (upd G i (-2)) a x.1 c (i + 1) := ⟨fun j hj => by
        rw [upd_at]
        by_cases e : j = i
        · subst e; rw [if_pos rfl, if_pos ⟨by omega, hb⟩]; rfl
        · rw [if_neg e, hG.1 j hj]
          by_cases q : j < i ∧ c.testBit j = false
          · rw [if_pos q, if_pos ⟨by omega, q.2⟩]
          · rw [if_neg q, if_neg (fun z => q ⟨by omega, z.2⟩)], by rw [upd_at, if_neg (by omega)]; exact hG.2⟩
      obtain ⟨G', h1, h2⟩ := ih (i + 1) (by omega) _ hG'
      refine ⟨G', h1, fun o6 Q => ?_⟩
      have h2 := h2 o6 Q
      rw [pmN, hb] at h2
      have bt := bt (wI h 47 G)
      rw [hb] at bt
      by_cases c2 : causeN a x.1 i = none
      · rw [if_pos c2, if_neg (by simp)] at h2
        simp (implicitDefEqProofs := false) only [rX9_chances_106, rX9_chances_108, rX9_chances_108b, rX9_chances_109, rX9_chances_112, rX9_chances_115, rX9_chances_118, rX9_chances_118b, rX9_chances_119, rX9_chances_122, rX9_chances_124, rX9_chances_125, rX9_chances_127, rX9_chances_130, rX9_chances_131, rX9_chances_132, rX9_chances_134, rX9_chances_137, rX9_chances_140, rX9_chances_141, rX9_chances_144, rX9_chances_145, rX9_chances_146, rX9_chances_147, rX9_chances_150, rX9_chances_151, rX9_chances_152, rX9_chances_154, rX9_chances_157, rX9_chances_160, rX9_chances_160b, rX9_chances_161, rX9_chances_164, rX9_chances_167, rX9_chances_169, rX9_chances_170, rX9_chances_171, rX9_chances_174, rX9_chances_176, rX9_chances_176b, rX9_chances_177, rX9_chances_180, rX9_chances_183, rX9_chances_185, rX9_chances_186, rX9_chances_187, rX9_chances_188, rX9_chances_189, rX9_chances_190, rX9_chances_191, rX9_chances_193, rX9_chances_196, rX9_chances_199, rX9_chances_199b, rX9_chances_200, rX9_chances_203, rX9_chances_205, rX9_chances_207, kA_44, kB_44, kA_46, kB_46, kA_47, kB_47, fin_44_5 F, fin_44_15 F, fin_44_16 F, fin_44_17 F, fin_44_18 F, fin_44_21 F, fin_44_23 F, fin_44_24 F, fin_44_25 F, fin_44_29 F, fin_44_33 F, kU0 hs, kU1 hs, kV1 hs, fU1 f, kU2 hs, kV2 hs, fU2 f, kU3 hs, kV3 hs, fU3 f, kU4 hs, kV4 hs, fU4 f, kU5 hs, kV5 hs, fU5 f, kU6 hs, kV6 hs, fU6 f, kU7 hs, kV7 hs, fU7 f, kU8 hs, kV8 hs, fU8 f, kU9 hs, kV9 hs, fU9 f, kU10 hs, kV10 hs, fU10 f, kU11 hs, kV11 hs, fU11 f, kU12 hs, kV12 hs, fU12 f, nU hs, nUk hs, k.2.1, e1, g1, v10, v6, cl, vi, q1.trans (eq_true c2), bt, bI_f, show (1 : Int64) = lN 1 from rfl, lN_mul, pCX9_chances, pSX9_chances, pOX9_chances, pLX9_chances, pCX9_bit, pSX9_bit, pOX9_bit, pLX9_bit, kl_I, kl_J, kl_R, kl_T, kl_N, Nat.le_refl, Nat.zero_le, List.map_nil, List.map_cons, List.sum_nil, List.sum_cons, c_I, c_J, c_R, c_T, va_rf, hI_wI, hJ_wJ, hR_wR, hI_J, hI_R, hJ_I, hJ_R, hR_I, hR_J, hN_I, hN_J, hN_R, wI_I, wJ_J, upd_at, updL_at, kR_s, Option.toList, List.append_nil, List.nil_append, List.cons_append, if_true, if_false, reduceIte, Bool.false_eq_true, not_true_eq_false, not_false_eq_true, true_and, and_true, false_and, and_false, true_or, or_true,  Nat.reduceEqDiff, Nat.reduceAdd, Nat.reduceLeDiff]
        rw [rX9_chances_208, nI_1]
        simp (implicitDefEqProofs := false) only [rX9_chances_211, kl_I, kl_J, kl_R, kl_T, kl_N, Nat.le_refl, Nat.zero_le, List.map_nil, List.map_cons, List.sum_nil, List.sum_cons, c_I, c_J, c_R, c_T, va_rf, hI_wI, hJ_wJ, hR_wR, hI_J, hI_R, hJ_I, hJ_R, hR_I, hR_J, hN_I, hN_J, hN_R, wI_I, wJ_J, upd_at, updL_at, kR_s, Option.toList, List.append_nil, List.nil_append, List.cons_append, if_true, if_false, reduceIte, Bool.false_eq_true, not_true_eq_false, not_false_eq_true, true_and, and_true, false_and, and_false, true_or, or_true,  Nat.reduceEqDiff, Nat.reduceAdd, Nat.reduceLeDiff]
        exact h2
      · rw [if_neg c2, if_neg (by simp)] at h2
        simp (implicitDefEqProofs := false) only [rX9_chances_106, rX9_chances_108, rX9_chances_108b, rX9_chances_109, rX9_chances_112, rX9_chances_115, rX9_chances_118, rX9_chances_118b, rX9_chances_119, rX9_chances_122, rX9_chances_124, rX9_chances_125, rX9_chances_127, rX9_chances_130, rX9_chances_131, rX9_chances_132, rX9_chances_134, rX9_chances_137, rX9_chances_140, rX9_chances_141, rX9_chances_144, rX9_chances_145, rX9_chances_146, rX9_chances_147, rX9_chances_150, rX9_chances_151, rX9_chances_152, rX9_chances_154, rX9_chances_157, rX9_chances_160, rX9_chances_160b, rX9_chances_161, rX9_chances_164, rX9_chances_167, rX9_chances_169, rX9_chances_170, rX9_chances_171, rX9_chances_174, rX9_chances_176, rX9_chances_176b, rX9_chances_177, rX9_chances_180, rX9_chances_183, rX9_chances_185, rX9_chances_186, rX9_chances_187, rX9_chances_188, rX9_chances_189, rX9_chances_190, rX9_chances_191, rX9_chances_193, rX9_chances_196, rX9_chances_199, rX9_chances_199b, rX9_chances_200, rX9_chances_203, rX9_chances_205, rX9_chances_207, kA_44, kB_44, kA_46, kB_46, kA_47, kB_47, fin_44_5 F, fin_44_15 F, fin_44_16 F, fin_44_17 F, fin_44_18 F, fin_44_21 F, fin_44_23 F, fin_44_24 F, fin_44_25 F, fin_44_29 F, fin_44_33 F, kU0 hs, kU1 hs, kV1 hs, fU1 f, kU2 hs, kV2 hs, fU2 f, kU3 hs, kV3 hs, fU3 f, kU4 hs, kV4 hs, fU4 f, kU5 hs, kV5 hs, fU5 f, kU6 hs, kV6 hs, fU6 f, kU7 hs, kV7 hs, fU7 f, kU8 hs, kV8 hs, fU8 f, kU9 hs, kV9 hs, fU9 f, kU10 hs, kV10 hs, fU10 f, kU11 hs, kV11 hs, fU11 f, kU12 hs, kV12 hs, fU12 f, nU hs, nUk hs, k.2.1, e1, g1, v10, v6, cl, vi, q1, c2, bt, bI_f, e3, m2, lN_mul, pCX9_chances, pSX9_chances, pOX9_chances, pLX9_chances, pCX9_bit, pSX9_bit, pOX9_bit, pLX9_bit, kl_I, kl_J, kl_R, kl_T, kl_N, Nat.le_refl, Nat.zero_le, List.map_nil, List.map_cons, List.sum_nil, List.sum_cons, c_I, c_J, c_R, c_T, va_rf, hI_wI, hJ_wJ, hR_wR, hI_J, hI_R, hJ_I, hJ_R, hR_I, hR_J, hN_I, hN_J, hN_R, wI_I, wJ_J, upd_at, updL_at, kR_s, Option.toList, List.append_nil, List.nil_append, List.cons_append, if_true, if_false, reduceIte, Bool.false_eq_true, not_true_eq_false, not_false_eq_true, true_and, and_true, false_and, and_false, true_or, or_true,  Nat.reduceEqDiff, Nat.reduceAdd, Nat.reduceLeDiff]
        rw [rX9_chances_208, nI_1]
        simp (implicitDefEqProofs := false) only [rX9_chances_211, kl_I, kl_J, kl_R, kl_T, kl_N, Nat.le_refl, Nat.zero_le, List.map_nil, List.map_cons, List.sum_nil, List.sum_cons, c_I, c_J, c_R, c_T, va_rf, hI_wI, hJ_wJ, hR_wR, hI_J, hI_R, hJ_I, hJ_R, hR_I, hR_J, hN_I, hN_J, hN_R, wI_I, wJ_J, upd_at, updL_at, kR_s, Option.toList, List.append_nil, List.nil_append, List.cons_append, if_true, if_false, reduceIte, Bool.false_eq_true, not_true_eq_false, not_false_eq_true, true_and, and_true, false_and, and_false, true_or, or_true,  Nat.reduceEqDiff, Nat.reduceAdd, Nat.reduceLeDiff]
        exact h2
theorem l_ch4 {d : Nat} {h : qH} {s B p : Nat} {a : aS} {y z2 : Int32} (k : mK h s a) (hB : B < 64) (O : Nat → Nat) : ∀ (m i : Nat), i + m = aN a → ∀ (G : Nat → Int64), (∀ j, j < aN a → G j = lN (O j + (if j < i ∧ B.testBit j = true then p else 0))) → ∃ G', (∀ j, j < aN a → G' j = lN (O j + (if B.testBit j = true then p else 0))) ∧ ∀ Q, WP (d + 1) mX9_chances (0, 0) 273 [some (.ref (44 : Nat)), some (.int y), some (.int z2), some (.long (lN p)), none, some (.int (nI B)), some (.int (nI i))] [] (wJ h 54 G) Q = WP (d + 1) mX9_chances (0, 0) 316 [some (.ref (44 : Nat)), some (.int y), some (.int z2), some (.long (lN p)), none, some (.int (nI B)), some (.int (nI (aN a)))] [] (wJ h 54 G') Q := by
  have hs := k.2.2.1.1
  have ww := k.2.2.1.2.2.1
  have h6 := ww.1
  have F := k.1
  have e1 := k.2.2.1.2.2.2.1.2.1
  intro m
  induction m with
  | zero =>
    intro i hi G hG
    obtain rfl : i = aN a := by omega
    refine ⟨G, fun j hj => ?_, fun Q => ?_⟩
    · rw [hG j hj]
      congr 2
      by_cases q : B.testBit j = true
      · rw [if_pos ⟨hj, q⟩, if_pos q]
      · rw [if_neg (fun z => q z.2), if_neg q]
    · simp (implicitDefEqProofs := false) only [rX9_chances_273, rX9_chances_275, rX9_chances_275b, rX9_chances_276, rX9_chances_279, rX9_chances_282, rX9_chances_285, rX9_chances_285b, rX9_chances_286, rX9_chances_289, rX9_chances_291, rX9_chances_292, rX9_chances_293, rX9_chances_295, rX9_chances_297, rX9_chances_300, rX9_chances_303, rX9_chances_304, rX9_chances_307, rX9_chances_308, rX9_chances_309, kA_44, kB_44, kU0 hs, nU hs, k.2.1, e1, pCX9_chances, pSX9_chances, pOX9_chances, pLX9_chances, Int32.le_refl, kl_I, kl_J, kl_R, kl_T, kl_N, Nat.le_refl, Nat.zero_le, List.map_nil, List.map_cons, List.sum_nil, List.sum_cons, c_I, c_J, c_R, c_T, va_rf, hI_wI, hJ_wJ, hR_wR, hI_J, hI_R, hJ_I, hJ_R, hR_I, hR_J, hN_I, hN_J, hN_R, wI_I, wJ_J, upd_at, updL_at, kR_s, Option.toList, List.append_nil, List.nil_append, List.cons_append, if_true, if_false, reduceIte, Bool.false_eq_true, not_true_eq_false, not_false_eq_true, true_and, and_true, false_and, and_false, true_or, or_true,  Nat.reduceEqDiff, Nat.reduceAdd, Nat.reduceLeDiff]
  | succ m ih =>
    intro i hi G hG
    have hlt : i < aN a := by omega
    have g1 : ¬ nI (aN a) ≤ nI i := nI_ge hlt (by omega)
    have v6 : vp_in (nI i) 6 := nI_vp (by omega) (by decide)
    have cl : (nI i).toNatClampNeg = i := nI_cl (by omega)
    have bt := c_mbit (d := d) (h := wJ h 54 G) (t := B) (j := i) (by omega) (by omega)
    have gi := hG i hlt
    rw [if_neg (by omega), Nat.add_zero] at gi
    have hG' : ∀ j, j < aN a → vp_updL G i (lN (O i + (if B.testBit i = true then p else 0))) j = lN (O j + (if j < i + 1 ∧ B.testBit j = true then p else 0)) := fun j hj => by
      rw [updL_at]
      by_cases e : j = i
      · subst e
        rw [if_pos rfl]
        by_cases q : B.testBit j = true
        · rw [if_pos q, if_pos ⟨by omega, q⟩]
        · rw [if_neg q, if_neg (fun z => q z.2)]
      · rw [if_neg e, hG j hj]
        by_cases q : j < i ∧ B.testBit j = true
        · rw [if_pos q, if_pos ⟨by omega, q.2⟩]
        · rw [if_neg q, if_neg (fun z => q ⟨by omega, z.2⟩)]
    obtain ⟨G', h1, h2⟩ := ih (i + 1) (by omega) _ hG'
    refine ⟨G', h1, fun Q => ?_⟩
    have h2 := h2 Q
    cases hb : B.testBit i with
    | true =>
      rw [hb] at bt h2
      rw [if_pos rfl] at h2
      simp (implicitDefEqProofs := false) only [rX9_chances_273, rX9_chances_275, rX9_chances_275b, rX9_chances_276, rX9_chances_279, rX9_chances_282, rX9_chances_285, rX9_chances_285b, rX9_chances_286, rX9_chances_289, rX9_chances_291, rX9_chances_292, rX9_chances_293, rX9_chances_295, rX9_chances_297, rX9_chances_300, rX9_chances_303, rX9_chances_304, rX9_chances_307, rX9_chances_308, rX9_chances_309, kA_44, kB_44, kA_54, kB_54, fin_44_5 F, fin_44_15 F, fin_44_16 F, fin_44_17 F, fin_44_18 F, fin_44_21 F, fin_44_23 F, fin_44_24 F, fin_44_25 F, fin_44_29 F, fin_44_33 F, kU0 hs, nU hs, k.2.1, e1, g1, v6, cl, gi, bt, bI_t, show ¬ (1 : Int32) = 0 from by decide, lN_add, pCX9_chances, pSX9_chances, pOX9_chances, pLX9_chances, pCX9_bit, pSX9_bit, pOX9_bit, pLX9_bit, kl_I, kl_J, kl_R, kl_T, kl_N, Nat.le_refl, Nat.zero_le, List.map_nil, List.map_cons, List.sum_nil, List.sum_cons, c_I, c_J, c_R, c_T, va_rf, hI_wI, hJ_wJ, hR_wR, hI_J, hI_R, hJ_I, hJ_R, hR_I, hR_J, hN_I, hN_J, hN_R, wI_I, wJ_J, upd_at, updL_at, kR_s, Option.toList, List.append_nil, List.nil_append, List.cons_append, if_true, if_false, reduceIte, Bool.false_eq_true, not_true_eq_false, not_false_eq_true, true_and, and_true, false_and, and_false, true_or, or_true,  Nat.reduceEqDiff, Nat.reduceAdd, Nat.reduceLeDiff]
      rw [rX9_chances_310, nI_1]
      simp (implicitDefEqProofs := false) only [rX9_chances_313, kl_I, kl_J, kl_R, kl_T, kl_N, Nat.le_refl, Nat.zero_le, List.map_nil, List.map_cons, List.sum_nil, List.sum_cons, c_I, c_J, c_R, c_T, va_rf, hI_wI, hJ_wJ, hR_wR, hI_J, hI_R, hJ_I, hJ_R, hR_I, hR_J, hN_I, hN_J, hN_R, wI_I, wJ_J, upd_at, updL_at, kR_s, Option.toList, List.append_nil, List.nil_append, List.cons_append, if_true, if_false, reduceIte, Bool.false_eq_true, not_true_eq_false, not_false_eq_true, true_and, and_true, false_and, and_false, true_or, or_true,  Nat.reduceEqDiff, Nat.reduceAdd, Nat.reduceLeDiff]
      exact h2
    | false =>
      rw [hb] at bt h2
      rw [if_neg (by simp), Nat.add_zero] at h2
      simp (implicitDefEqProofs := false) only [rX9_chances_273, rX9_chances_275, rX9_chances_275b, rX9_chances_276, rX9_chances_279, rX9_chances_282, rX9_chances_285, rX9_chances_285b, rX9_chances_286, rX9_chances_289, rX9_chances_291, rX9_chances_292, rX9_chances_293, rX9_chances_295, rX9_chances_297, rX9_chances_300, rX9_chances_303, rX9_chances_304, rX9_chances_307, rX9_chances_308, rX9_chances_309, kA_44, kB_44, kA_54, kB_54, fin_44_5 F, fin_44_15 F, fin_44_16 F, fin_44_17 F, fin_44_18 F, fin_44_21 F, fin_44_23 F, fin_44_24 F, fin_44_25 F, fin_44_29 F, fin_44_33 F, kU0 hs, nU hs, k.2.1, e1, g1, v6, cl, gi, bt, bI_f, show (0 : Int64) = lN 0 from rfl, lN_add, Nat.add_zero, pCX9_chances, pSX9_chances, pOX9_chances, pLX9_chances, pCX9_bit, pSX9_bit, pOX9_bit, pLX9_bit, kl_I, kl_J, kl_R, kl_T, kl_N, Nat.le_refl, Nat.zero_le, List.map_nil, List.map_cons, List.sum_nil, List.sum_cons, c_I, c_J, c_R, c_T, va_rf, hI_wI, hJ_wJ, hR_wR, hI_J, hI_R, hJ_I, hJ_R, hR_I, hR_J, hN_I, hN_J, hN_R, wI_I, wJ_J, upd_at, updL_at, kR_s, Option.toList, List.append_nil, List.nil_append, List.cons_append, if_true, if_false, reduceIte, Bool.false_eq_true, not_true_eq_false, not_false_eq_true, true_and, and_true, false_and, and_false, true_or, or_true,  Nat.reduceEqDiff, Nat.reduceAdd, Nat.reduceLeDiff]
      rw [rX9_chances_310, nI_1]
      simp (implicitDefEqProofs := false) only [rX9_chances_313, kl_I, kl_J, kl_R, kl_T, kl_N, Nat.le_refl, Nat.zero_le, List.map_nil, List.map_cons, List.sum_nil, List.sum_cons, c_I, c_J, c_R, c_T, va_rf, hI_wI, hJ_wJ, hR_wR, hI_J, hI_R, hJ_I, hJ_R, hR_I, hR_J, hN_I, hN_J, hN_R, wI_I, wJ_J, upd_at, updL_at, kR_s, Option.toList, List.append_nil, List.nil_append, List.cons_append, if_true, if_false, reduceIte, Bool.false_eq_true, not_true_eq_false, not_false_eq_true, true_and, and_true, false_and, and_false, true_or, or_true,  Nat.reduceEqDiff, Nat.reduceAdd, Nat.reduceLeDiff]
      exact h2
/-- what is summed up -/
def OI (h : qH) (a : aS) (t n c : Nat) : Prop := hJ h 44 30 = lN (whN a t (aN a)) ∧ hJ h 44 31 = lN (ovN a t n 1 0 c) ∧ hJ h 44 32 = lN (ovN a t n 2 0 c) ∧ ∀ j, j < aN a → hJ h 54 j = lN (ovN a t n 0 j c)
theorem OI_mv {h h' : qH} {a : aS} {t n c : Nat} (o : OI h a t n c) (e1 : hJ h' 44 = hJ h 44) (e2 : hJ h' 54 = hJ h 54) : OI h' a t n c := by
  unfold OI
  rw [e1, e2]
  exact o
