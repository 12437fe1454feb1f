/-! ===== chance, years ===== -/
theorem lgc {x y : Nat} (hx : x < 2 ^ 63) (hy : y < 2 ^ 63) : lg_cmp (lN x) (lN y) = if y < x then 1 else if x = y then 0 else -1 := by
  unfold lg_cmp
  have e1 : (lN x > lN y) = (y < x) := propext (pk_lLT hy hx)
  have e2 : (lN x = lN y) = (x = y) := propext (pk_lEQ hx hy)
  simp only [e1, e2]
theorem lg0 {x : Nat} (hx : x < 2 ^ 63) : lg_cmp (lN x) 0 = if x = 0 then 0 else 1 := by
  have := lgc hx (y := 0) (by decide)
  rw [show lN 0 = 0 from rfl] at this
  rw [this]
  by_cases c : x = 0
  · rw [if_pos c, if_neg (by omega), if_pos c]
  · rw [if_pos (show 0 < x by omega), if_neg c]
theorem rX7_counted_1a {d : Nat} {u : Nat × Nat} {ls : qL} {st : List Value} {h : qH} {Q : Option (Option Value) → qH → Prop} : WP d mX7_counted u 1 ls (.int 0 :: st) h Q = WP d mX7_counted u 28 ls st h Q := WP_go (by
  rw [stp_of (M := mX7_counted) dX7_counted_1 rfl]
  have e : Op.lookupswitch.offset [(0, 27), (1, 33)] 43 (0 : Int32).toInt = 27 := by decide
  simp only [stI]
  rw [if_pos (by decide), e]
  rfl)
theorem rX7_counted_1b {d : Nat} {u : Nat × Nat} {ls : qL} {st : List Value} {h : qH} {Q : Option (Option Value) → qH → Prop} : WP d mX7_counted u 1 ls (.int 1 :: st) h Q = WP d mX7_counted u 34 ls st h Q := WP_go (by
  rw [stp_of (M := mX7_counted) dX7_counted_1 rfl]
  have e : Op.lookupswitch.offset [(0, 27), (1, 33)] 43 (1 : Int32).toInt = 33 := by decide
  simp only [stI]
  rw [if_pos (by decide), e]
  rfl)
theorem rX7_counted_1c {d : Nat} {u : Nat × Nat} {ls : qL} {st : List Value} {h : qH} {Q : Option (Option Value) → qH → Prop} : WP d mX7_counted u 1 ls (.int 2 :: st) h Q = WP d mX7_counted u 44 ls st h Q := WP_go (by
  rw [stp_of (M := mX7_counted) dX7_counted_1 rfl]
  have e : Op.lookupswitch.offset [(0, 27), (1, 33)] 43 (2 : Int32).toInt = 43 := by decide
  simp only [stI]
  rw [if_pos (by decide), e]
  rfl)
/-- what is counted -/
def cgN (so x v : Nat) : Nat := if so = 0 then (if v.testBit x = true then 1 else 0) else if so = 1 then (if v = 0 then 1 else 0) else popc 6 v
theorem cgN_le {so x v : Nat} : cgN so x v ≤ 6 := by
  unfold cgN
  have := popc_le 6 v
  split
  · split <;> omega
  · split
    · split <;> omega
    · omega
theorem c_counted {d : Nat} {h : qH} {so x v : Nat} (hs : so < 3) (hx : x < 6) (hv : v < 64) : ∀ Q, WM (d + 1) mX7_counted [.int (nI so), .int (nI x), .int (nI v)] h Q = Q (some (some (.int (nI (cgN so x v))))) h := by
  intro Q
  have bt := bt_t (t := v) (j := x) (by omega) (by omega)
  have bc := c_bitCount (d := d) (h := h) hv
  have q : (nI v = 0) = (v = 0) := nq (x := v) (k := 0) (c := 0) rfl (by omega) (by omega)
  rcases (show so = 0 ∨ so = 1 ∨ so = 2 by omega) with rfl | rfl | rfl
  · by_cases c : v.testBit x = true
    · simp (implicitDefEqProofs := false) only [eX7_counted, rX7_counted_0, rX7_counted_28, rX7_counted_29, rX7_counted_30, rX7_counted_31, rX7_counted_32, rX7_counted_33, rX7_counted_34, rX7_counted_35, rX7_counted_38, rX7_counted_39, rX7_counted_42, rX7_counted_43, rX7_counted_44, rX7_counted_45, rX7_counted_48, rX7_counted_1a, pCX7_counted, pSX7_counted, pOX7_counted, pLX7_counted, nI_0, bt, c, cgN, show nI 1 = 1 from rfl, kl_I, kl_J, kl_R, kl_T, kl_N, Nat.le_refl, Nat.zero_le, List.map_nil, List.map_cons, List.sum_nil, List.sum_cons, c_I, c_J, c_R, c_T, va_rf, hI_wI, hJ_wJ, hR_wR, hI_J, hI_R, hJ_I, hJ_R, hR_I, hR_J, hN_I, hN_J, hN_R, wI_I, wJ_J, upd_at, updL_at, kR_s, Option.toList, List.append_nil, List.nil_append, List.cons_append, if_true, if_false, reduceIte, Bool.false_eq_true, not_true_eq_false, not_false_eq_true, true_and, and_true, false_and, and_false, true_or, or_true,  Nat.reduceEqDiff, Nat.reduceAdd, Nat.reduceLeDiff]
    · simp (implicitDefEqProofs := false) only [eX7_counted, rX7_counted_0, rX7_counted_28, rX7_counted_29, rX7_counted_30, rX7_counted_31, rX7_counted_32, rX7_counted_33, rX7_counted_34, rX7_counted_35, rX7_counted_38, rX7_counted_39, rX7_counted_42, rX7_counted_43, rX7_counted_44, rX7_counted_45, rX7_counted_48, rX7_counted_1a, pCX7_counted, pSX7_counted, pOX7_counted, pLX7_counted, nI_0, bt, c, cgN, kl_I, kl_J, kl_R, kl_T, kl_N, Nat.le_refl, Nat.zero_le, List.map_nil, List.map_cons, List.sum_nil, List.sum_cons, c_I, c_J, c_R, c_T, va_rf, hI_wI, hJ_wJ, hR_wR, hI_J, hI_R, hJ_I, hJ_R, hR_I, hR_J, hN_I, hN_J, hN_R, wI_I, wJ_J, upd_at, updL_at, kR_s, Option.toList, List.append_nil, List.nil_append, List.cons_append, if_true, if_false, reduceIte, Bool.false_eq_true, not_true_eq_false, not_false_eq_true, true_and, and_true, false_and, and_false, true_or, or_true,  Nat.reduceEqDiff, Nat.reduceAdd, Nat.reduceLeDiff]
  · by_cases c : v = 0
    · simp (implicitDefEqProofs := false) only [eX7_counted, rX7_counted_0, rX7_counted_28, rX7_counted_29, rX7_counted_30, rX7_counted_31, rX7_counted_32, rX7_counted_33, rX7_counted_34, rX7_counted_35, rX7_counted_38, rX7_counted_39, rX7_counted_42, rX7_counted_43, rX7_counted_44, rX7_counted_45, rX7_counted_48, rX7_counted_1b, pCX7_counted, pSX7_counted, pOX7_counted, pLX7_counted, nI_0, q, c, cgN, show nI 1 = 1 from rfl, kl_I, kl_J, kl_R, kl_T, kl_N, Nat.le_refl, Nat.zero_le, List.map_nil, List.map_cons, List.sum_nil, List.sum_cons, c_I, c_J, c_R, c_T, va_rf, hI_wI, hJ_wJ, hR_wR, hI_J, hI_R, hJ_I, hJ_R, hR_I, hR_J, hN_I, hN_J, hN_R, wI_I, wJ_J, upd_at, updL_at, kR_s, Option.toList, List.append_nil, List.nil_append, List.cons_append, if_true, if_false, reduceIte, Bool.false_eq_true, not_true_eq_false, not_false_eq_true, true_and, and_true, false_and, and_false, true_or, or_true,  Nat.reduceEqDiff, Nat.reduceAdd, Nat.reduceLeDiff]
    · simp (implicitDefEqProofs := false) only [eX7_counted, rX7_counted_0, rX7_counted_28, rX7_counted_29, rX7_counted_30, rX7_counted_31, rX7_counted_32, rX7_counted_33, rX7_counted_34, rX7_counted_35, rX7_counted_38, rX7_counted_39, rX7_counted_42, rX7_counted_43, rX7_counted_44, rX7_counted_45, rX7_counted_48, rX7_counted_1b, pCX7_counted, pSX7_counted, pOX7_counted, pLX7_counted, nI_0, q, c, cgN, show nI 1 = 1 from rfl, kl_I, kl_J, kl_R, kl_T, kl_N, Nat.le_refl, Nat.zero_le, List.map_nil, List.map_cons, List.sum_nil, List.sum_cons, c_I, c_J, c_R, c_T, va_rf, hI_wI, hJ_wJ, hR_wR, hI_J, hI_R, hJ_I, hJ_R, hR_I, hR_J, hN_I, hN_J, hN_R, wI_I, wJ_J, upd_at, updL_at, kR_s, Option.toList, List.append_nil, List.nil_append, List.cons_append, if_true, if_false, reduceIte, Bool.false_eq_true, not_true_eq_false, not_false_eq_true, true_and, and_true, false_and, and_false, true_or, or_true,  Nat.reduceEqDiff, Nat.reduceAdd, Nat.reduceLeDiff]
  · simp (implicitDefEqProofs := false) only [eX7_counted, rX7_counted_0, rX7_counted_28, rX7_counted_29, rX7_counted_30, rX7_counted_31, rX7_counted_32, rX7_counted_33, rX7_counted_34, rX7_counted_35, rX7_counted_38, rX7_counted_39, rX7_counted_42, rX7_counted_43, rX7_counted_44, rX7_counted_45, rX7_counted_48, rX7_counted_1c, pCX7_counted, pSX7_counted, pOX7_counted, pLX7_counted, pCJ6_bitCount_0f7a4, pSJ6_bitCount_0f7a4, pOJ6_bitCount_0f7a4, pLJ6_bitCount_0f7a4, bc, cgN, show nI 2 = 2 from rfl, kl_I, kl_J, kl_R, kl_T, kl_N, Nat.le_refl, Nat.zero_le, List.map_nil, List.map_cons, List.sum_nil, List.sum_cons, c_I, c_J, c_R, c_T, va_rf, hI_wI, hJ_wJ, hR_wR, hI_J, hI_R, hJ_I, hJ_R, hR_I, hR_J, hN_I, hN_J, hN_R, wI_I, wJ_J, upd_at, updL_at, kR_s, Option.toList, List.append_nil, List.nil_append, List.cons_append, if_true, if_false, reduceIte, Bool.false_eq_true, not_true_eq_false, not_false_eq_true, true_and, and_true, false_and, and_false, true_or, or_true,  Nat.reduceEqDiff, Nat.reduceAdd, Nat.reduceLeDiff]
theorem wtL_0 {a : aS} {t c : Nat} : ∀ k i, wtL a t c k i 0 = 0
  | 0, _ => rfl
  | k + 1, i => by
    rw [wtL]
    split
    · rw [Nat.zero_mul]; exact wtL_0 k (i + 1)
    · split
      · rfl
      · exact wtL_0 k (i + 1)
theorem wtL_bits {a : aS} {t c : Nat} : ∀ k i p, ¬ wtL a t c k i p = 0 → ∀ j, i ≤ j → j < i + k → c.testBit j = true → j < aN a
  | 0, i, p, _, j, h1, h2, _ => by omega
  | k + 1, i, p, h, j, h1, h2, h3 => by
    rw [wtL] at h
    by_cases e : j = i
    · subst e
      by_cases q : j < aN a
      · exact q
      · rw [if_neg (fun z => q z.1), if_pos h3] at h
        exact absurd rfl h
    · split at h
      · exact wtL_bits k (i + 1) _ h j (by omega) (by omega) h3
      · split at h
        · exact absurd rfl h
        · exact wtL_bits k (i + 1) _ h j (by omega) (by omega) h3
theorem wtN_lt {a : aS} (w : aW a) {t c : Nat} (hc : c < 64) (h : ¬ wtN a t c = 0) : c < 2 ^ aN a := by
  have n6 := w.1
  refine Nat.lt_pow_two_of_testBit _ (fun j hj => ?_)
  by_cases q : c.testBit j = true
  · by_cases j6 : j < 6
    · have := wtL_bits 6 0 1 h j (by omega) (by omega) q
      omega
    · have h64 : c < 2 ^ j := Nat.lt_of_lt_of_le hc (Nat.pow_le_pow_right (n := 2) (by omega) (show 6 ≤ j by omega))
      rw [Nat.testBit_lt_two_pow h64] at q
      cases q
  · simpa using q
theorem wtL_le {a : aS} (w : aW a) {t c : Nat} : ∀ k i p, wtL a t c k i p ≤ p * 100 ^ k
  | 0, i, p => by simp [wtL]
  | k + 1, i, p => by
    have e : p * 100 ^ (k + 1) = p * 100 * 100 ^ k := by rw [Nat.pow_succ, Nat.mul_comm (100 ^ k) 100, Nat.mul_assoc]
    have e2 : p * 100 ^ k ≤ p * 100 ^ (k + 1) := Nat.mul_le_mul_left _ (Nat.pow_le_pow_right (by omega) (by omega))
    rw [wtL]
    split
    · rename_i q
      have b := (w.2.2.1 i q.1).2.2.1
      refine Nat.le_trans (wtL_le w k (i + 1) _) ?_
      rw [e]
      refine Nat.mul_le_mul_right _ (Nat.mul_le_mul_left _ ?_)
      split <;> omega
    · split
      · exact Nat.zero_le _
      · exact Nat.le_trans (wtL_le w k (i + 1) p) e2
theorem wtN_le {a : aS} (w : aW a) {t c : Nat} : wtN a t c ≤ 1000000000000 := Nat.le_trans (wtL_le w 6 0 1) (by decide)
noncomputable def ovN (a : aS) (t y so x : Nat) : Nat → Nat
  | 0 => 0
  | c + 1 => ovN a t y so x c + wtN a t c * cgN so x (biN a t c y)
theorem ovN_le {a : aS} (w : aW a) {t y so x : Nat} : ∀ c, ovN a t y so x c ≤ c * 6000000000000
  | 0 => by simp [ovN]
  | c + 1 => by
    have h1 := ovN_le w (t := t) (y := y) (so := so) (x := x) c
    have h2 : wtN a t c * cgN so x (biN a t c y) ≤ 1000000000000 * 6 := Nat.mul_le_mul (wtN_le w) cgN_le
    rw [ovN]
    omega
theorem biN_lt {a : aS} (w : aW a) {t c y : Nat} : biN a t c y < 64 := Nat.lt_of_lt_of_le (bm_lt _ _) (p6 w.1)
set_option maxHeartbeats 1000000 in
theorem l_overAll {d : Nat} {s t y so x : Nat} {a : aS} {lo : Int32} (ht : t < 2 ^ aN a) (hy : y ≤ 90) (hso : so < 3) (hx : x < 6) : ∀ (k i : Nat), i + k = 64 → ∀ (h : qH) (o8 o9 : Option Value) (F : Fin0 (hR h)) (hf : hR h 32 0 = some s) (w : cS h s a) (c0 : cC h a) (e0 : hI h 29 0 = nI t), ∃ h' o8' o9', (∀ Q, WP (d + 5) mX7_overAll (0, 0) 6 [some (.ref (0 : Nat)), some (.int (nI so)), some (.int (nI x)), some (.int (nI y)), some (.int lo), some (.long (lN (ovN a t y so x i))), none, some (.int (nI i)), o8, o9] [] h Q = WP (d + 5) mX7_overAll (0, 0) 75 [some (.ref (0 : Nat)), some (.int (nI so)), some (.int (nI x)), some (.int (nI y)), some (.int lo), some (.long (lN (ovN a t y so x 64))), none, some (.int (nI 64)), o8', o9'] [] h' Q) ∧ sx [32, 33, 34, 36] h h' ∧ cC h' a := by
  intro k
  induction k with
  | zero =>
    intro i hi h o8 o9 F hf w c0 e0
    obtain rfl : i = 64 := by omega
    refine ⟨h, o8, o9, fun Q => ?_, sx_refl, c0⟩
    simp (implicitDefEqProofs := false) only [rX7_overAll_6, rX7_overAll_8, rX7_overAll_10, pCX7_overAll, pSX7_overAll, pOX7_overAll, pLX7_overAll, show (64 : Int32) ≤ nI 64 from by decide, kl_I, kl_J, kl_R, kl_T, kl_N, Nat.le_refl, Nat.zero_le, List.map_nil, List.map_cons, List.sum_nil, List.sum_cons, c_I, c_J, c_R, c_T, va_rf, hI_wI, hJ_wJ, hR_wR, hI_J, hI_R, hJ_I, hJ_R, hR_I, hR_J, hN_I, hN_J, hN_R, wI_I, wJ_J, upd_at, updL_at, kR_s, Option.toList, List.append_nil, List.nil_append, List.cons_append, if_true, if_false, reduceIte, Bool.false_eq_true, not_true_eq_false, not_false_eq_true, true_and, and_true, false_and, and_false, true_or, or_true,  Nat.reduceEqDiff, Nat.reduceAdd, Nat.reduceLeDiff]
  | succ k ih =>
    intro i hi h o8 o9 F hf w c0 e0
    have ww := w.2.1
    have t6 := tIx ww ht
    have g1 : ¬ (64 : Int32) ≤ nI i := by rw [nge (x := i) (k := 64) (c := 64) rfl (by omega) (by omega)]; omega
    have wt := c_weight (d := d + 3) (c := i) F hf w t6.2 (by omega)
    have wl := wtN_le ww (t := t) (c := i)
    have cmp := lg0 (x := wtN a t i) (by omega)
    by_cases c : wtN a t i = 0
    · obtain ⟨h', o8', o9', k1, k2, k3⟩ := ih (i + 1) (by omega) h (some (.long (lN (wtN a t i)))) none F hf w c0 e0
      refine ⟨h', o8', o9', fun Q => ?_, k2, k3⟩
      have k4 := k1 Q
      rw [ovN, c, Nat.zero_mul, Nat.add_zero] at k4
      rw [if_pos c] at cmp
      rw [c] at wt cmp
      simp (implicitDefEqProofs := false) only [rX7_overAll_6, rX7_overAll_8, rX7_overAll_10, rX7_overAll_13, rX7_overAll_13b, rX7_overAll_14, rX7_overAll_17, rX7_overAll_19, rX7_overAll_19b, rX7_overAll_20, rX7_overAll_23, rX7_overAll_26, rX7_overAll_29, rX7_overAll_31, rX7_overAll_33, rX7_overAll_34, rX7_overAll_35, rX7_overAll_38, rX7_overAll_40, rX7_overAll_42, rX7_overAll_43, rX7_overAll_44, rX7_overAll_44b, rX7_overAll_45, rX7_overAll_48, rX7_overAll_50, rX7_overAll_50b, rX7_overAll_51, rX7_overAll_54, rX7_overAll_57, rX7_overAll_58, rX7_overAll_61, rX7_overAll_64, rX7_overAll_65, rX7_overAll_66, rX7_overAll_67, rX7_overAll_69, fin_0_2 F, fin_0_3 F, fin_0_4 F, fin_0_5 F, fin_0_6 F, fin_0_7 F, kA_0, kB_0, kA_29, kB_29, kA_32, kB_32, pCX7_overAll, pSX7_overAll, pOX7_overAll, pLX7_overAll, pCX0_weight, pSX0_weight, pOX0_weight, pLX0_weight, g1, e0, wt, cmp, Int32.le_refl, kl_I, kl_J, kl_R, kl_T, kl_N, Nat.le_refl, Nat.zero_le, List.map_nil, List.map_cons, List.sum_nil, List.sum_cons, c_I, c_J, c_R, c_T, va_rf, hI_wI, hJ_wJ, hR_wR, hI_J, hI_R, hJ_I, hJ_R, hR_I, hR_J, hN_I, hN_J, hN_R, wI_I, wJ_J, upd_at, updL_at, kR_s, Option.toList, List.append_nil, List.nil_append, List.cons_append, if_true, if_false, reduceIte, Bool.false_eq_true, not_true_eq_false, not_false_eq_true, true_and, and_true, false_and, and_false, true_or, or_true,  Nat.reduceEqDiff, Nat.reduceAdd, Nat.reduceLeDiff]
      rw [rX7_overAll_72, nI_1]
      exact k4
    · have lt := wtN_lt ww (t := t) (c := i) (by omega) c
      obtain ⟨h1, b1, b2, b3, b4, b5⟩ := c_burntIf (d := d + 1) (y := y) F hf w c0 ht lt (by omega)
      have c1 : cC h1 a := .inr ⟨t, ht, b4, b5⟩
      have F1 := Fin_sx F b2
      obtain ⟨h', o8', o9', k1, k2, k3⟩ := ih (i + 1) (by omega) h1 (some (.long (lN (wtN a t i)))) none F1 (by rw [b2.1]; exact hf) (cS_sx w b2 (by simp)) c1 (by rw [b2.2.2.2 29 (by simp)]; exact e0)
      refine ⟨h', o8', o9', fun Q => ?_, sx_trans b2 k2, k3⟩
      have k4 := k1 Q
      rw [if_neg c] at cmp
      have ct := c_counted (d := d + 3) (h := h1) (so := so) (x := x) (v := biN a t i y) hso hx (biN_lt ww)
      have cl := cgN_le (so := so) (x := x) (v := biN a t i y)
      have i2 : (nI (cgN so x (biN a t i y))).toInt64 = lN (cgN so x (biN a t i y)) := nI_l (by omega)
      rw [ovN] at k4
      simp (implicitDefEqProofs := false) only [rX7_overAll_6, rX7_overAll_8, rX7_overAll_10, rX7_overAll_13, rX7_overAll_13b, rX7_overAll_14, rX7_overAll_17, rX7_overAll_19, rX7_overAll_19b, rX7_overAll_20, rX7_overAll_23, rX7_overAll_26, rX7_overAll_29, rX7_overAll_31, rX7_overAll_33, rX7_overAll_34, rX7_overAll_35, rX7_overAll_38, rX7_overAll_40, rX7_overAll_42, rX7_overAll_43, rX7_overAll_44, rX7_overAll_44b, rX7_overAll_45, rX7_overAll_48, rX7_overAll_50, rX7_overAll_50b, rX7_overAll_51, rX7_overAll_54, rX7_overAll_57, rX7_overAll_58, rX7_overAll_61, rX7_overAll_64, rX7_overAll_65, rX7_overAll_66, rX7_overAll_67, rX7_overAll_69, fin_0_2 F, fin_0_3 F, fin_0_4 F, fin_0_5 F, fin_0_6 F, fin_0_7 F, kA_0, kB_0, kA_29, kB_29, kA_32, kB_32, pCX7_overAll, pSX7_overAll, pOX7_overAll, pLX7_overAll, pCX0_weight, pSX0_weight, pOX0_weight, pLX0_weight, pCX0_burntIf, pSX0_burntIf, pOX0_burntIf, pLX0_burntIf, pCX7_counted, pSX7_counted, pOX7_counted, pLX7_counted, g1, e0, wt, cmp, show ¬ (1 : Int32) ≤ 0 from by decide, b1, ct, i2, lN_mul, lN_add, kl_I, kl_J, kl_R, kl_T, kl_N, Nat.le_refl, Nat.zero_le, List.map_nil, List.map_cons, List.sum_nil, List.sum_cons, c_I, c_J, c_R, c_T, va_rf, hI_wI, hJ_wJ, hR_wR, hI_J, hI_R, hJ_I, hJ_R, hR_I, hR_J, hN_I, hN_J, hN_R, wI_I, wJ_J, upd_at, updL_at, kR_s, Option.toList, List.append_nil, List.nil_append, List.cons_append, if_true, if_false, reduceIte, Bool.false_eq_true, not_true_eq_false, not_false_eq_true, true_and, and_true, false_and, and_false, true_or, or_true,  Nat.reduceEqDiff, Nat.reduceAdd, Nat.reduceLeDiff]
      rw [rX7_overAll_72, nI_1]
      exact k4
theorem l_low {d : Nat} {h : qH} {U W : Nat} {lo : Int32} {Q : Option (Option Value) → qH → Prop} : ∀ (m i A B : Nat) (o10 o11 : Option Value), B < 2 ^ m → A < 2 ^ 63 → B < 2 ^ 63 → i + 2 * m < 200 → ∃ i' p10 p11, WP d mX7_lowest (0, 0) 9 [some (.long (lN U)), none, some (.long (lN W)), none, some (.int lo), some (.long (lN A)), none, some (.long (lN B)), none, some (.int (nI i)), o10, o11] [] h Q = WP d mX7_lowest (0, 0) 45 [some (.long (lN U)), none, some (.long (lN W)), none, some (.int lo), some (.long (lN (Nat.gcd B A))), none, some (.long (lN 0)), none, some (.int i'), p10, p11] [] h Q := by
  intro m
  induction m with
  | zero =>
    intro i A B o10 o11 h1 h2 h3 h4
    obtain rfl : B = 0 := by simpa using h1
    have g1 : ¬ (200 : Int32) ≤ nI i := by rw [nge (x := i) (k := 200) (c := 200) rfl (by omega) (by omega)]; omega
    have cmp := lg0 (x := 0) (by decide)
    rw [if_pos rfl] at cmp
    refine ⟨nI i, o10, o11, ?_⟩
    simp (implicitDefEqProofs := false) only [rX7_lowest_9, rX7_lowest_11, rX7_lowest_14, rX7_lowest_17, rX7_lowest_19, rX7_lowest_20, rX7_lowest_21, rX7_lowest_24, rX7_lowest_26, rX7_lowest_28, rX7_lowest_29, rX7_lowest_31, rX7_lowest_33, rX7_lowest_35, rX7_lowest_37, rX7_lowest_39, pCX7_lowest, pSX7_lowest, pOX7_lowest, pLX7_lowest, g1, cmp, Nat.gcd_zero_left, kl_I, kl_J, kl_R, kl_T, kl_N, Nat.le_refl, Nat.zero_le, List.map_nil, List.map_cons, List.sum_nil, List.sum_cons, c_I, c_J, c_R, c_T, va_rf, hI_wI, hJ_wJ, hR_wR, hI_J, hI_R, hJ_I, hJ_R, hR_I, hR_J, hN_I, hN_J, hN_R, wI_I, wJ_J, upd_at, updL_at, kR_s, Option.toList, List.append_nil, List.nil_append, List.cons_append, if_true, if_false, reduceIte, Bool.false_eq_true, not_true_eq_false, not_false_eq_true, true_and, and_true, false_and, and_false, true_or, or_true,  Nat.reduceEqDiff, Nat.reduceAdd, Nat.reduceLeDiff]
  | succ m ih =>
    intro i A B o10 o11 h1 h2 h3 h4
    have g1 : ¬ (200 : Int32) ≤ nI i := by rw [nge (x := i) (k := 200) (c := 200) rfl (by omega) (by omega)]; omega
    have g2 : ¬ (200 : Int32) ≤ nI (i + 1) := by rw [nge (x := i + 1) (k := 200) (c := 200) rfl (by omega) (by omega)]; omega
    have cmp := lg0 (x := B) h3
    by_cases c : B = 0
    · subst c
      rw [if_pos rfl] at cmp
      refine ⟨nI i, o10, o11, ?_⟩
      simp (implicitDefEqProofs := false) only [rX7_lowest_9, rX7_lowest_11, rX7_lowest_14, rX7_lowest_17, rX7_lowest_19, rX7_lowest_20, rX7_lowest_21, rX7_lowest_24, rX7_lowest_26, rX7_lowest_28, rX7_lowest_29, rX7_lowest_31, rX7_lowest_33, rX7_lowest_35, rX7_lowest_37, rX7_lowest_39, pCX7_lowest, pSX7_lowest, pOX7_lowest, pLX7_lowest, g1, cmp, Nat.gcd_zero_left, kl_I, kl_J, kl_R, kl_T, kl_N, Nat.le_refl, Nat.zero_le, List.map_nil, List.map_cons, List.sum_nil, List.sum_cons, c_I, c_J, c_R, c_T, va_rf, hI_wI, hJ_wJ, hR_wR, hI_J, hI_R, hJ_I, hJ_R, hR_I, hR_J, hN_I, hN_J, hN_R, wI_I, wJ_J, upd_at, updL_at, kR_s, Option.toList, List.append_nil, List.nil_append, List.cons_append, if_true, if_false, reduceIte, Bool.false_eq_true, not_true_eq_false, not_false_eq_true, true_and, and_true, false_and, and_false, true_or, or_true,  Nat.reduceEqDiff, Nat.reduceAdd, Nat.reduceLeDiff]
    · rw [if_neg c] at cmp
      have nz : ¬ lN B = 0 := fun q => c ((pk_lEQ h3 (by decide)).mp (q.trans (show (0 : Int64) = lN 0 from rfl)))
      have rm := pk_lRem (a := A) (b := B) h2 (by omega) h3
      have r1 : A % B < B := Nat.mod_lt _ (by omega)
      have cmp2 := lg0 (x := A % B) (by omega)
      have gc : Nat.gcd B A = Nat.gcd (A % B) B := Nat.gcd_rec B A
      by_cases c2 : A % B = 0
      · rw [if_pos c2] at cmp2
        refine ⟨nI (i + 1), some (.long (lN (A % B))), none, ?_⟩
        simp (implicitDefEqProofs := false) only [rX7_lowest_9, rX7_lowest_11, rX7_lowest_14, rX7_lowest_17, rX7_lowest_19, rX7_lowest_20, rX7_lowest_21, rX7_lowest_24, rX7_lowest_26, rX7_lowest_28, rX7_lowest_29, rX7_lowest_31, rX7_lowest_33, rX7_lowest_35, rX7_lowest_37, rX7_lowest_39, pCX7_lowest, pSX7_lowest, pOX7_lowest, pLX7_lowest, g1, cmp, nz, rm, show ¬ (1 : Int32) = 0 from by decide, kl_I, kl_J, kl_R, kl_T, kl_N, Nat.le_refl, Nat.zero_le, List.map_nil, List.map_cons, List.sum_nil, List.sum_cons, c_I, c_J, c_R, c_T, va_rf, hI_wI, hJ_wJ, hR_wR, hI_J, hI_R, hJ_I, hJ_R, hR_I, hR_J, hN_I, hN_J, hN_R, wI_I, wJ_J, upd_at, updL_at, kR_s, Option.toList, List.append_nil, List.nil_append, List.cons_append, if_true, if_false, reduceIte, Bool.false_eq_true, not_true_eq_false, not_false_eq_true, true_and, and_true, false_and, and_false, true_or, or_true,  Nat.reduceEqDiff, Nat.reduceAdd, Nat.reduceLeDiff]
        rw [rX7_lowest_42, nI_1]
        rw [c2] at cmp2
        simp (implicitDefEqProofs := false) only [rX7_lowest_9, rX7_lowest_11, rX7_lowest_14, rX7_lowest_17, rX7_lowest_19, rX7_lowest_20, rX7_lowest_21, rX7_lowest_24, rX7_lowest_26, rX7_lowest_28, rX7_lowest_29, rX7_lowest_31, rX7_lowest_33, rX7_lowest_35, rX7_lowest_37, rX7_lowest_39, pCX7_lowest, pSX7_lowest, pOX7_lowest, pLX7_lowest, g2, c2, cmp2, gc, Nat.gcd_zero_left, kl_I, kl_J, kl_R, kl_T, kl_N, Nat.le_refl, Nat.zero_le, List.map_nil, List.map_cons, List.sum_nil, List.sum_cons, c_I, c_J, c_R, c_T, va_rf, hI_wI, hJ_wJ, hR_wR, hI_J, hI_R, hJ_I, hJ_R, hR_I, hR_J, hN_I, hN_J, hN_R, wI_I, wJ_J, upd_at, updL_at, kR_s, Option.toList, List.append_nil, List.nil_append, List.cons_append, if_true, if_false, reduceIte, Bool.false_eq_true, not_true_eq_false, not_false_eq_true, true_and, and_true, false_and, and_false, true_or, or_true,  Nat.reduceEqDiff, Nat.reduceAdd, Nat.reduceLeDiff]
      · rw [if_neg c2] at cmp2
        have nz2 : ¬ lN (A % B) = 0 := fun q => c2 ((pk_lEQ (by omega) (by decide)).mp (q.trans (show (0 : Int64) = lN 0 from rfl)))
        have rm2 := pk_lRem (a := B) (b := A % B) h3 (by omega) (by omega)
        have r2 : B % (A % B) < A % B := Nat.mod_lt _ (by omega)
        have gc2 : Nat.gcd (A % B) B = Nat.gcd (B % (A % B)) (A % B) := Nat.gcd_rec _ _
        have half : B % (A % B) < 2 ^ m := by
          rw [Nat.pow_succ] at h1
          by_cases q : A % B ≤ 2 ^ m
          · omega
          · have e : B / (A % B) = 1 := by
              apply Nat.div_eq_of_lt_le
              · omega
              · omega
            have := Nat.mod_add_div B (A % B)
            rw [e] at this
            omega
        obtain ⟨i', p10, p11, k⟩ := ih (i + 1 + 1) (A % B) (B % (A % B)) (some (.long (lN (B % (A % B))))) none half (by omega) (by omega) (by omega)
        refine ⟨i', p10, p11, ?_⟩
        simp (implicitDefEqProofs := false) only [rX7_lowest_9, rX7_lowest_11, rX7_lowest_14, rX7_lowest_17, rX7_lowest_19, rX7_lowest_20, rX7_lowest_21, rX7_lowest_24, rX7_lowest_26, rX7_lowest_28, rX7_lowest_29, rX7_lowest_31, rX7_lowest_33, rX7_lowest_35, rX7_lowest_37, rX7_lowest_39, pCX7_lowest, pSX7_lowest, pOX7_lowest, pLX7_lowest, g1, cmp, nz, rm, show ¬ (1 : Int32) = 0 from by decide, kl_I, kl_J, kl_R, kl_T, kl_N, Nat.le_refl, Nat.zero_le, List.map_nil, List.map_cons, List.sum_nil, List.sum_cons, c_I, c_J, c_R, c_T, va_rf, hI_wI, hJ_wJ, hR_wR, hI_J, hI_R, hJ_I, hJ_R, hR_I, hR_J, hN_I, hN_J, hN_R, wI_I, wJ_J, upd_at, updL_at, kR_s, Option.toList, List.append_nil, List.nil_append, List.cons_append, if_true, if_false, reduceIte, Bool.false_eq_true, not_true_eq_false, not_false_eq_true, true_and, and_true, false_and, and_false, true_or, or_true,  Nat.reduceEqDiff, Nat.reduceAdd, Nat.reduceLeDiff]
        rw [rX7_lowest_42, nI_1]
        simp (implicitDefEqProofs := false) only [rX7_lowest_9, rX7_lowest_11, rX7_lowest_14, rX7_lowest_17, rX7_lowest_19, rX7_lowest_20, rX7_lowest_21, rX7_lowest_24, rX7_lowest_26, rX7_lowest_28, rX7_lowest_29, rX7_lowest_31, rX7_lowest_33, rX7_lowest_35, rX7_lowest_37, rX7_lowest_39, pCX7_lowest, pSX7_lowest, pOX7_lowest, pLX7_lowest, g2, cmp2, nz2, rm2, show ¬ (1 : Int32) = 0 from by decide, kl_I, kl_J, kl_R, kl_T, kl_N, Nat.le_refl, Nat.zero_le, List.map_nil, List.map_cons, List.sum_nil, List.sum_cons, c_I, c_J, c_R, c_T, va_rf, hI_wI, hJ_wJ, hR_wR, hI_J, hI_R, hJ_I, hJ_R, hR_I, hR_J, hN_I, hN_J, hN_R, wI_I, wJ_J, upd_at, updL_at, kR_s, Option.toList, List.append_nil, List.nil_append, List.cons_append, if_true, if_false, reduceIte, Bool.false_eq_true, not_true_eq_false, not_false_eq_true, true_and, and_true, false_and, and_false, true_or, or_true,  Nat.reduceEqDiff, Nat.reduceAdd, Nat.reduceLeDiff]
        rw [rX7_lowest_42, nI_1, gc, gc2]
        exact k
def fcN (U W : Nat) (lo : Bool) : Nat := if lo = true then W / Nat.gcd U W else U / Nat.gcd U W
theorem c_lowest {d : Nat} {h : qH} {U W : Nat} {lo : Bool} (hU : U < 2 ^ 63) (hW : W < 2 ^ 63) (hp : 0 < W) : ∀ Q, WM d mX7_lowest [.long (lN U), .long (lN W), .int (bI lo)] h Q = Q (some (some (.long (lN (fcN U W lo))))) h := by
  intro Q
  obtain ⟨i', p10, p11, k⟩ := l_low (d := d) (h := h) (U := U) (W := W) (lo := bI lo) (Q := Q) 63 0 W U none none hU hW hU (by omega)
  have gp : 0 < Nat.gcd U W := Nat.gcd_pos_of_pos_right _ hp
  have gl : Nat.gcd U W ≤ W := Nat.gcd_le_right _ hp
  have cmp := lg0 (x := Nat.gcd U W) (by omega)
  rw [if_neg (by omega)] at cmp
  have nz : ¬ lN (Nat.gcd U W) = 0 := fun q => by
    have := (pk_lEQ (by omega) (by decide)).mp (q.trans (show (0 : Int64) = lN 0 from rfl))
    omega
  have d1 := pk_lDiv (a := U) (b := Nat.gcd U W) hU gp (by omega)
  have d2 := pk_lDiv (a := W) (b := Nat.gcd U W) hW gp (by omega)
  rw [nI_0] at k
  simp (implicitDefEqProofs := false) only [eX7_lowest, rX7_lowest_0, rX7_lowest_1, rX7_lowest_3, rX7_lowest_4, rX7_lowest_6, rX7_lowest_7, pCX7_lowest, pSX7_lowest, pOX7_lowest, pLX7_lowest, kl_I, kl_J, kl_R, kl_T, kl_N, Nat.le_refl, Nat.zero_le, List.map_nil, List.map_cons, List.sum_nil, List.sum_cons, c_I, c_J, c_R, c_T, va_rf, hI_wI, hJ_wJ, hR_wR, hI_J, hI_R, hJ_I, hJ_R, hR_I, hR_J, hN_I, hN_J, hN_R, wI_I, wJ_J, upd_at, updL_at, kR_s, Option.toList, List.append_nil, List.nil_append, List.cons_append, if_true, if_false, reduceIte, Bool.false_eq_true, not_true_eq_false, not_false_eq_true, true_and, and_true, false_and, and_false, true_or, or_true,  Nat.reduceEqDiff, Nat.reduceAdd, Nat.reduceLeDiff]
  rw [k]
  unfold fcN
  cases lo with
  | true => simp (implicitDefEqProofs := false) only [rX7_lowest_45, rX7_lowest_47, rX7_lowest_48, rX7_lowest_49, rX7_lowest_52, rX7_lowest_54, rX7_lowest_57, rX7_lowest_58, rX7_lowest_61, rX7_lowest_62, rX7_lowest_63, rX7_lowest_65, rX7_lowest_68, rX7_lowest_69, rX7_lowest_71, rX7_lowest_72, rX7_lowest_75, rX7_lowest_76, rX7_lowest_78, rX7_lowest_79, pCX7_lowest, pSX7_lowest, pOX7_lowest, pLX7_lowest, bI_t, cmp, nz, d1, d2, show (0 : Int32) < 1 from by decide, show ¬ (1 : Int32) = 0 from by decide, kl_I, kl_J, kl_R, kl_T, kl_N, Nat.le_refl, Nat.zero_le, List.map_nil, List.map_cons, List.sum_nil, List.sum_cons, c_I, c_J, c_R, c_T, va_rf, hI_wI, hJ_wJ, hR_wR, hI_J, hI_R, hJ_I, hJ_R, hR_I, hR_J, hN_I, hN_J, hN_R, wI_I, wJ_J, upd_at, updL_at, kR_s, Option.toList, List.append_nil, List.nil_append, List.cons_append, if_true, if_false, reduceIte, Bool.false_eq_true, not_true_eq_false, not_false_eq_true, true_and, and_true, false_and, and_false, true_or, or_true,  Nat.reduceEqDiff, Nat.reduceAdd, Nat.reduceLeDiff]
  | false => simp (implicitDefEqProofs := false) only [rX7_lowest_45, rX7_lowest_47, rX7_lowest_48, rX7_lowest_49, rX7_lowest_52, rX7_lowest_54, rX7_lowest_57, rX7_lowest_58, rX7_lowest_61, rX7_lowest_62, rX7_lowest_63, rX7_lowest_65, rX7_lowest_68, rX7_lowest_69, rX7_lowest_71, rX7_lowest_72, rX7_lowest_75, rX7_lowest_76, rX7_lowest_78, rX7_lowest_79, pCX7_lowest, pSX7_lowest, pOX7_lowest, pLX7_lowest, bI_f, cmp, nz, d1, d2, show (0 : Int32) < 1 from by decide, show ¬ (1 : Int32) = 0 from by decide, kl_I, kl_J, kl_R, kl_T, kl_N, Nat.le_refl, Nat.zero_le, List.map_nil, List.map_cons, List.sum_nil, List.sum_cons, c_I, c_J, c_R, c_T, va_rf, hI_wI, hJ_wJ, hR_wR, hI_J, hI_R, hJ_I, hJ_R, hR_I, hR_J, hN_I, hN_J, hN_R, wI_I, wJ_J, upd_at, updL_at, kR_s, Option.toList, List.append_nil, List.nil_append, List.cons_append, if_true, if_false, reduceIte, Bool.false_eq_true, not_true_eq_false, not_false_eq_true, true_and, and_true, false_and, and_false, true_or, or_true,  Nat.reduceEqDiff, Nat.reduceAdd, Nat.reduceLeDiff]
theorem whN_b {a : aS} {t : Nat} : ∀ n, 0 < whN a t n ∧ whN a t n ≤ 100 ^ n
  | 0 => by simp [whN]
  | n + 1 => by
    have := whN_b (a := a) (t := t) n
    have e : 100 ^ (n + 1) = 100 ^ n * 100 := by rw [Nat.pow_succ]
    rw [whN]
    split <;> omega
noncomputable def chN (S : AS) (so x y : Nat) (lo : Bool) : Int64 := lN (fcN (ovN (sA S) (sX S).1 y so x 64) (whN (sA S) (sX S).1 (aN (sA S))) lo)
theorem c_overAll {d : Nat} {h : qH} {S : AS} {s so x y : Nat} {lo : Bool} (F : Fin0 (hR h)) (hf : hR h 32 0 = some s) (w : cS h s (sA S)) (c0 : cC h (sA S)) (e0 : hI h 29 0 = nI (sX S).1) (ht : (sX S).1 < 2 ^ aN (sA S)) (hy : y ≤ 90) (hso : so < 3) (hx : x < 6) : ∃ h', (∀ Q, WM (d + 5) mX7_overAll [.ref (0 : Nat), .int (nI so), .int (nI x), .int (nI y), .int (bI lo)] h Q = Q (some (some (.long (chN S so x y lo)))) h') ∧ sx [32, 33, 34, 36] h h' ∧ cC h' (sA S) := by
  obtain ⟨h', o8, o9, k1, k2, k3⟩ := l_overAll (d := d) (s := s) (a := sA S) (lo := bI lo) ht hy hso hx 64 0 (by omega) h none none F hf w c0 e0
  refine ⟨h', fun Q => ?_, k2, k3⟩
  have ww := w.2.1
  have t6 := tIx ww ht
  have F1 := Fin_sx F k2
  have k4 := k1 Q
  rw [show ovN (sA S) (sX S).1 y so x 0 = 0 from rfl, nI_0] at k4
  have wh := c_wholeWeight (d := d + 3) F1 (by rw [k2.1]; exact hf) (cS_sx w k2 (by simp)) t6.2
  have ol := ovN_le ww (t := (sX S).1) (y := y) (so := so) (x := x) 64
  have wb := whN_b (a := sA S) (t := (sX S).1) (aN (sA S))
  have wb2 : 100 ^ aN (sA S) ≤ 100 ^ 6 := Nat.pow_le_pow_right (by omega) ww.1
  have lw := c_lowest (d := d + 4) (h := h') (U := ovN (sA S) (sX S).1 y so x 64) (W := whN (sA S) (sX S).1 (aN (sA S))) (lo := lo) (by omega) (by omega) wb.1
  have e0' : hI h' 29 0 = nI (sX S).1 := by rw [k2.2.2.2 29 (by simp)]; exact e0
  simp (implicitDefEqProofs := false) only [eX7_overAll, rX7_overAll_0, rX7_overAll_1, rX7_overAll_3, rX7_overAll_4, pCX7_overAll, pSX7_overAll, pOX7_overAll, pLX7_overAll, show (0 : Int64) = lN 0 from rfl, kl_I, kl_J, kl_R, kl_T, kl_N, Nat.le_refl, Nat.zero_le, List.map_nil, List.map_cons, List.sum_nil, List.sum_cons, c_I, c_J, c_R, c_T, va_rf, hI_wI, hJ_wJ, hR_wR, hI_J, hI_R, hJ_I, hJ_R, hR_I, hR_J, hN_I, hN_J, hN_R, wI_I, wJ_J, upd_at, updL_at, kR_s, Option.toList, List.append_nil, List.nil_append, List.cons_append, if_true, if_false, reduceIte, Bool.false_eq_true, not_true_eq_false, not_false_eq_true, true_and, and_true, false_and, and_false, true_or, or_true,  Nat.reduceEqDiff, Nat.reduceAdd, Nat.reduceLeDiff]
  rw [k4]
  simp (implicitDefEqProofs := false) only [rX7_overAll_75, rX7_overAll_77, rX7_overAll_77b, rX7_overAll_78, rX7_overAll_81, rX7_overAll_81b, rX7_overAll_82, rX7_overAll_85, rX7_overAll_88, rX7_overAll_91, rX7_overAll_93, rX7_overAll_96, fin_0_2 F1, fin_0_3 F1, fin_0_4 F1, fin_0_5 F1, fin_0_6 F1, fin_0_7 F1, kA_0, kB_0, kA_29, kB_29, kA_32, kB_32, pCX7_overAll, pSX7_overAll, pOX7_overAll, pLX7_overAll, pCX0_wholeWeight, pSX0_wholeWeight, pOX0_wholeWeight, pLX0_wholeWeight, pCX7_lowest, pSX7_lowest, pOX7_lowest, pLX7_lowest, e0', wh, lw, chN, kl_I, kl_J, kl_R, kl_T, kl_N, Nat.le_refl, Nat.zero_le, List.map_nil, List.map_cons, List.sum_nil, List.sum_cons, c_I, c_J, c_R, c_T, va_rf, hI_wI, hJ_wJ, hR_wR, hI_J, hI_R, hJ_I, hJ_R, hR_I, hR_J, hN_I, hN_J, hN_R, wI_I, wJ_J, upd_at, updL_at, kR_s, Option.toList, List.append_nil, List.nil_append, List.cons_append, if_true, if_false, reduceIte, Bool.false_eq_true, not_true_eq_false, not_false_eq_true, true_and, and_true, false_and, and_false, true_or, or_true,  Nat.reduceEqDiff, Nat.reduceAdd, Nat.reduceLeDiff]
