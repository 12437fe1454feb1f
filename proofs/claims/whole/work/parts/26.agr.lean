/-! ===== who agrees; who lit ===== -/
theorem or_lt {n t j : Nat} (ht : t < 2 ^ n) (hj : j < n) : t ||| 2 ^ j < 2 ^ n := Nat.or_lt_two_pow ht (Nat.pow_lt_pow_right (by omega) hj)
noncomputable def agP (a : aS) (t wi on j : Nat) : Bool := decide (on < dayN a t j ∧ nxN a (t ||| 2 ^ j) wi on = some j)
noncomputable def agN (a : aS) (t wi on : Nat) : Nat := bm (agP a t wi on) (aN a)
theorem oI_eq {o : Option Nat} {j : Nat} (ho : ∀ x, o = some x → x < 2 ^ 31) (hj : j < 2 ^ 31) : (oI o = nI j) = (o = some j) := by
  cases o with
  | none =>
    have := nN (x := j) (k := 0) hj
    simp only [oI]
    apply propext
    constructor
    · intro q
      exact (this ▸ q.symm).elim
    · intro q; cases q
  | some x =>
    simp only [oI, Option.some.injEq]
    exact propext (nI_eq (ho x rfl) hj)
theorem sooL_lt {r : Nat → Nat} {wi af : Nat} : ∀ {k i : Nat} {b : Option Nat} {y x : Nat}, (∀ z, b = some z → z < i + k) → sooL r wi af k i b y = some x → x < i + k
  | 0, i, b, y, x, hb, h => hb x h
  | k + 1, i, b, y, x, hb, h => by
    rw [sooL] at h
    split at h
    · have := sooL_lt (fun z hz => by cases hz; omega) h; omega
    · have := sooL_lt (k := k) (i := i + 1) (fun z hz => by have := hb z hz; omega) h; omega
theorem nxN_lt {a : aS} {t wi af x : Nat} (h : nxN a t wi af = some x) : x < aN a := by
  have := sooL_lt (k := aN a) (i := 0) (fun z hz => by cases hz) h
  omega
theorem l_agreeing {d : Nat} {h : qH} {s t wi on : Nat} {a : aS} {Q : Option (Option Value) → qH → Prop} (F : Fin0 (hR h)) (hf : hR h 32 0 = some s) (w : cS h s a) (b : bT h a) (ht : t < 2 ^ aN a) (hw : wi < 64) (hy : on < 2 ^ 31) : ∀ (k i : Nat), i + k = aN a → WP (d + 2) mX0_agreeing (0, 0) 6 [some (.ref (32 : Nat)), some (.int (nI t)), some (.int (nI wi)), some (.int (nI on)), some (.int (nI (bm (agP a t wi on) i))), some (.int (nI i))] [] h Q = Q (some (some (.int (nI (agN a t wi on))))) h := by
  have hs := w.1
  have ww := w.2.1
  have w3 := w.2.2.1
  have h6 := ww.1
  intro k
  induction k with
  | zero =>
    intro i hi
    obtain rfl : i = aN a := by omega
    simp (implicitDefEqProofs := false) only [rX0_agreeing_0, rX0_agreeing_1, rX0_agreeing_3, rX0_agreeing_4, rX0_agreeing_6, rX0_agreeing_8, rX0_agreeing_8b, rX0_agreeing_9, rX0_agreeing_12, rX0_agreeing_15, rX0_agreeing_18, rX0_agreeing_18b, rX0_agreeing_19, rX0_agreeing_20, rX0_agreeing_22, rX0_agreeing_25, rX0_agreeing_26, rX0_agreeing_29, rX0_agreeing_29b, rX0_agreeing_30, rX0_agreeing_31, rX0_agreeing_32, rX0_agreeing_34, rX0_agreeing_35, rX0_agreeing_36, rX0_agreeing_37, rX0_agreeing_38, rX0_agreeing_41, rX0_agreeing_43, rX0_agreeing_46, rX0_agreeing_48, rX0_agreeing_49, rX0_agreeing_51, rX0_agreeing_52, rX0_agreeing_53, rX0_agreeing_55, rX0_agreeing_61, rX0_agreeing_63, kS0 hs, kS1 hs, kT1 hs, fS1 hs F, kS2 hs, kT2 hs, fS2 hs F, kS3 hs, kT3 hs, fS3 hs F, kS4 hs, kT4 hs, fS4 hs F, kS5 hs, kT5 hs, fS5 hs F, kS6 hs, kT6 hs, fS6 hs F, kS7 hs, kT7 hs, fS7 hs F, kS8 hs, kT8 hs, fS8 hs F, kS9 hs, kT9 hs, fS9 hs F, kS10 hs, kT10 hs, fS10 hs F, kS11 hs, kT11 hs, fS11 hs F, nS hs, nSs hs, kA_32, kB_32, hf, pCX0_agreeing, pSX0_agreeing, pOX0_agreeing, pLX0_agreeing, w3.2.1, Int32.le_refl, kl_I, kl_J, kl_R, kl_T, kl_N, Nat.le_refl, Nat.zero_le, List.map_nil, List.map_cons, List.sum_nil, List.sum_cons, c_I, c_J, c_R, c_T, va_rf, hI_wI, hJ_wJ, hR_wR, hI_J, hI_R, hJ_I, hJ_R, hR_I, hR_J, hN_I, hN_J, hN_R, wI_I, wJ_J, upd_at, updL_at, kR_s, Option.toList, List.append_nil, List.nil_append, List.cons_append, if_true, if_false, reduceIte, Bool.false_eq_true, not_true_eq_false, not_false_eq_true, true_and, and_true, false_and, and_false,  Nat.reduceEqDiff, Nat.reduceAdd, Nat.reduceLeDiff]
    rfl
  | succ k ih =>
    intro i hi
    have hlt : i < aN a := by omega
    have g1 : ¬ nI (aN a) ≤ nI i := nI_ge hlt (by omega)
    have k1 := dayN_le ww t i
    have q1 : (nI (dayN a t i) ≤ nI on) = (dayN a t i ≤ on) := propext (nI_leI (by omega) (by omega))
    have q2 := oI_eq (o := nxN a (t ||| 2 ^ i) wi on) (j := i) (fun x hx => by have := nxN_lt hx; omega) (by omega)
    have i1 := ih (i + 1) (by omega)
    simp (implicitDefEqProofs := false) only [rX0_agreeing_0, rX0_agreeing_1, rX0_agreeing_3, rX0_agreeing_4, rX0_agreeing_6, rX0_agreeing_8, rX0_agreeing_8b, rX0_agreeing_9, rX0_agreeing_12, rX0_agreeing_15, rX0_agreeing_18, rX0_agreeing_18b, rX0_agreeing_19, rX0_agreeing_20, rX0_agreeing_22, rX0_agreeing_25, rX0_agreeing_26, rX0_agreeing_29, rX0_agreeing_29b, rX0_agreeing_30, rX0_agreeing_31, rX0_agreeing_32, rX0_agreeing_34, rX0_agreeing_35, rX0_agreeing_36, rX0_agreeing_37, rX0_agreeing_38, rX0_agreeing_41, rX0_agreeing_43, rX0_agreeing_46, rX0_agreeing_48, rX0_agreeing_49, rX0_agreeing_51, rX0_agreeing_52, rX0_agreeing_53, rX0_agreeing_55, rX0_agreeing_61, rX0_agreeing_63, kS0 hs, kS1 hs, kT1 hs, fS1 hs F, kS2 hs, kT2 hs, fS2 hs F, kS3 hs, kT3 hs, fS3 hs F, kS4 hs, kT4 hs, fS4 hs F, kS5 hs, kT5 hs, fS5 hs F, kS6 hs, kT6 hs, fS6 hs F, kS7 hs, kT7 hs, fS7 hs F, kS8 hs, kT8 hs, fS8 hs F, kS9 hs, kT9 hs, fS9 hs F, kS10 hs, kT10 hs, fS10 hs F, kS11 hs, kT11 hs, fS11 hs F, nS hs, nSs hs, kA_32, kB_32, hf, pCX0_agreeing, pSX0_agreeing, pOX0_agreeing, pLX0_agreeing, pCX0_dayOf, pSX0_dayOf, pOX0_dayOf, pLX0_dayOf, pCX0_soonest, pSX0_soonest, pOX0_soonest, pLX0_soonest, w3.2.1, g1, c_dayOf F ww b ht hlt, q1, bt_shl (j := i) (by omega), bt_or, c_soonest F hf w b (or_lt ht hlt) hw hy, q2, kl_I, kl_J, kl_R, kl_T, kl_N, Nat.le_refl, Nat.zero_le, List.map_nil, List.map_cons, List.sum_nil, List.sum_cons, c_I, c_J, c_R, c_T, va_rf, hI_wI, hJ_wJ, hR_wR, hI_J, hI_R, hJ_I, hJ_R, hR_I, hR_J, hN_I, hN_J, hN_R, wI_I, wJ_J, upd_at, updL_at, kR_s, Option.toList, List.append_nil, List.nil_append, List.cons_append, if_true, if_false, reduceIte, Bool.false_eq_true, not_true_eq_false, not_false_eq_true, true_and, and_true, false_and, and_false,  Nat.reduceEqDiff, Nat.reduceAdd, Nat.reduceLeDiff]
    by_cases c1 : dayN a t i ≤ on
    · rw [bm_f (by simp [agP]; omega)] at i1
      simp (implicitDefEqProofs := false) only [c1, kl_I, kl_J, kl_R, kl_T, kl_N, Nat.le_refl, Nat.zero_le, List.map_nil, List.map_cons, List.sum_nil, List.sum_cons, c_I, c_J, c_R, c_T, va_rf, hI_wI, hJ_wJ, hR_wR, hI_J, hI_R, hJ_I, hJ_R, hR_I, hR_J, hN_I, hN_J, hN_R, wI_I, wJ_J, upd_at, updL_at, kR_s, Option.toList, List.append_nil, List.nil_append, List.cons_append, if_true, if_false, reduceIte, Bool.false_eq_true, not_true_eq_false, not_false_eq_true, true_and, and_true, false_and, and_false,  Nat.reduceEqDiff, Nat.reduceAdd, Nat.reduceLeDiff]
      rw [rX0_agreeing_58, nI_1, i1]
    · by_cases c2 : nxN a (t ||| 2 ^ i) wi on = some i
      · rw [bm_t (by simp [agP, c2]; omega)] at i1
        simp (implicitDefEqProofs := false) only [c1, c2, kl_I, kl_J, kl_R, kl_T, kl_N, Nat.le_refl, Nat.zero_le, List.map_nil, List.map_cons, List.sum_nil, List.sum_cons, c_I, c_J, c_R, c_T, va_rf, hI_wI, hJ_wJ, hR_wR, hI_J, hI_R, hJ_I, hJ_R, hR_I, hR_J, hN_I, hN_J, hN_R, wI_I, wJ_J, upd_at, updL_at, kR_s, Option.toList, List.append_nil, List.nil_append, List.cons_append, if_true, if_false, reduceIte, Bool.false_eq_true, not_true_eq_false, not_false_eq_true, true_and, and_true, false_and, and_false,  Nat.reduceEqDiff, Nat.reduceAdd, Nat.reduceLeDiff]
        rw [rX0_agreeing_58, nI_1, i1]
      · rw [bm_f (by simp [agP, c2])] at i1
        simp (implicitDefEqProofs := false) only [c1, c2, kl_I, kl_J, kl_R, kl_T, kl_N, Nat.le_refl, Nat.zero_le, List.map_nil, List.map_cons, List.sum_nil, List.sum_cons, c_I, c_J, c_R, c_T, va_rf, hI_wI, hJ_wJ, hR_wR, hI_J, hI_R, hJ_I, hJ_R, hR_I, hR_J, hN_I, hN_J, hN_R, wI_I, wJ_J, upd_at, updL_at, kR_s, Option.toList, List.append_nil, List.nil_append, List.cons_append, if_true, if_false, reduceIte, Bool.false_eq_true, not_true_eq_false, not_false_eq_true, true_and, and_true, false_and, and_false,  Nat.reduceEqDiff, Nat.reduceAdd, Nat.reduceLeDiff]
        rw [rX0_agreeing_58, nI_1, i1]
theorem c_agreeing {d : Nat} {h : qH} {s t wi on : Nat} {a : aS} (F : Fin0 (hR h)) (hf : hR h 32 0 = some s) (w : cS h s a) (b : bT h a) (ht : t < 2 ^ aN a) (hw : wi < 64) (hy : on < 2 ^ 31) : ∀ Q, WM (d + 2) mX0_agreeing [.ref (32 : Nat), .int (nI t), .int (nI wi), .int (nI on)] h Q = Q (some (some (.int (nI (agN a t wi on))))) h := by
  intro Q
  simp (implicitDefEqProofs := false) only [eX0_agreeing, rX0_agreeing_0, rX0_agreeing_1, rX0_agreeing_3, rX0_agreeing_4, kl_I, kl_J, kl_R, kl_T, kl_N, Nat.le_refl, Nat.zero_le, List.map_nil, List.map_cons, List.sum_nil, List.sum_cons, c_I, c_J, c_R, c_T, va_rf, hI_wI, hJ_wJ, hR_wR, hI_J, hI_R, hJ_I, hJ_R, hR_I, hR_J, hN_I, hN_J, hN_R, wI_I, wJ_J, upd_at, updL_at, kR_s, Option.toList, List.append_nil, List.nil_append, List.cons_append, if_true, if_false, reduceIte, Bool.false_eq_true, not_true_eq_false, not_false_eq_true, true_and, and_true, false_and, and_false,  Nat.reduceEqDiff, Nat.reduceAdd, Nat.reduceLeDiff]
  exact l_agreeing F hf w b ht hw hy (aN a) 0 (by omega)
/-- by whose sparks -/
noncomputable def liL (a : aS) (t x : Nat) : Nat → Nat → Option Nat
  | 0, _ => none
  | k + 1, i => if dayN a t i + lgN a i x (cutN a t) = dayN a t x then some i else liL a t x k (i + 1)
noncomputable def liN (a : aS) (t x : Nat) : Option Nat := if 1000 ≤ dayN a t x ∨ causeN a t x = some (dayN a t x) then none else liL a t x (aN a) 0
theorem cutN_lt {a : aS} (w : aW a) (t : Nat) : cutN a t < 64 := Nat.lt_of_lt_of_le (bm_lt _ _) (p6 w.1)
theorem lgN_le {a : aS} (w : aW a) {x y cut : Nat} : lgN a x y cut ≤ 1000 := by
  unfold lgN
  cases hs : spkN a x y with
  | none => exact Nat.le_refl _
  | some r =>
    have := spkL_lt hs
    have := lag_le w (j := r) (by omega)
    simp only
    split <;> omega
theorem l_lighter {d : Nat} {h : qH} {s t x : Nat} {a : aS} {Q : Option (Option Value) → qH → Prop} (F : Fin0 (hR h)) (hf : hR h 32 0 = some s) (w : cS h s a) (b : bT h a) (ht : t < 2 ^ aN a) (hx : x < aN a) : ∀ (k i : Nat), i + k = aN a → WP (d + 2) mX0_lighter (0, 0) 43 [some (.ref (32 : Nat)), some (.int (nI t)), some (.int (nI x)), some (.int (nI (dayN a t x))), some (.int (nI (cutN a t))), some (.int (nI i))] [] h Q = Q (some (some (.int (oI (liL a t x k i))))) h := by
  have hs := w.1
  have ww := w.2.1
  have w3 := w.2.2.1
  have h6 := ww.1
  intro k
  induction k with
  | zero =>
    intro i hi
    obtain rfl : i = aN a := by omega
    simp (implicitDefEqProofs := false) only [rX0_lighter_43, rX0_lighter_45, rX0_lighter_45b, rX0_lighter_46, rX0_lighter_49, rX0_lighter_52, rX0_lighter_55, rX0_lighter_55b, rX0_lighter_56, rX0_lighter_57, rX0_lighter_59, rX0_lighter_62, rX0_lighter_62b, rX0_lighter_63, rX0_lighter_66, rX0_lighter_68, rX0_lighter_69, rX0_lighter_71, rX0_lighter_74, rX0_lighter_75, rX0_lighter_76, rX0_lighter_79, rX0_lighter_81, rX0_lighter_82, rX0_lighter_88, rX0_lighter_90, kS0 hs, kS1 hs, kT1 hs, fS1 hs F, kS2 hs, kT2 hs, fS2 hs F, kS3 hs, kT3 hs, fS3 hs F, kS4 hs, kT4 hs, fS4 hs F, kS5 hs, kT5 hs, fS5 hs F, kS6 hs, kT6 hs, fS6 hs F, kS7 hs, kT7 hs, fS7 hs F, kS8 hs, kT8 hs, fS8 hs F, kS9 hs, kT9 hs, fS9 hs F, kS10 hs, kT10 hs, fS10 hs F, kS11 hs, kT11 hs, fS11 hs F, nS hs, nSs hs, kA_32, kB_32, hf, pCX0_lighter, pSX0_lighter, pOX0_lighter, pLX0_lighter, w3.2.1, Int32.le_refl, kl_I, kl_J, kl_R, kl_T, kl_N, Nat.le_refl, Nat.zero_le, List.map_nil, List.map_cons, List.sum_nil, List.sum_cons, c_I, c_J, c_R, c_T, va_rf, hI_wI, hJ_wJ, hR_wR, hI_J, hI_R, hJ_I, hJ_R, hR_I, hR_J, hN_I, hN_J, hN_R, wI_I, wJ_J, upd_at, updL_at, kR_s, Option.toList, List.append_nil, List.nil_append, List.cons_append, if_true, if_false, reduceIte, Bool.false_eq_true, not_true_eq_false, not_false_eq_true, true_and, and_true, false_and, and_false,  Nat.reduceEqDiff, Nat.reduceAdd, Nat.reduceLeDiff]
    rfl
  | succ k ih =>
    intro i hi
    have hlt : i < aN a := by omega
    have g1 : ¬ nI (aN a) ≤ nI i := nI_ge hlt (by omega)
    have k1 := dayN_le ww t i
    have k2 := dayN_le ww t x
    have k3 := lgN_le ww (x := i) (y := x) (cut := cutN a t)
    have q1 : (nI (dayN a t i + lgN a i x (cutN a t)) = nI (dayN a t x)) = (dayN a t i + lgN a i x (cutN a t) = dayN a t x) := propext (nI_eq (by omega) (by omega))
    have i1 := ih (i + 1) (by omega)
    simp (implicitDefEqProofs := false) only [rX0_lighter_43, rX0_lighter_45, rX0_lighter_45b, rX0_lighter_46, rX0_lighter_49, rX0_lighter_52, rX0_lighter_55, rX0_lighter_55b, rX0_lighter_56, rX0_lighter_57, rX0_lighter_59, rX0_lighter_62, rX0_lighter_62b, rX0_lighter_63, rX0_lighter_66, rX0_lighter_68, rX0_lighter_69, rX0_lighter_71, rX0_lighter_74, rX0_lighter_75, rX0_lighter_76, rX0_lighter_79, rX0_lighter_81, rX0_lighter_82, rX0_lighter_88, rX0_lighter_90, kS0 hs, kS1 hs, kT1 hs, fS1 hs F, kS2 hs, kT2 hs, fS2 hs F, kS3 hs, kT3 hs, fS3 hs F, kS4 hs, kT4 hs, fS4 hs F, kS5 hs, kT5 hs, fS5 hs F, kS6 hs, kT6 hs, fS6 hs F, kS7 hs, kT7 hs, fS7 hs F, kS8 hs, kT8 hs, fS8 hs F, kS9 hs, kT9 hs, fS9 hs F, kS10 hs, kT10 hs, fS10 hs F, kS11 hs, kT11 hs, fS11 hs F, nS hs, nSs hs, kA_32, kB_32, hf, pCX0_lighter, pSX0_lighter, pOX0_lighter, pLX0_lighter, pCX0_dayOf, pSX0_dayOf, pOX0_dayOf, pLX0_dayOf, pCX4_lagOf, pSX4_lagOf, pOX4_lagOf, pLX4_lagOf, w3.2.1, g1, c_dayOf F ww b ht hlt, c_lagOf F w (show i < 6 from by omega) (show x < 6 from by omega) (cutN_lt ww t), nI_add, q1, liL, kl_I, kl_J, kl_R, kl_T, kl_N, Nat.le_refl, Nat.zero_le, List.map_nil, List.map_cons, List.sum_nil, List.sum_cons, c_I, c_J, c_R, c_T, va_rf, hI_wI, hJ_wJ, hR_wR, hI_J, hI_R, hJ_I, hJ_R, hR_I, hR_J, hN_I, hN_J, hN_R, wI_I, wJ_J, upd_at, updL_at, kR_s, Option.toList, List.append_nil, List.nil_append, List.cons_append, if_true, if_false, reduceIte, Bool.false_eq_true, not_true_eq_false, not_false_eq_true, true_and, and_true, false_and, and_false,  Nat.reduceEqDiff, Nat.reduceAdd, Nat.reduceLeDiff]
    by_cases c1 : dayN a t i + lgN a i x (cutN a t) = dayN a t x
    · simp [c1, oI]
    · simp (implicitDefEqProofs := false) only [c1, kl_I, kl_J, kl_R, kl_T, kl_N, Nat.le_refl, Nat.zero_le, List.map_nil, List.map_cons, List.sum_nil, List.sum_cons, c_I, c_J, c_R, c_T, va_rf, hI_wI, hJ_wJ, hR_wR, hI_J, hI_R, hJ_I, hJ_R, hR_I, hR_J, hN_I, hN_J, hN_R, wI_I, wJ_J, upd_at, updL_at, kR_s, Option.toList, List.append_nil, List.nil_append, List.cons_append, if_true, if_false, reduceIte, Bool.false_eq_true, not_true_eq_false, not_false_eq_true, true_and, and_true, false_and, and_false,  Nat.reduceEqDiff, Nat.reduceAdd, Nat.reduceLeDiff]
      rw [rX0_lighter_85, nI_1, i1]
theorem c_lighter {d : Nat} {h : qH} {s t x : Nat} {a : aS} (F : Fin0 (hR h)) (hf : hR h 32 0 = some s) (w : cS h s a) (b : bT h a) (ht : t < 2 ^ aN a) (hx : x < aN a) : ∀ Q, WM (d + 2) mX0_lighter [.ref (32 : Nat), .int (nI t), .int (nI x)] h Q = Q (some (some (.int (oI (liN a t x))))) h := by
  intro Q
  have ww := w.2.1
  have h6 := ww.1
  have k2 := dayN_le ww t x
  have t6 := tIx ww ht
  have q1 : (nI (dayN a t x) = oI (causeN a t x)) = (causeN a t x = some (dayN a t x)) := by
    rw [← oI_eq (o := causeN a t x) (j := dayN a t x) (fun z hz => by have := causeN_le ww hx hz; omega) (by omega)]
    exact propext ⟨fun q => q.symm, fun q => q.symm⟩
  simp (implicitDefEqProofs := false) only [eX0_lighter, rX0_lighter_0, rX0_lighter_0b, rX0_lighter_1, rX0_lighter_2, rX0_lighter_3, rX0_lighter_6, rX0_lighter_7, rX0_lighter_8, rX0_lighter_11, rX0_lighter_14, rX0_lighter_15, rX0_lighter_15b, rX0_lighter_16, rX0_lighter_19, rX0_lighter_20, rX0_lighter_21, rX0_lighter_24, rX0_lighter_27, rX0_lighter_29, rX0_lighter_30, rX0_lighter_30b, rX0_lighter_31, rX0_lighter_34, rX0_lighter_35, rX0_lighter_38, rX0_lighter_40, rX0_lighter_41, kA_32, kB_32, hf, pCX0_lighter, pSX0_lighter, pOX0_lighter, pLX0_lighter, pCX0_dayOf, pSX0_dayOf, pOX0_dayOf, pLX0_dayOf, pCX4_causeOf, pSX4_causeOf, pOX4_causeOf, pLX4_causeOf, pCX4_cutBy, pSX4_cutBy, pOX4_cutBy, pLX4_cutBy, kS0 w.1, kS1 w.1, kT1 w.1, fS1 w.1 F, kS2 w.1, kT2 w.1, fS2 w.1 F, kS3 w.1, kT3 w.1, fS3 w.1 F, kS4 w.1, kT4 w.1, fS4 w.1 F, kS5 w.1, kT5 w.1, fS5 w.1 F, kS6 w.1, kT6 w.1, fS6 w.1 F, kS7 w.1, kT7 w.1, fS7 w.1 F, kS8 w.1, kT8 w.1, fS8 w.1 F, kS9 w.1, kT9 w.1, fS9 w.1 F, kS10 w.1, kT10 w.1, fS10 w.1 F, kS11 w.1, kT11 w.1, fS11 w.1 F, nS w.1, nSs w.1, c_dayOf F ww b ht hx, nge (x := dayN a t x) (k := 1000) (c := 1000) rfl (by omega) (by omega), c_causeOf F w hx t6.2, q1, c_cutBy F w t6.2, kl_I, kl_J, kl_R, kl_T, kl_N, Nat.le_refl, Nat.zero_le, List.map_nil, List.map_cons, List.sum_nil, List.sum_cons, c_I, c_J, c_R, c_T, va_rf, hI_wI, hJ_wJ, hR_wR, hI_J, hI_R, hJ_I, hJ_R, hR_I, hR_J, hN_I, hN_J, hN_R, wI_I, wJ_J, upd_at, updL_at, kR_s, Option.toList, List.append_nil, List.nil_append, List.cons_append, if_true, if_false, reduceIte, Bool.false_eq_true, not_true_eq_false, not_false_eq_true, true_and, and_true, false_and, and_false,  Nat.reduceEqDiff, Nat.reduceAdd, Nat.reduceLeDiff]
  unfold liN
  by_cases c1 : 1000 ≤ dayN a t x
  · simp [c1, oI]
  · by_cases c2 : causeN a t x = some (dayN a t x)
    · simp [c2, oI]
    · simp (implicitDefEqProofs := false) only [c1, c2, or_false, kl_I, kl_J, kl_R, kl_T, kl_N, Nat.le_refl, Nat.zero_le, List.map_nil, List.map_cons, List.sum_nil, List.sum_cons, c_I, c_J, c_R, c_T, va_rf, hI_wI, hJ_wJ, hR_wR, hI_J, hI_R, hJ_I, hJ_R, hR_I, hR_J, hN_I, hN_J, hN_R, wI_I, wJ_J, upd_at, updL_at, kR_s, Option.toList, List.append_nil, List.nil_append, List.cons_append, if_true, if_false, reduceIte, Bool.false_eq_true, not_true_eq_false, not_false_eq_true, true_and, and_true, false_and, and_false,  Nat.reduceEqDiff, Nat.reduceAdd, Nat.reduceLeDiff]
      exact l_lighter F hf w b ht hx (aN a) 0 (by omega)
