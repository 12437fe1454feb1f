/-! ===== fires ===== -/
def fil (n : Nat) (g f : Nat → Int32) : Nat → Int32 := fun j => if j < n then g j else f j
theorem fil_at {n : Nat} {g f : Nat → Int32} {j : Nat} (h : j < n) : fil n g f j = g j := if_pos h
theorem fil_s {n : Nat} {g f : Nat → Int32} : upd (fil n g f) n (g n) = fil (n + 1) g f := by
  funext j
  simp only [upd_at, fil]
  by_cases h : j = n
  · subst h; simp
  · by_cases h2 : j < n
    · rw [if_neg h, if_pos h2, if_pos (by omega)]
    · rw [if_neg h, if_neg h2, if_neg (by omega)]
theorem fil_u {n : Nat} {g f : Nat → Int32} {k : Nat} {x : Int32} (h : k < n) : upd (fil n g f) k x = fil n (upd g k x) f := by
  funext j
  simp only [upd_at, fil]
  by_cases h1 : j = k
  · subst h1; simp [h]
  · simp [h1]
theorem fil_0 {g f : Nat → Int32} : fil 0 g f = f := by
  funext j
  simp [fil]
def ownN (a : aS) (t c j : Nat) : Nat := match causeN a t j with
  | none => 1000
  | some x => if c.testBit j = true then x else 1000
theorem causeN_le {a : aS} (w : aW a) {t j : Nat} (hj : j < aN a) {x : Nat} (h : causeN a t j = some x) : x ≤ 60 := by
  have k2 := (w.2.2.1 j hj).2.1
  unfold causeN at h
  cases hc : aCs a j with
  | none => rw [hc] at h; cases h
  | some c =>
    rw [hc] at h
    have := k2 c hc
    simp only at h
    split at h
    · split at h
      · cases h
      · split at h <;> cases h <;> omega
    · cases h; omega
theorem ownN_le {a : aS} (w : aW a) {t c j : Nat} (hj : j < aN a) : ownN a t c j ≤ 1000 := by
  unfold ownN
  cases h : causeN a t j with
  | none => exact Nat.le_refl _
  | some x =>
    have := causeN_le w hj h
    simp only
    split <;> omega
theorem cS_w {h : qH} {s b : Nat} {a : aS} {f : Nat → Int32} (w : cS h s a) (hb : 25 ≤ b) : cS (wI h b f) s a := by
  refine cS_mv w (fun k hk => ?_)
  rw [hI_wI, if_neg]
  rcases w.1 with rfl | rfl <;> omega
theorem l_causes {d : Nat} {h : qH} {s : Nat} {a : aS} {t c : Nat} (F : Fin0 (hR h)) (hf : hR h 32 0 = some s) (w : cS h s a) (ht : t < 64) (hc : c < 64) : ∀ (k i : Nat), i + k = aN a → ∀ Q (x4 : Option Value) (_ : kl (some (.int (nI i))) = some (.int (nI i))), WP (d + 1) mX0_causes (0, 0) 2 [some (.ref (32 : Nat)), some (.int (nI t)), some (.int (nI c)), some (.int (nI i)), x4] [] (wI h 33 (fil i (fun j => nI (ownN a t c j)) (hI h 33))) Q = Q (some none) (wI h 33 (fil (aN a) (fun j => nI (ownN a t c j)) (hI h 33))) := by
  have hs := w.1
  have ww := w.2.1
  have w3 := w.2.2.1
  have h6 := ww.1
  intro k
  induction k with
  | zero =>
    intro i hi Q x4 _
    obtain rfl : i = aN a := by omega
    simp (implicitDefEqProofs := false) only [rX0_causes_0, rX0_causes_1, rX0_causes_2, rX0_causes_3, rX0_causes_3b, rX0_causes_4, rX0_causes_7, rX0_causes_10, rX0_causes_13, rX0_causes_13b, rX0_causes_14, rX0_causes_17, rX0_causes_18, rX0_causes_19, rX0_causes_22, rX0_causes_24, rX0_causes_24b, rX0_causes_25, rX0_causes_28, rX0_causes_29, rX0_causes_31, rX0_causes_33, rX0_causes_36, rX0_causes_37, rX0_causes_38, rX0_causes_39, rX0_causes_40, rX0_causes_41, rX0_causes_44, rX0_causes_47, rX0_causes_50, rX0_causes_52, rX0_causes_53, rX0_causes_59, kS0 hs, kS1 hs, kT1 hs, fS1 hs F, kS2 hs, kT2 hs, fS2 hs F, kS3 hs, kT3 hs, fS3 hs F, kS4 hs, kT4 hs, fS4 hs F, kS5 hs, kT5 hs, fS5 hs F, kS6 hs, kT6 hs, fS6 hs F, kS7 hs, kT7 hs, fS7 hs F, kS8 hs, kT8 hs, fS8 hs F, kS9 hs, kT9 hs, fS9 hs F, kS10 hs, kT10 hs, fS10 hs F, kS11 hs, kT11 hs, fS11 hs F, nS hs, nSs hs, fin_32_1 F, fin_32_2 F, fin_32_3 F, fin_32_4 F, kA_32, kB_32, kA_33, kB_33, hf, pCX0_causes, pSX0_causes, pOX0_causes, pLX0_causes, w3.2.1, Int32.le_refl, kl_I, kl_J, kl_R, kl_T, kl_N, Nat.le_refl, Nat.zero_le, List.map_nil, List.map_cons, List.sum_nil, List.sum_cons, c_I, c_J, c_R, c_T, va_rf, hI_wI, hJ_wJ, hR_wR, hI_J, hI_R, hJ_I, hJ_R, hR_I, hR_J, hN_I, hN_J, hN_R, wI_I, wJ_J, upd_at, updL_at, kR_s, Option.toList, List.append_nil, List.nil_append, List.cons_append, if_true, if_false, reduceIte, Bool.false_eq_true, not_true_eq_false, not_false_eq_true, true_and, Nat.reduceEqDiff, Nat.reduceAdd, Nat.reduceLeDiff]
  | succ k ih =>
    intro i hi Q x4 _
    have hlt : i < aN a := by omega
    have g1 : ¬ nI (aN a) ≤ nI i := nI_ge hlt (by omega)
    have v6 : vp_in (nI i) 6 := nI_vp (by omega) (by decide)
    have cl : (nI i).toNatClampNeg = i := nI_cl (by omega)
    have bt := bt_t (t := c) (j := i) (by omega) (by omega)
    have cc := c_causeOf (d := d) (h := wI h 33 (fil i (fun j => nI (ownN a t c j)) (hI h 33))) (j := i) F (cS_w (b := 33) (f := fil i (fun j => nI (ownN a t c j)) (hI h 33)) w (by omega)) hlt ht
    have i1 := fun x4 => ih (i + 1) (by omega) Q x4 rfl
    rw [← fil_s] at i1
    simp (implicitDefEqProofs := false) only [rX0_causes_0, rX0_causes_1, rX0_causes_2, rX0_causes_3, rX0_causes_3b, rX0_causes_4, rX0_causes_7, rX0_causes_10, rX0_causes_13, rX0_causes_13b, rX0_causes_14, rX0_causes_17, rX0_causes_18, rX0_causes_19, rX0_causes_22, rX0_causes_24, rX0_causes_24b, rX0_causes_25, rX0_causes_28, rX0_causes_29, rX0_causes_31, rX0_causes_33, rX0_causes_36, rX0_causes_37, rX0_causes_38, rX0_causes_39, rX0_causes_40, rX0_causes_41, rX0_causes_44, rX0_causes_47, rX0_causes_50, rX0_causes_52, rX0_causes_53, rX0_causes_59, kS0 hs, kS1 hs, kT1 hs, fS1 hs F, kS2 hs, kT2 hs, fS2 hs F, kS3 hs, kT3 hs, fS3 hs F, kS4 hs, kT4 hs, fS4 hs F, kS5 hs, kT5 hs, fS5 hs F, kS6 hs, kT6 hs, fS6 hs F, kS7 hs, kT7 hs, fS7 hs F, kS8 hs, kT8 hs, fS8 hs F, kS9 hs, kT9 hs, fS9 hs F, kS10 hs, kT10 hs, fS10 hs F, kS11 hs, kT11 hs, fS11 hs F, nS hs, nSs hs, fin_32_1 F, fin_32_2 F, fin_32_3 F, fin_32_4 F, kA_32, kB_32, kA_33, kB_33, hf, pCX0_causes, pSX0_causes, pOX0_causes, pLX0_causes, pCX4_causeOf, pSX4_causeOf, pOX4_causeOf, pLX4_causeOf, w3.2.1, g1, v6, cl, bt, cc, kl_I, kl_J, kl_R, kl_T, kl_N, Nat.le_refl, Nat.zero_le, List.map_nil, List.map_cons, List.sum_nil, List.sum_cons, c_I, c_J, c_R, c_T, va_rf, hI_wI, hJ_wJ, hR_wR, hI_J, hI_R, hJ_I, hJ_R, hR_I, hR_J, hN_I, hN_J, hN_R, wI_I, wJ_J, upd_at, updL_at, kR_s, Option.toList, List.append_nil, List.nil_append, List.cons_append, if_true, if_false, reduceIte, Bool.false_eq_true, not_true_eq_false, not_false_eq_true, true_and, Nat.reduceEqDiff, Nat.reduceAdd, Nat.reduceLeDiff]
    cases hcs : causeN a t i with
    | none =>
      have e1 : ownN a t c i = 1000 := by simp [ownN, hcs]
      rw [e1] at i1
      simp only [oI, if_true]
      rw [rX0_causes_56, nI_1]
      exact i1 _
    | some x =>
      have hx := causeN_le ww hlt hcs
      simp only [oI, nN (x := x) (k := 0) (by omega), if_false]
      by_cases c1 : c.testBit i = true
      · have e1 : ownN a t c i = x := by simp [ownN, hcs, c1]
        rw [e1] at i1
        simp only [c1, if_true]
        rw [if_pos (by decide), rX0_causes_56, nI_1]
        exact i1 _
      · have e1 : ownN a t c i = 1000 := by simp [ownN, hcs, c1]
        rw [e1] at i1
        simp only [c1]
        rw [if_neg (by decide), rX0_causes_56, nI_1]
        exact i1 _
theorem c_causes {d : Nat} {h : qH} {s : Nat} {a : aS} {t c : Nat} (F : Fin0 (hR h)) (hf : hR h 32 0 = some s) (w : cS h s a) (ht : t < 64) (hc : c < 64) : ∀ Q, WM (d + 1) mX0_causes [.ref (32 : Nat), .int (nI t), .int (nI c)] h Q = Q (some none) (wI h 33 (fil (aN a) (fun j => nI (ownN a t c j)) (hI h 33))) := by
  intro Q
  simp (implicitDefEqProofs := false) only [eX0_causes, rX0_causes_0, rX0_causes_1, kl_I, kl_J, kl_R, kl_T, kl_N, Nat.le_refl, Nat.zero_le, List.map_nil, List.map_cons, List.sum_nil, List.sum_cons, c_I, c_J, c_R, c_T, va_rf, hI_wI, hJ_wJ, hR_wR, hI_J, hI_R, hJ_I, hJ_R, hR_I, hR_J, hN_I, hN_J, hN_R, wI_I, wJ_J, upd_at, updL_at, kR_s, Option.toList, List.append_nil, List.nil_append, List.cons_append, if_true, if_false, reduceIte, Bool.false_eq_true, not_true_eq_false, not_false_eq_true, true_and, Nat.reduceEqDiff, Nat.reduceAdd, Nat.reduceLeDiff]
  have := l_causes (d := d) F hf w ht hc (aN a) 0 (by omega) Q none rfl
  rw [fil_0, wI_same] at this
  exact this
