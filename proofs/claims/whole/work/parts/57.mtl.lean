/-! ===== the model: told, days found ===== -/
/-- the own causes, who is cut, told, wires, the day -/
def vF (f : Nat → Int32) (a : aS) (x : sT) : Prop := (∀ j, j < aN a → f j = oI (causeN a x.1 j)) ∧ f 6 = nI (cutN a x.1) ∧ f 7 = nI x.1 ∧ f 8 = nI x.2.1 ∧ f 9 = nI x.2.2
theorem vF_fil {f g : Nat → Int32} {a : aS} {x : sT} (w : aN a ≤ 6) (h : vF f a x) : vF (fil 10 f g) a x := by
  obtain ⟨h1, h2, h3, h4, h5⟩ := h
  exact ⟨fun j hj => by rw [fil_at (by omega)]; exact h1 j hj, by rw [fil_at (by omega)]; exact h2, by rw [fil_at (by omega)]; exact h3, by rw [fil_at (by omega)]; exact h4, by rw [fil_at (by omega)]; exact h5⟩
def mK (h : qH) (s : Nat) (a : aS) : Prop := Fin0 (hR h) ∧ hR h 44 3 = some s ∧ mSt h s a ∧ hI h 44 22 = -1
theorem mK_sx {L : List Nat} {h h' : qH} {s : Nat} {a : aS} (k : mK h s a) (x : sx L h h') (hL : ∀ b ∈ L, b < 57 ∧ b ≠ 44) : mK h' s a := by
  obtain ⟨k1, k2, k3, k4⟩ := k
  exact ⟨Fin_sx k1 x, by rw [x.1]; exact k2, mSt_sx k3 x (fun b hb => (hL b hb).1), by rw [x.2.2.2 44 (fun q => (hL 44 q).2 rfl)]; exact k4⟩
theorem t63 : ∀ j, j < 6 → (63 : Nat).testBit j = true := by decide
theorem own_c {a : aS} (w : aW a) {t j : Nat} (hj : j < aN a) : oI (causeN a t j) = oI (shN (ownN a t 63 j)) := by
  have := w.1
  unfold ownN shN
  cases hc : causeN a t j with
  | none => simp
  | some x =>
    have := causeN_le w hj hc
    simp only [t63 j (by omega), if_true]
    rw [if_neg (by omega)]
theorem own_6 {a : aS} (w : aW a) {t c : Nat} : own6 a (ownN a t c) := by
  intro j hj
  unfold ownN
  cases hc : causeN a t j with
  | none => exact .inl rfl
  | some x =>
    have := causeN_le w hj hc
    simp only
    split
    · exact .inr this
    · exact .inl rfl
theorem at_mk {h : qH} {a : aS} {cut : Nat} {wo : Option Nat} {own : Nat → Nat} (w : aW a) (ho : own6 a own) : atR (wI h 50 (fil (aN a) (f9 (sprN a cut wo own)) (hI h 50))) a (sprN a cut wo own) := by
  refine ⟨fun j hj => by rw [hI_wI, if_pos rfl, fil_at hj]; rfl, fun j => sprN_le (own6_le ho) j, fun j hj q => fn_le w (spr_fn w ho) hj q⟩
theorem at_sx {L : List Nat} {h h' : qH} {a : aS} {r : Nat → Nat} (t : atR h a r) (x : sx L h h') (hL : 50 ∉ L) : atR h' a r := by
  unfold atR at *
  rw [x.2.2.2 50 hL]
  exact t
theorem c_bA {d : Nat} {h : qH} {s : Nat} {a : aS} {x : sT} (k : mK h s a) (v : vF (hI h 47) a x) : ∃ h', (∀ Q, WM (d + 2) mX9_burnsAll [.ref (44 : Nat)] h Q = Q (some none) h') ∧ sx [50] h h' ∧ atR h' a (dayN a x.1) := by
  obtain ⟨F, r, w, e22⟩ := k
  have ww := w.2.2.1
  exact ⟨_, c_burnsAll (wo := none) F r w (cutN_lt ww x.1) (fun y hy => by cases hy) (fun j hj => by rw [v.1 j hj]; exact own_c ww hj) (own_6 ww) v.2.1 e22, sx_w sx_refl (by simp), at_mk ww (own_6 ww)⟩
theorem lc_works {d : Nat} {h : qH} (F : Fin0 (hR h)) {Q : Option (Option Value) → qH → Prop} : ∀ (k i : Nat), i + k = 10 → WP d mX9_works (0, 0) 2 [some (.ref (44 : Nat)), some (.int (nI i))] [] (wI h 47 (fil i (hI h 46) (hI h 47))) Q = WP d mX9_works (0, 0) 26 [some (.ref (44 : Nat)), some (.int 10)] [] (wI h 47 (fil 10 (hI h 46) (hI h 47))) Q := by
  intro k
  induction k with
  | zero =>
    intro i hi
    obtain rfl : i = 10 := by omega
    simp (implicitDefEqProofs := false) only [rX9_works_2, rX9_works_3, rX9_works_5, rX9_works_8, rX9_works_8b, rX9_works_9, rX9_works_12, rX9_works_13, rX9_works_13b, rX9_works_14, rX9_works_17, rX9_works_18, rX9_works_19, pCX9_works, pSX9_works, pOX9_works, pLX9_works, show nI 10 = 10 from rfl, Int32.le_refl, kl_I, kl_J, kl_R, kl_T, kl_N, Nat.le_refl, Nat.zero_le, List.map_nil, List.map_cons, List.sum_nil, List.sum_cons, c_I, c_J, c_R, c_T, va_rf, hI_wI, hJ_wJ, hR_wR, hI_J, hI_R, hJ_I, hJ_R, hR_I, hR_J, hN_I, hN_J, hN_R, wI_I, wJ_J, upd_at, updL_at, kR_s, Option.toList, List.append_nil, List.nil_append, List.cons_append, if_true, if_false, reduceIte, Bool.false_eq_true, not_true_eq_false, not_false_eq_true, true_and, and_true, false_and, and_false, true_or, or_true,  Nat.reduceEqDiff, Nat.reduceAdd, Nat.reduceLeDiff]
  | succ k ih =>
    intro i hi
    have v10 : vp_in (nI i) 10 := nI_vp (by omega) (by decide)
    have cl : (nI i).toNatClampNeg = i := nI_cl (by omega)
    have i1 := ih (i + 1) (by omega)
    rw [← fil_s] at i1
    simp (implicitDefEqProofs := false) only [rX9_works_2, rX9_works_3, rX9_works_5, rX9_works_8, rX9_works_8b, rX9_works_9, rX9_works_12, rX9_works_13, rX9_works_13b, rX9_works_14, rX9_works_17, rX9_works_18, rX9_works_19, kA_44, kB_44, kA_46, kB_46, kA_47, kB_47, fin_44_5 F, fin_44_15 F, fin_44_16 F, fin_44_17 F, fin_44_18 F, fin_44_21 F, fin_44_23 F, fin_44_24 F, fin_44_25 F, fin_44_29 F, fin_44_33 F, nge (x := i) (k := 10) (c := 10) rfl (by omega) (by omega), show ¬ 10 ≤ i from by omega, v10, cl, pCX9_works, pSX9_works, pOX9_works, pLX9_works, kl_I, kl_J, kl_R, kl_T, kl_N, Nat.le_refl, Nat.zero_le, List.map_nil, List.map_cons, List.sum_nil, List.sum_cons, c_I, c_J, c_R, c_T, va_rf, hI_wI, hJ_wJ, hR_wR, hI_J, hI_R, hJ_I, hJ_R, hR_I, hR_J, hN_I, hN_J, hN_R, wI_I, wJ_J, upd_at, updL_at, kR_s, Option.toList, List.append_nil, List.nil_append, List.cons_append, if_true, if_false, reduceIte, Bool.false_eq_true, not_true_eq_false, not_false_eq_true, true_and, and_true, false_and, and_false, true_or, or_true,  Nat.reduceEqDiff, Nat.reduceAdd, Nat.reduceLeDiff]
    rw [rX9_works_20, nI_1]
    simp (implicitDefEqProofs := false) only [rX9_works_23, kl_I, kl_J, kl_R, kl_T, kl_N, Nat.le_refl, Nat.zero_le, List.map_nil, List.map_cons, List.sum_nil, List.sum_cons, c_I, c_J, c_R, c_T, va_rf, hI_wI, hJ_wJ, hR_wR, hI_J, hI_R, hJ_I, hJ_R, hR_I, hR_J, hN_I, hN_J, hN_R, wI_I, wJ_J, upd_at, updL_at, kR_s, Option.toList, List.append_nil, List.nil_append, List.cons_append, if_true, if_false, reduceIte, Bool.false_eq_true, not_true_eq_false, not_false_eq_true, true_and, and_true, false_and, and_false, true_or, or_true,  Nat.reduceEqDiff, Nat.reduceAdd, Nat.reduceLeDiff]
    exact i1
theorem lc_holds {d : Nat} {h : qH} (F : Fin0 (hR h)) {Q : Option (Option Value) → qH → Prop} : ∀ (k i : Nat), i + k = 10 → WP d mX9_holds (0, 0) 2 [some (.ref (44 : Nat)), some (.int (nI i))] [] (wI h 51 (fil i (hI h 47) (hI h 51))) Q = WP d mX9_holds (0, 0) 26 [some (.ref (44 : Nat)), some (.int 10)] [] (wI h 51 (fil 10 (hI h 47) (hI h 51))) Q := by
  intro k
  induction k with
  | zero =>
    intro i hi
    obtain rfl : i = 10 := by omega
    simp (implicitDefEqProofs := false) only [rX9_holds_2, rX9_holds_3, rX9_holds_5, rX9_holds_8, rX9_holds_8b, rX9_holds_9, rX9_holds_12, rX9_holds_13, rX9_holds_13b, rX9_holds_14, rX9_holds_17, rX9_holds_18, rX9_holds_19, pCX9_holds, pSX9_holds, pOX9_holds, pLX9_holds, show nI 10 = 10 from rfl, Int32.le_refl, kl_I, kl_J, kl_R, kl_T, kl_N, Nat.le_refl, Nat.zero_le, List.map_nil, List.map_cons, List.sum_nil, List.sum_cons, c_I, c_J, c_R, c_T, va_rf, hI_wI, hJ_wJ, hR_wR, hI_J, hI_R, hJ_I, hJ_R, hR_I, hR_J, hN_I, hN_J, hN_R, wI_I, wJ_J, upd_at, updL_at, kR_s, Option.toList, List.append_nil, List.nil_append, List.cons_append, if_true, if_false, reduceIte, Bool.false_eq_true, not_true_eq_false, not_false_eq_true, true_and, and_true, false_and, and_false, true_or, or_true,  Nat.reduceEqDiff, Nat.reduceAdd, Nat.reduceLeDiff]
  | succ k ih =>
    intro i hi
    have v10 : vp_in (nI i) 10 := nI_vp (by omega) (by decide)
    have cl : (nI i).toNatClampNeg = i := nI_cl (by omega)
    have i1 := ih (i + 1) (by omega)
    rw [← fil_s] at i1
    simp (implicitDefEqProofs := false) only [rX9_holds_2, rX9_holds_3, rX9_holds_5, rX9_holds_8, rX9_holds_8b, rX9_holds_9, rX9_holds_12, rX9_holds_13, rX9_holds_13b, rX9_holds_14, rX9_holds_17, rX9_holds_18, rX9_holds_19, kA_44, kB_44, kA_47, kB_47, kA_51, kB_51, fin_44_5 F, fin_44_15 F, fin_44_16 F, fin_44_17 F, fin_44_18 F, fin_44_21 F, fin_44_23 F, fin_44_24 F, fin_44_25 F, fin_44_29 F, fin_44_33 F, nge (x := i) (k := 10) (c := 10) rfl (by omega) (by omega), show ¬ 10 ≤ i from by omega, v10, cl, pCX9_holds, pSX9_holds, pOX9_holds, pLX9_holds, kl_I, kl_J, kl_R, kl_T, kl_N, Nat.le_refl, Nat.zero_le, List.map_nil, List.map_cons, List.sum_nil, List.sum_cons, c_I, c_J, c_R, c_T, va_rf, hI_wI, hJ_wJ, hR_wR, hI_J, hI_R, hJ_I, hJ_R, hR_I, hR_J, hN_I, hN_J, hN_R, wI_I, wJ_J, upd_at, updL_at, kR_s, Option.toList, List.append_nil, List.nil_append, List.cons_append, if_true, if_false, reduceIte, Bool.false_eq_true, not_true_eq_false, not_false_eq_true, true_and, and_true, false_and, and_false, true_or, or_true,  Nat.reduceEqDiff, Nat.reduceAdd, Nat.reduceLeDiff]
    rw [rX9_holds_20, nI_1]
    simp (implicitDefEqProofs := false) only [rX9_holds_23, kl_I, kl_J, kl_R, kl_T, kl_N, Nat.le_refl, Nat.zero_le, List.map_nil, List.map_cons, List.sum_nil, List.sum_cons, c_I, c_J, c_R, c_T, va_rf, hI_wI, hJ_wJ, hR_wR, hI_J, hI_R, hJ_I, hJ_R, hR_I, hR_J, hN_I, hN_J, hN_R, wI_I, wJ_J, upd_at, updL_at, kR_s, Option.toList, List.append_nil, List.nil_append, List.cons_append, if_true, if_false, reduceIte, Bool.false_eq_true, not_true_eq_false, not_false_eq_true, true_and, and_true, false_and, and_false, true_or, or_true,  Nat.reduceEqDiff, Nat.reduceAdd, Nat.reduceLeDiff]
    exact i1
theorem lc_letsGo {d : Nat} {h : qH} (F : Fin0 (hR h)) {Q : Option (Option Value) → qH → Prop} : ∀ (k i : Nat), i + k = 10 → WP d mX9_letsGo (0, 0) 2 [some (.ref (44 : Nat)), some (.int (nI i))] [] (wI h 47 (fil i (hI h 51) (hI h 47))) Q = WP d mX9_letsGo (0, 0) 26 [some (.ref (44 : Nat)), some (.int 10)] [] (wI h 47 (fil 10 (hI h 51) (hI h 47))) Q := by
  intro k
  induction k with
  | zero =>
    intro i hi
    obtain rfl : i = 10 := by omega
    simp (implicitDefEqProofs := false) only [rX9_letsGo_2, rX9_letsGo_3, rX9_letsGo_5, rX9_letsGo_8, rX9_letsGo_8b, rX9_letsGo_9, rX9_letsGo_12, rX9_letsGo_13, rX9_letsGo_13b, rX9_letsGo_14, rX9_letsGo_17, rX9_letsGo_18, rX9_letsGo_19, pCX9_letsGo, pSX9_letsGo, pOX9_letsGo, pLX9_letsGo, show nI 10 = 10 from rfl, Int32.le_refl, kl_I, kl_J, kl_R, kl_T, kl_N, Nat.le_refl, Nat.zero_le, List.map_nil, List.map_cons, List.sum_nil, List.sum_cons, c_I, c_J, c_R, c_T, va_rf, hI_wI, hJ_wJ, hR_wR, hI_J, hI_R, hJ_I, hJ_R, hR_I, hR_J, hN_I, hN_J, hN_R, wI_I, wJ_J, upd_at, updL_at, kR_s, Option.toList, List.append_nil, List.nil_append, List.cons_append, if_true, if_false, reduceIte, Bool.false_eq_true, not_true_eq_false, not_false_eq_true, true_and, and_true, false_and, and_false, true_or, or_true,  Nat.reduceEqDiff, Nat.reduceAdd, Nat.reduceLeDiff]
  | succ k ih =>
    intro i hi
    have v10 : vp_in (nI i) 10 := nI_vp (by omega) (by decide)
    have cl : (nI i).toNatClampNeg = i := nI_cl (by omega)
    have i1 := ih (i + 1) (by omega)
    rw [← fil_s] at i1
    simp (implicitDefEqProofs := false) only [rX9_letsGo_2, rX9_letsGo_3, rX9_letsGo_5, rX9_letsGo_8, rX9_letsGo_8b, rX9_letsGo_9, rX9_letsGo_12, rX9_letsGo_13, rX9_letsGo_13b, rX9_letsGo_14, rX9_letsGo_17, rX9_letsGo_18, rX9_letsGo_19, kA_44, kB_44, kA_47, kB_47, kA_51, kB_51, fin_44_5 F, fin_44_15 F, fin_44_16 F, fin_44_17 F, fin_44_18 F, fin_44_21 F, fin_44_23 F, fin_44_24 F, fin_44_25 F, fin_44_29 F, fin_44_33 F, nge (x := i) (k := 10) (c := 10) rfl (by omega) (by omega), show ¬ 10 ≤ i from by omega, v10, cl, pCX9_letsGo, pSX9_letsGo, pOX9_letsGo, pLX9_letsGo, kl_I, kl_J, kl_R, kl_T, kl_N, Nat.le_refl, Nat.zero_le, List.map_nil, List.map_cons, List.sum_nil, List.sum_cons, c_I, c_J, c_R, c_T, va_rf, hI_wI, hJ_wJ, hR_wR, hI_J, hI_R, hJ_I, hJ_R, hR_I, hR_J, hN_I, hN_J, hN_R, wI_I, wJ_J, upd_at, updL_at, kR_s, Option.toList, List.append_nil, List.nil_append, List.cons_append, if_true, if_false, reduceIte, Bool.false_eq_true, not_true_eq_false, not_false_eq_true, true_and, and_true, false_and, and_false, true_or, or_true,  Nat.reduceEqDiff, Nat.reduceAdd, Nat.reduceLeDiff]
    rw [rX9_letsGo_20, nI_1]
    simp (implicitDefEqProofs := false) only [rX9_letsGo_23, kl_I, kl_J, kl_R, kl_T, kl_N, Nat.le_refl, Nat.zero_le, List.map_nil, List.map_cons, List.sum_nil, List.sum_cons, c_I, c_J, c_R, c_T, va_rf, hI_wI, hJ_wJ, hR_wR, hI_J, hI_R, hJ_I, hJ_R, hR_I, hR_J, hN_I, hN_J, hN_R, wI_I, wJ_J, upd_at, updL_at, kR_s, Option.toList, List.append_nil, List.nil_append, List.cons_append, if_true, if_false, reduceIte, Bool.false_eq_true, not_true_eq_false, not_false_eq_true, true_and, and_true, false_and, and_false, true_or, or_true,  Nat.reduceEqDiff, Nat.reduceAdd, Nat.reduceLeDiff]
    exact i1
theorem c_works {d : Nat} {h : qH} (F : Fin0 (hR h)) : ∀ Q, WM d mX9_works [.ref (44 : Nat)] h Q = Q (some none) (wI h 47 (fil 10 (hI h 46) (hI h 47))) := by
  intro Q
  have e := lc_works (d := d) (Q := Q) F 10 0 (by omega)
  rw [fil_0, wI_same] at e
  simp (implicitDefEqProofs := false) only [eX9_works, rX9_works_0, rX9_works_1, show (0 : Int32) = nI 0 from rfl, kl_I, kl_J, kl_R, kl_T, kl_N, Nat.le_refl, Nat.zero_le, List.map_nil, List.map_cons, List.sum_nil, List.sum_cons, c_I, c_J, c_R, c_T, va_rf, hI_wI, hJ_wJ, hR_wR, hI_J, hI_R, hJ_I, hJ_R, hR_I, hR_J, hN_I, hN_J, hN_R, wI_I, wJ_J, upd_at, updL_at, kR_s, Option.toList, List.append_nil, List.nil_append, List.cons_append, if_true, if_false, reduceIte, Bool.false_eq_true, not_true_eq_false, not_false_eq_true, true_and, and_true, false_and, and_false, true_or, or_true,  Nat.reduceEqDiff, Nat.reduceAdd, Nat.reduceLeDiff]
  rw [e]
  simp (implicitDefEqProofs := false) only [rX9_works_26, pCX9_works, pSX9_works, pOX9_works, pLX9_works, kl_I, kl_J, kl_R, kl_T, kl_N, Nat.le_refl, Nat.zero_le, List.map_nil, List.map_cons, List.sum_nil, List.sum_cons, c_I, c_J, c_R, c_T, va_rf, hI_wI, hJ_wJ, hR_wR, hI_J, hI_R, hJ_I, hJ_R, hR_I, hR_J, hN_I, hN_J, hN_R, wI_I, wJ_J, upd_at, updL_at, kR_s, Option.toList, List.append_nil, List.nil_append, List.cons_append, if_true, if_false, reduceIte, Bool.false_eq_true, not_true_eq_false, not_false_eq_true, true_and, and_true, false_and, and_false, true_or, or_true,  Nat.reduceEqDiff, Nat.reduceAdd, Nat.reduceLeDiff]
theorem c_holds {d : Nat} {h : qH} (F : Fin0 (hR h)) : ∀ Q, WM d mX9_holds [.ref (44 : Nat)] h Q = Q (some none) (wI h 51 (fil 10 (hI h 47) (hI h 51))) := by
  intro Q
  have e := lc_holds (d := d) (Q := Q) F 10 0 (by omega)
  rw [fil_0, wI_same] at e
  simp (implicitDefEqProofs := false) only [eX9_holds, rX9_holds_0, rX9_holds_1, show (0 : Int32) = nI 0 from rfl, kl_I, kl_J, kl_R, kl_T, kl_N, Nat.le_refl, Nat.zero_le, List.map_nil, List.map_cons, List.sum_nil, List.sum_cons, c_I, c_J, c_R, c_T, va_rf, hI_wI, hJ_wJ, hR_wR, hI_J, hI_R, hJ_I, hJ_R, hR_I, hR_J, hN_I, hN_J, hN_R, wI_I, wJ_J, upd_at, updL_at, kR_s, Option.toList, List.append_nil, List.nil_append, List.cons_append, if_true, if_false, reduceIte, Bool.false_eq_true, not_true_eq_false, not_false_eq_true, true_and, and_true, false_and, and_false, true_or, or_true,  Nat.reduceEqDiff, Nat.reduceAdd, Nat.reduceLeDiff]
  rw [e]
  simp (implicitDefEqProofs := false) only [rX9_holds_26, pCX9_holds, pSX9_holds, pOX9_holds, pLX9_holds, kl_I, kl_J, kl_R, kl_T, kl_N, Nat.le_refl, Nat.zero_le, List.map_nil, List.map_cons, List.sum_nil, List.sum_cons, c_I, c_J, c_R, c_T, va_rf, hI_wI, hJ_wJ, hR_wR, hI_J, hI_R, hJ_I, hJ_R, hR_I, hR_J, hN_I, hN_J, hN_R, wI_I, wJ_J, upd_at, updL_at, kR_s, Option.toList, List.append_nil, List.nil_append, List.cons_append, if_true, if_false, reduceIte, Bool.false_eq_true, not_true_eq_false, not_false_eq_true, true_and, and_true, false_and, and_false, true_or, or_true,  Nat.reduceEqDiff, Nat.reduceAdd, Nat.reduceLeDiff]
theorem c_letsGo {d : Nat} {h : qH} {s : Nat} {a : aS} {x : sT} (k : mK h s a) (v : vF (hI h 51) a x) : ∃ h', (∀ Q, WM (d + 3) mX9_letsGo [.ref (44 : Nat)] h Q = Q (some none) h') ∧ sx [47, 50] h h' ∧ vF (hI h' 47) a x ∧ atR h' a (dayN a x.1) := by
  have h6 := k.2.2.1.2.2.1.1
  have x1 : sx [47] h (wI h 47 (fil 10 (hI h 51) (hI h 47))) := sx_w sx_refl (by simp)
  have v1 : vF (hI (wI h 47 (fil 10 (hI h 51) (hI h 47))) 47) a x := by rw [hI_wI, if_pos rfl]; exact vF_fil h6 v
  obtain ⟨h', e, y, t⟩ := c_bA (d := d) (mK_sx k x1 (by decide)) v1
  refine ⟨h', fun Q => ?_, sx_trans (sx_mono x1 (by simp)) (sx_mono y (by simp)), by rw [y.2.2.2 47 (by simp)]; exact v1, t⟩
  have e1 := lc_letsGo (d := d + 3) (Q := Q) k.1 10 0 (by omega)
  rw [fil_0, wI_same] at e1
  simp (implicitDefEqProofs := false) only [eX9_letsGo, rX9_letsGo_0, rX9_letsGo_1, show (0 : Int32) = nI 0 from rfl, kl_I, kl_J, kl_R, kl_T, kl_N, Nat.le_refl, Nat.zero_le, List.map_nil, List.map_cons, List.sum_nil, List.sum_cons, c_I, c_J, c_R, c_T, va_rf, hI_wI, hJ_wJ, hR_wR, hI_J, hI_R, hJ_I, hJ_R, hR_I, hR_J, hN_I, hN_J, hN_R, wI_I, wJ_J, upd_at, updL_at, kR_s, Option.toList, List.append_nil, List.nil_append, List.cons_append, if_true, if_false, reduceIte, Bool.false_eq_true, not_true_eq_false, not_false_eq_true, true_and, and_true, false_and, and_false, true_or, or_true,  Nat.reduceEqDiff, Nat.reduceAdd, Nat.reduceLeDiff]
  rw [e1]
  simp (implicitDefEqProofs := false) only [rX9_letsGo_26, rX9_letsGo_26b, rX9_letsGo_27, rX9_letsGo_30, kA_44, kB_44, pCX9_letsGo, pSX9_letsGo, pOX9_letsGo, pLX9_letsGo, pCX9_burnsAll, pSX9_burnsAll, pOX9_burnsAll, pLX9_burnsAll, e, kl_I, kl_J, kl_R, kl_T, kl_N, Nat.le_refl, Nat.zero_le, List.map_nil, List.map_cons, List.sum_nil, List.sum_cons, c_I, c_J, c_R, c_T, va_rf, hI_wI, hJ_wJ, hR_wR, hI_J, hI_R, hJ_I, hJ_R, hR_I, hR_J, hN_I, hN_J, hN_R, wI_I, wJ_J, upd_at, updL_at, kR_s, Option.toList, List.append_nil, List.nil_append, List.cons_append, if_true, if_false, reduceIte, Bool.false_eq_true, not_true_eq_false, not_false_eq_true, true_and, and_true, false_and, and_false, true_or, or_true,  Nat.reduceEqDiff, Nat.reduceAdd, Nat.reduceLeDiff]
theorem c_finds {d : Nat} {h : qH} {s : Nat} {a : aS} {x : sT} (k : mK h s a) (v : vF (hI h 46) a x) : ∃ h', (∀ Q, WM (d + 3) mX9_finds [.ref (44 : Nat)] h Q = Q (some none) h') ∧ sx [47, 50] h h' ∧ vF (hI h' 47) a x ∧ atR h' a (dayN a x.1) := by
  have h6 := k.2.2.1.2.2.1.1
  have x1 : sx [47] h (wI h 47 (fil 10 (hI h 46) (hI h 47))) := sx_w sx_refl (by simp)
  have v1 : vF (hI (wI h 47 (fil 10 (hI h 46) (hI h 47))) 47) a x := by rw [hI_wI, if_pos rfl]; exact vF_fil h6 v
  obtain ⟨h', e, y, t⟩ := c_bA (d := d) (mK_sx k x1 (by decide)) v1
  refine ⟨h', fun Q => ?_, sx_trans (sx_mono x1 (by simp)) (sx_mono y (by simp)), by rw [y.2.2.2 47 (by simp)]; exact v1, t⟩
  simp (implicitDefEqProofs := false) only [eX9_finds, rX9_finds_0, rX9_finds_0b, rX9_finds_1, rX9_finds_4, rX9_finds_4b, rX9_finds_5, rX9_finds_8, kA_44, kB_44, pCX9_finds, pSX9_finds, pOX9_finds, pLX9_finds, pCX9_works, pSX9_works, pOX9_works, pLX9_works, pCX9_burnsAll, pSX9_burnsAll, pOX9_burnsAll, pLX9_burnsAll, c_works (d := d + 2) k.1, e, kl_I, kl_J, kl_R, kl_T, kl_N, Nat.le_refl, Nat.zero_le, List.map_nil, List.map_cons, List.sum_nil, List.sum_cons, c_I, c_J, c_R, c_T, va_rf, hI_wI, hJ_wJ, hR_wR, hI_J, hI_R, hJ_I, hJ_R, hR_I, hR_J, hN_I, hN_J, hN_R, wI_I, wJ_J, upd_at, updL_at, kR_s, Option.toList, List.append_nil, List.nil_append, List.cons_append, if_true, if_false, reduceIte, Bool.false_eq_true, not_true_eq_false, not_false_eq_true, true_and, and_true, false_and, and_false, true_or, or_true,  Nat.reduceEqDiff, Nat.reduceAdd, Nat.reduceLeDiff]
theorem or_bit {t j i : Nat} : (t ||| 2 ^ j).testBit i = (t.testBit i || decide (j = i)) := by rw [Nat.testBit_or, Nat.testBit_two_pow]
theorem cutN_or {a : aS} {t j : Nat} (hj : j < aN a) : cutN a (t ||| 2 ^ j) = if aDo a j = 2 then cutN a t ||| 2 ^ j else cutN a t := by
  apply Nat.eq_of_testBit_eq
  intro i
  unfold cutN
  rw [bm_bit]
  by_cases c : aDo a j = 2
  · rw [if_pos c, or_bit, bm_bit]
    simp only [cutP, or_bit]
    by_cases e : j = i
    · subst e; simp [hj, c]
    · simp [e]
  · rw [if_neg c, bm_bit]
    simp only [cutP, or_bit]
    by_cases e : j = i
    · subst e; simp [c]
    · simp [e]
theorem causeN_or {a : aS} {t j i : Nat} (e : ¬ i = j) : causeN a (t ||| 2 ^ j) i = causeN a t i := by
  unfold causeN
  have : (t ||| 2 ^ j).testBit i = t.testBit i := by rw [or_bit]; simp; omega
  rw [this]
theorem or_same {t j : Nat} (h : t.testBit j = true) : t ||| 2 ^ j = t := by
  apply Nat.eq_of_testBit_eq
  intro i
  rw [or_bit]
  by_cases e : j = i
  · subst e; simp [h]
  · simp [e]
theorem cause_do {a : aS} {t j : Nat} (hb : t.testBit j = false) : causeN a t j = aCs a j ∧ causeN a (t ||| 2 ^ j) j = (if aDo a j = 1 then none else if aDo a j = 3 then (aCs a j).map (· - 1) else aCs a j) := by
  unfold causeN
  have h1 : (t ||| 2 ^ j).testBit j = true := by rw [or_bit]; simp
  rw [h1, hb]
  cases aCs a j with
  | none => simp
  | some c =>
    refine ⟨by simp, ?_⟩
    simp only [if_true, Option.map_some]

set_option maxHeartbeats 1000000 in
theorem l_tl_tells {d : Nat} {h : qH} {s j : Nat} {a : aS} {x : sT} {y0 : Int32} (F : Fin0 (hR h)) (r : hR h 44 3 = some s) (w : mSt h s a) (v : vF (hI h 47) a x) (hj : j < aN a) (hx : x.1 < 64) (hb : x.1.testBit j = false) : ∃ G, vF G a (x.1 ||| 2 ^ j, x.2) ∧ ∀ Q, WP d mX9_tells (0, 0) 25 [some (.ref (44 : Nat)), some (.int (nI j)), some (.int y0)] [] h Q = WP d mX9_tells (0, 0) 117 [some (.ref (44 : Nat)), some (.int (nI j)), some (.int y0)] [] (wI h 47 G) Q := by
  have hs := w.1
  have f := w.2.1
  have ww := w.2.2.1
  have h6 := ww.1
  obtain ⟨v1, v2, v3, v4, v5⟩ := v
  have e4 := (w.2.2.2.2.1 j hj).2.2.2
  obtain ⟨-, g2, -, g3⟩ := ww.2.2.1 j hj
  have v6 : vp_in (nI j) 6 := nI_vp (by omega) (by decide)
  have v10 : vp_in (nI j) 10 := nI_vp (by omega) (by decide)
  have v7 : vp_in 7 10 := nI_vp (i := 7) (by omega) (by decide)
  have vx : vp_in 6 10 := nI_vp (i := 6) (by omega) (by decide)
  have cl7 : (7 : Int32).toNatClampNeg = 7 := rfl
  have clx : (6 : Int32).toNatClampNeg = 6 := rfl
  have cl : (nI j).toNatClampNeg = j := nI_cl (by omega)
  have j7 : (j = 7) = False := by simp; omega
  have j6 : (j = 6) = False := by simp; omega
  have sj := bt_shl (j := j) (by omega)
  obtain ⟨cc1, cc2⟩ := cause_do (a := a) hb
  have co := cutN_or (t := x.1) hj
  have vj := v1 j hj
  rw [cc1] at vj
  have q1 : (nI (aDo a j) = 1) = (aDo a j = 1) := nq (x := aDo a j) (k := 1) (c := 1) rfl (by omega) (by omega)
  have q2 : (nI (aDo a j) = 2) = (aDo a j = 2) := nq (x := aDo a j) (k := 2) (c := 2) rfl (by omega) (by omega)
  have q3 : (nI (aDo a j) = 3) = (aDo a j = 3) := nq (x := aDo a j) (k := 3) (c := 3) rfl (by omega) (by omega)
  have fin : ∀ G : Nat → Int32, (∀ i, i < aN a → ¬ i = j → G i = hI h 47 i) → G j = oI (causeN a (x.1 ||| 2 ^ j) j) → G 6 = nI (cutN a (x.1 ||| 2 ^ j)) → G 7 = nI (x.1 ||| 2 ^ j) → G 8 = hI h 47 8 → G 9 = hI h 47 9 → vF G a (x.1 ||| 2 ^ j, x.2) := by
    intro G h1 h2 h3 h4 h5 h6
    refine ⟨fun i hi => ?_, h3, h4, h5.trans v4, h6.trans v5⟩
    by_cases e : i = j
    · rw [e]; exact h2
    · rw [h1 i hi e, v1 i hi]; simp only; rw [causeN_or e]
  have c67 : ∀ i, i < aN a → (i = 7) = False ∧ (i = 6) = False := fun i hi => by constructor <;> simp <;> omega
  rcases (show aDo a j = 1 ∨ aDo a j = 2 ∨ aDo a j = 3 ∨ (¬ aDo a j = 1 ∧ ¬ aDo a j = 2 ∧ ¬ aDo a j = 3) by omega) with c | c | c | c
  · refine ⟨upd (upd (hI h 47) 7 (nI (x.1 ||| 2 ^ j))) j (-2), fin _ (fun i hi e => ?_) ?_ ?_ ?_ ?_ ?_, fun Q => ?_⟩
    · simp only [upd_at, e, c67 i hi, if_false]
    · rw [cc2, if_pos c, upd_at, if_pos rfl]; rfl
    · rw [co, if_neg (by omega), upd_at, if_neg (by omega), upd_at, if_neg (by decide)]; exact v2
    · rw [upd_at, if_neg (by omega), upd_at, if_pos rfl]
    · rw [upd_at, if_neg (by omega), upd_at, if_neg (by decide)]
    · rw [upd_at, if_neg (by omega), upd_at, if_neg (by decide)]
    · simp (implicitDefEqProofs := false) only [rX9_tells_25, rX9_tells_25b, rX9_tells_26, rX9_tells_29, rX9_tells_31, rX9_tells_32, rX9_tells_33, rX9_tells_34, rX9_tells_35, rX9_tells_36, rX9_tells_37, rX9_tells_38, rX9_tells_38b, rX9_tells_39, rX9_tells_42, rX9_tells_45, rX9_tells_46, rX9_tells_47, rX9_tells_48, rX9_tells_51, rX9_tells_51b, rX9_tells_52, rX9_tells_55, rX9_tells_56, rX9_tells_58, rX9_tells_59, rX9_tells_59b, rX9_tells_60, rX9_tells_63, rX9_tells_66, rX9_tells_67, rX9_tells_68, rX9_tells_69, rX9_tells_72, rX9_tells_72b, rX9_tells_73, rX9_tells_76, rX9_tells_78, rX9_tells_79, rX9_tells_80, rX9_tells_81, rX9_tells_82, rX9_tells_83, rX9_tells_84, rX9_tells_85, rX9_tells_85b, rX9_tells_86, rX9_tells_89, rX9_tells_92, rX9_tells_93, rX9_tells_94, rX9_tells_95, rX9_tells_98, rX9_tells_98b, rX9_tells_99, rX9_tells_102, rX9_tells_103, rX9_tells_104, rX9_tells_107, rX9_tells_107b, rX9_tells_108, rX9_tells_111, rX9_tells_112, rX9_tells_113, rX9_tells_114, rX9_tells_115, rX9_tells_116, kA_44, kB_44, kA_47, kB_47, fin_44_5 F, fin_44_15 F, fin_44_16 F, fin_44_17 F, fin_44_18 F, fin_44_21 F, fin_44_23 F, fin_44_24 F, fin_44_25 F, fin_44_29 F, fin_44_33 F, kU0 hs, kU1 hs, kV1 hs, fU1 f, kU2 hs, kV2 hs, fU2 f, kU3 hs, kV3 hs, fU3 f, kU4 hs, kV4 hs, fU4 f, kU5 hs, kV5 hs, fU5 f, kU6 hs, kV6 hs, fU6 f, kU7 hs, kV7 hs, fU7 f, kU8 hs, kV8 hs, fU8 f, kU9 hs, kV9 hs, fU9 f, kU10 hs, kV10 hs, fU10 f, kU11 hs, kV11 hs, fU11 f, kU12 hs, kV12 hs, fU12 f, nU hs, nUk hs, r, e4, v6, v7, v10, vx, cl, cl7, clx, v3, sj, bt_or, c, show nI 1 = 1 from rfl, show ¬ (1 : Int32) = 2 from by decide, show ¬ (1 : Int32) = 3 from by decide, pCX9_tells, pSX9_tells, pOX9_tells, pLX9_tells, kl_I, kl_J, kl_R, kl_T, kl_N, Nat.le_refl, Nat.zero_le, List.map_nil, List.map_cons, List.sum_nil, List.sum_cons, c_I, c_J, c_R, c_T, va_rf, hI_wI, hJ_wJ, hR_wR, hI_J, hI_R, hJ_I, hJ_R, hR_I, hR_J, hN_I, hN_J, hN_R, wI_I, wJ_J, upd_at, updL_at, kR_s, Option.toList, List.append_nil, List.nil_append, List.cons_append, if_true, if_false, reduceIte, Bool.false_eq_true, not_true_eq_false, not_false_eq_true, true_and, and_true, false_and, and_false, true_or, or_true,  Nat.reduceEqDiff, Nat.reduceAdd, Nat.reduceLeDiff]
  · refine ⟨upd (upd (hI h 47) 7 (nI (x.1 ||| 2 ^ j))) 6 (nI (cutN a x.1 ||| 2 ^ j)), fin _ (fun i hi e => ?_) ?_ ?_ ?_ ?_ ?_, fun Q => ?_⟩
    · simp only [upd_at, c67 i hi, if_false]
    · rw [cc2, if_neg (by omega), if_neg (by omega), upd_at, if_neg (by omega), upd_at, if_neg (by omega)]; exact vj
    · rw [co, if_pos c, upd_at, if_pos rfl]
    · rw [upd_at, if_neg (by decide), upd_at, if_pos rfl]
    · rw [upd_at, if_neg (by decide), upd_at, if_neg (by decide)]
    · rw [upd_at, if_neg (by decide), upd_at, if_neg (by decide)]
    · simp (implicitDefEqProofs := false) only [rX9_tells_25, rX9_tells_25b, rX9_tells_26, rX9_tells_29, rX9_tells_31, rX9_tells_32, rX9_tells_33, rX9_tells_34, rX9_tells_35, rX9_tells_36, rX9_tells_37, rX9_tells_38, rX9_tells_38b, rX9_tells_39, rX9_tells_42, rX9_tells_45, rX9_tells_46, rX9_tells_47, rX9_tells_48, rX9_tells_51, rX9_tells_51b, rX9_tells_52, rX9_tells_55, rX9_tells_56, rX9_tells_58, rX9_tells_59, rX9_tells_59b, rX9_tells_60, rX9_tells_63, rX9_tells_66, rX9_tells_67, rX9_tells_68, rX9_tells_69, rX9_tells_72, rX9_tells_72b, rX9_tells_73, rX9_tells_76, rX9_tells_78, rX9_tells_79, rX9_tells_80, rX9_tells_81, rX9_tells_82, rX9_tells_83, rX9_tells_84, rX9_tells_85, rX9_tells_85b, rX9_tells_86, rX9_tells_89, rX9_tells_92, rX9_tells_93, rX9_tells_94, rX9_tells_95, rX9_tells_98, rX9_tells_98b, rX9_tells_99, rX9_tells_102, rX9_tells_103, rX9_tells_104, rX9_tells_107, rX9_tells_107b, rX9_tells_108, rX9_tells_111, rX9_tells_112, rX9_tells_113, rX9_tells_114, rX9_tells_115, rX9_tells_116, kA_44, kB_44, kA_47, kB_47, fin_44_5 F, fin_44_15 F, fin_44_16 F, fin_44_17 F, fin_44_18 F, fin_44_21 F, fin_44_23 F, fin_44_24 F, fin_44_25 F, fin_44_29 F, fin_44_33 F, kU0 hs, kU1 hs, kV1 hs, fU1 f, kU2 hs, kV2 hs, fU2 f, kU3 hs, kV3 hs, fU3 f, kU4 hs, kV4 hs, fU4 f, kU5 hs, kV5 hs, fU5 f, kU6 hs, kV6 hs, fU6 f, kU7 hs, kV7 hs, fU7 f, kU8 hs, kV8 hs, fU8 f, kU9 hs, kV9 hs, fU9 f, kU10 hs, kV10 hs, fU10 f, kU11 hs, kV11 hs, fU11 f, kU12 hs, kV12 hs, fU12 f, nU hs, nUk hs, r, e4, v6, v7, v10, vx, cl, cl7, clx, v2, v3, sj, bt_or, c, show nI 2 = 2 from rfl, show ¬ (2 : Int32) = 1 from by decide, show ¬ (2 : Int32) = 3 from by decide, pCX9_tells, pSX9_tells, pOX9_tells, pLX9_tells, kl_I, kl_J, kl_R, kl_T, kl_N, Nat.le_refl, Nat.zero_le, List.map_nil, List.map_cons, List.sum_nil, List.sum_cons, c_I, c_J, c_R, c_T, va_rf, hI_wI, hJ_wJ, hR_wR, hI_J, hI_R, hJ_I, hJ_R, hR_I, hR_J, hN_I, hN_J, hN_R, wI_I, wJ_J, upd_at, updL_at, kR_s, Option.toList, List.append_nil, List.nil_append, List.cons_append, if_true, if_false, reduceIte, Bool.false_eq_true, not_true_eq_false, not_false_eq_true, true_and, and_true, false_and, and_false, true_or, or_true,  Nat.reduceEqDiff, Nat.reduceAdd, Nat.reduceLeDiff]
  · cases hc : aCs a j with
    | none =>
      rw [hc] at vj cc2
      refine ⟨upd (hI h 47) 7 (nI (x.1 ||| 2 ^ j)), fin _ (fun i hi e => ?_) ?_ ?_ ?_ ?_ ?_, fun Q => ?_⟩
      · simp only [upd_at, c67 i hi, if_false]
      · rw [cc2, if_neg (by omega), if_pos c, upd_at, if_neg (by omega)]; exact vj
      · rw [co, if_neg (by omega), upd_at, if_neg (by decide)]; exact v2
      · rw [upd_at, if_pos rfl]
      · rw [upd_at, if_neg (by decide)]
      · rw [upd_at, if_neg (by decide)]
      · rw [oI_no] at vj
        simp (implicitDefEqProofs := false) only [rX9_tells_25, rX9_tells_25b, rX9_tells_26, rX9_tells_29, rX9_tells_31, rX9_tells_32, rX9_tells_33, rX9_tells_34, rX9_tells_35, rX9_tells_36, rX9_tells_37, rX9_tells_38, rX9_tells_38b, rX9_tells_39, rX9_tells_42, rX9_tells_45, rX9_tells_46, rX9_tells_47, rX9_tells_48, rX9_tells_51, rX9_tells_51b, rX9_tells_52, rX9_tells_55, rX9_tells_56, rX9_tells_58, rX9_tells_59, rX9_tells_59b, rX9_tells_60, rX9_tells_63, rX9_tells_66, rX9_tells_67, rX9_tells_68, rX9_tells_69, rX9_tells_72, rX9_tells_72b, rX9_tells_73, rX9_tells_76, rX9_tells_78, rX9_tells_79, rX9_tells_80, rX9_tells_81, rX9_tells_82, rX9_tells_83, rX9_tells_84, rX9_tells_85, rX9_tells_85b, rX9_tells_86, rX9_tells_89, rX9_tells_92, rX9_tells_93, rX9_tells_94, rX9_tells_95, rX9_tells_98, rX9_tells_98b, rX9_tells_99, rX9_tells_102, rX9_tells_103, rX9_tells_104, rX9_tells_107, rX9_tells_107b, rX9_tells_108, rX9_tells_111, rX9_tells_112, rX9_tells_113, rX9_tells_114, rX9_tells_115, rX9_tells_116, kA_44, kB_44, kA_47, kB_47, fin_44_5 F, fin_44_15 F, fin_44_16 F, fin_44_17 F, fin_44_18 F, fin_44_21 F, fin_44_23 F, fin_44_24 F, fin_44_25 F, fin_44_29 F, fin_44_33 F, kU0 hs, kU1 hs, kV1 hs, fU1 f, kU2 hs, kV2 hs, fU2 f, kU3 hs, kV3 hs, fU3 f, kU4 hs, kV4 hs, fU4 f, kU5 hs, kV5 hs, fU5 f, kU6 hs, kV6 hs, fU6 f, kU7 hs, kV7 hs, fU7 f, kU8 hs, kV8 hs, fU8 f, kU9 hs, kV9 hs, fU9 f, kU10 hs, kV10 hs, fU10 f, kU11 hs, kV11 hs, fU11 f, kU12 hs, kV12 hs, fU12 f, nU hs, nUk hs, r, e4, v6, v7, v10, vx, cl, cl7, clx, v3, vj, j7, show (-2 : Int32) ≤ 0 from by decide, sj, bt_or, c, show nI 3 = 3 from rfl, show ¬ (3 : Int32) = 1 from by decide, show ¬ (3 : Int32) = 2 from by decide, pCX9_tells, pSX9_tells, pOX9_tells, pLX9_tells, kl_I, kl_J, kl_R, kl_T, kl_N, Nat.le_refl, Nat.zero_le, List.map_nil, List.map_cons, List.sum_nil, List.sum_cons, c_I, c_J, c_R, c_T, va_rf, hI_wI, hJ_wJ, hR_wR, hI_J, hI_R, hJ_I, hJ_R, hR_I, hR_J, hN_I, hN_J, hN_R, wI_I, wJ_J, upd_at, updL_at, kR_s, Option.toList, List.append_nil, List.nil_append, List.cons_append, if_true, if_false, reduceIte, Bool.false_eq_true, not_true_eq_false, not_false_eq_true, true_and, and_true, false_and, and_false, true_or, or_true,  Nat.reduceEqDiff, Nat.reduceAdd, Nat.reduceLeDiff]
    | some cc =>
      rw [hc] at vj cc2
      have := g2 cc hc
      rw [oI_so] at vj
      have ql : (nI cc ≤ 0) = (cc ≤ 0) := nle (x := cc) (k := 0) (c := 0) rfl (by omega) (by omega)
      by_cases c0 : cc ≤ 0
      · refine ⟨upd (hI h 47) 7 (nI (x.1 ||| 2 ^ j)), fin _ (fun i hi e => ?_) ?_ ?_ ?_ ?_ ?_, fun Q => ?_⟩
        · simp only [upd_at, c67 i hi, if_false]
        · rw [cc2, if_neg (by omega), if_pos c, upd_at, if_neg (by omega), vj]; simp only [Option.map_some, oI_so]; rw [show cc - 1 = cc by omega]
        · rw [co, if_neg (by omega), upd_at, if_neg (by decide)]; exact v2
        · rw [upd_at, if_pos rfl]
        · rw [upd_at, if_neg (by decide)]
        · rw [upd_at, if_neg (by decide)]
        · simp (implicitDefEqProofs := false) only [rX9_tells_25, rX9_tells_25b, rX9_tells_26, rX9_tells_29, rX9_tells_31, rX9_tells_32, rX9_tells_33, rX9_tells_34, rX9_tells_35, rX9_tells_36, rX9_tells_37, rX9_tells_38, rX9_tells_38b, rX9_tells_39, rX9_tells_42, rX9_tells_45, rX9_tells_46, rX9_tells_47, rX9_tells_48, rX9_tells_51, rX9_tells_51b, rX9_tells_52, rX9_tells_55, rX9_tells_56, rX9_tells_58, rX9_tells_59, rX9_tells_59b, rX9_tells_60, rX9_tells_63, rX9_tells_66, rX9_tells_67, rX9_tells_68, rX9_tells_69, rX9_tells_72, rX9_tells_72b, rX9_tells_73, rX9_tells_76, rX9_tells_78, rX9_tells_79, rX9_tells_80, rX9_tells_81, rX9_tells_82, rX9_tells_83, rX9_tells_84, rX9_tells_85, rX9_tells_85b, rX9_tells_86, rX9_tells_89, rX9_tells_92, rX9_tells_93, rX9_tells_94, rX9_tells_95, rX9_tells_98, rX9_tells_98b, rX9_tells_99, rX9_tells_102, rX9_tells_103, rX9_tells_104, rX9_tells_107, rX9_tells_107b, rX9_tells_108, rX9_tells_111, rX9_tells_112, rX9_tells_113, rX9_tells_114, rX9_tells_115, rX9_tells_116, kA_44, kB_44, kA_47, kB_47, fin_44_5 F, fin_44_15 F, fin_44_16 F, fin_44_17 F, fin_44_18 F, fin_44_21 F, fin_44_23 F, fin_44_24 F, fin_44_25 F, fin_44_29 F, fin_44_33 F, kU0 hs, kU1 hs, kV1 hs, fU1 f, kU2 hs, kV2 hs, fU2 f, kU3 hs, kV3 hs, fU3 f, kU4 hs, kV4 hs, fU4 f, kU5 hs, kV5 hs, fU5 f, kU6 hs, kV6 hs, fU6 f, kU7 hs, kV7 hs, fU7 f, kU8 hs, kV8 hs, fU8 f, kU9 hs, kV9 hs, fU9 f, kU10 hs, kV10 hs, fU10 f, kU11 hs, kV11 hs, fU11 f, kU12 hs, kV12 hs, fU12 f, nU hs, nUk hs, r, e4, v6, v7, v10, vx, cl, cl7, clx, v3, vj, j7, ql, c0, sj, bt_or, c, show nI 3 = 3 from rfl, show ¬ (3 : Int32) = 1 from by decide, show ¬ (3 : Int32) = 2 from by decide, pCX9_tells, pSX9_tells, pOX9_tells, pLX9_tells, kl_I, kl_J, kl_R, kl_T, kl_N, Nat.le_refl, Nat.zero_le, List.map_nil, List.map_cons, List.sum_nil, List.sum_cons, c_I, c_J, c_R, c_T, va_rf, hI_wI, hJ_wJ, hR_wR, hI_J, hI_R, hJ_I, hJ_R, hR_I, hR_J, hN_I, hN_J, hN_R, wI_I, wJ_J, upd_at, updL_at, kR_s, Option.toList, List.append_nil, List.nil_append, List.cons_append, if_true, if_false, reduceIte, Bool.false_eq_true, not_true_eq_false, not_false_eq_true, true_and, and_true, false_and, and_false, true_or, or_true,  Nat.reduceEqDiff, Nat.reduceAdd, Nat.reduceLeDiff]
      · have es : nI cc - 1 = nI (cc - 1) := by rw [show (1 : Int32) = nI 1 from rfl, pk_sub (by omega)]
        refine ⟨upd (upd (hI h 47) 7 (nI (x.1 ||| 2 ^ j))) j (nI (cc - 1)), fin _ (fun i hi e => ?_) ?_ ?_ ?_ ?_ ?_, fun Q => ?_⟩
        · simp only [upd_at, e, c67 i hi, if_false]
        · rw [cc2, if_neg (by omega), if_pos c, upd_at, if_pos rfl]; rfl
        · rw [co, if_neg (by omega), upd_at, if_neg (by omega), upd_at, if_neg (by decide)]; exact v2
        · rw [upd_at, if_neg (by omega), upd_at, if_pos rfl]
        · rw [upd_at, if_neg (by omega), upd_at, if_neg (by decide)]
        · rw [upd_at, if_neg (by omega), upd_at, if_neg (by decide)]
        · simp (implicitDefEqProofs := false) only [rX9_tells_25, rX9_tells_25b, rX9_tells_26, rX9_tells_29, rX9_tells_31, rX9_tells_32, rX9_tells_33, rX9_tells_34, rX9_tells_35, rX9_tells_36, rX9_tells_37, rX9_tells_38, rX9_tells_38b, rX9_tells_39, rX9_tells_42, rX9_tells_45, rX9_tells_46, rX9_tells_47, rX9_tells_48, rX9_tells_51, rX9_tells_51b, rX9_tells_52, rX9_tells_55, rX9_tells_56, rX9_tells_58, rX9_tells_59, rX9_tells_59b, rX9_tells_60, rX9_tells_63, rX9_tells_66, rX9_tells_67, rX9_tells_68, rX9_tells_69, rX9_tells_72, rX9_tells_72b, rX9_tells_73, rX9_tells_76, rX9_tells_78, rX9_tells_79, rX9_tells_80, rX9_tells_81, rX9_tells_82, rX9_tells_83, rX9_tells_84, rX9_tells_85, rX9_tells_85b, rX9_tells_86, rX9_tells_89, rX9_tells_92, rX9_tells_93, rX9_tells_94, rX9_tells_95, rX9_tells_98, rX9_tells_98b, rX9_tells_99, rX9_tells_102, rX9_tells_103, rX9_tells_104, rX9_tells_107, rX9_tells_107b, rX9_tells_108, rX9_tells_111, rX9_tells_112, rX9_tells_113, rX9_tells_114, rX9_tells_115, rX9_tells_116, kA_44, kB_44, kA_47, kB_47, fin_44_5 F, fin_44_15 F, fin_44_16 F, fin_44_17 F, fin_44_18 F, fin_44_21 F, fin_44_23 F, fin_44_24 F, fin_44_25 F, fin_44_29 F, fin_44_33 F, kU0 hs, kU1 hs, kV1 hs, fU1 f, kU2 hs, kV2 hs, fU2 f, kU3 hs, kV3 hs, fU3 f, kU4 hs, kV4 hs, fU4 f, kU5 hs, kV5 hs, fU5 f, kU6 hs, kV6 hs, fU6 f, kU7 hs, kV7 hs, fU7 f, kU8 hs, kV8 hs, fU8 f, kU9 hs, kV9 hs, fU9 f, kU10 hs, kV10 hs, fU10 f, kU11 hs, kV11 hs, fU11 f, kU12 hs, kV12 hs, fU12 f, nU hs, nUk hs, r, e4, v6, v7, v10, vx, cl, cl7, clx, v3, vj, j7, ql, c0, es, sj, bt_or, c, show nI 3 = 3 from rfl, show ¬ (3 : Int32) = 1 from by decide, show ¬ (3 : Int32) = 2 from by decide, pCX9_tells, pSX9_tells, pOX9_tells, pLX9_tells, kl_I, kl_J, kl_R, kl_T, kl_N, Nat.le_refl, Nat.zero_le, List.map_nil, List.map_cons, List.sum_nil, List.sum_cons, c_I, c_J, c_R, c_T, va_rf, hI_wI, hJ_wJ, hR_wR, hI_J, hI_R, hJ_I, hJ_R, hR_I, hR_J, hN_I, hN_J, hN_R, wI_I, wJ_J, upd_at, updL_at, kR_s, Option.toList, List.append_nil, List.nil_append, List.cons_append, if_true, if_false, reduceIte, Bool.false_eq_true, not_true_eq_false, not_false_eq_true, true_and, and_true, false_and, and_false, true_or, or_true,  Nat.reduceEqDiff, Nat.reduceAdd, Nat.reduceLeDiff]
  · refine ⟨upd (hI h 47) 7 (nI (x.1 ||| 2 ^ j)), fin _ (fun i hi e => ?_) ?_ ?_ ?_ ?_ ?_, fun Q => ?_⟩
    · simp only [upd_at, c67 i hi, if_false]
    · rw [cc2, if_neg c.1, if_neg c.2.2, upd_at, if_neg (by omega)]; exact vj
    · rw [co, if_neg c.2.1, upd_at, if_neg (by decide)]; exact v2
    · rw [upd_at, if_pos rfl]
    · rw [upd_at, if_neg (by decide)]
    · rw [upd_at, if_neg (by decide)]
    · simp (implicitDefEqProofs := false) only [rX9_tells_25, rX9_tells_25b, rX9_tells_26, rX9_tells_29, rX9_tells_31, rX9_tells_32, rX9_tells_33, rX9_tells_34, rX9_tells_35, rX9_tells_36, rX9_tells_37, rX9_tells_38, rX9_tells_38b, rX9_tells_39, rX9_tells_42, rX9_tells_45, rX9_tells_46, rX9_tells_47, rX9_tells_48, rX9_tells_51, rX9_tells_51b, rX9_tells_52, rX9_tells_55, rX9_tells_56, rX9_tells_58, rX9_tells_59, rX9_tells_59b, rX9_tells_60, rX9_tells_63, rX9_tells_66, rX9_tells_67, rX9_tells_68, rX9_tells_69, rX9_tells_72, rX9_tells_72b, rX9_tells_73, rX9_tells_76, rX9_tells_78, rX9_tells_79, rX9_tells_80, rX9_tells_81, rX9_tells_82, rX9_tells_83, rX9_tells_84, rX9_tells_85, rX9_tells_85b, rX9_tells_86, rX9_tells_89, rX9_tells_92, rX9_tells_93, rX9_tells_94, rX9_tells_95, rX9_tells_98, rX9_tells_98b, rX9_tells_99, rX9_tells_102, rX9_tells_103, rX9_tells_104, rX9_tells_107, rX9_tells_107b, rX9_tells_108, rX9_tells_111, rX9_tells_112, rX9_tells_113, rX9_tells_114, rX9_tells_115, rX9_tells_116, kA_44, kB_44, kA_47, kB_47, fin_44_5 F, fin_44_15 F, fin_44_16 F, fin_44_17 F, fin_44_18 F, fin_44_21 F, fin_44_23 F, fin_44_24 F, fin_44_25 F, fin_44_29 F, fin_44_33 F, kU0 hs, kU1 hs, kV1 hs, fU1 f, kU2 hs, kV2 hs, fU2 f, kU3 hs, kV3 hs, fU3 f, kU4 hs, kV4 hs, fU4 f, kU5 hs, kV5 hs, fU5 f, kU6 hs, kV6 hs, fU6 f, kU7 hs, kV7 hs, fU7 f, kU8 hs, kV8 hs, fU8 f, kU9 hs, kV9 hs, fU9 f, kU10 hs, kV10 hs, fU10 f, kU11 hs, kV11 hs, fU11 f, kU12 hs, kV12 hs, fU12 f, nU hs, nUk hs, r, e4, v6, v7, v10, vx, cl, cl7, clx, v3, sj, bt_or, q1, q2, q3, c, pCX9_tells, pSX9_tells, pOX9_tells, pLX9_tells, kl_I, kl_J, kl_R, kl_T, kl_N, Nat.le_refl, Nat.zero_le, List.map_nil, List.map_cons, List.sum_nil, List.sum_cons, c_I, c_J, c_R, c_T, va_rf, hI_wI, hJ_wJ, hR_wR, hI_J, hI_R, hJ_I, hJ_R, hR_I, hR_J, hN_I, hN_J, hN_R, wI_I, wJ_J, upd_at, updL_at, kR_s, Option.toList, List.append_nil, List.nil_append, List.cons_append, if_true, if_false, reduceIte, Bool.false_eq_true, not_true_eq_false, not_false_eq_true, true_and, and_true, false_and, and_false, true_or, or_true,  Nat.reduceEqDiff, Nat.reduceAdd, Nat.reduceLeDiff]
set_option maxHeartbeats 1000000 in
theorem l_tl_tellsAll {d : Nat} {h : qH} {s j : Nat} {a : aS} {x : sT} {y0 : Int32} (F : Fin0 (hR h)) (r : hR h 44 3 = some s) (w : mSt h s a) (v : vF (hI h 47) a x) (hj : j < aN a) (hx : x.1 < 64) (hb : x.1.testBit j = false) : ∃ G, vF G a (x.1 ||| 2 ^ j, x.2) ∧ ∀ Q, WP d mX9_tellsAll (0, 0) 38 [some (.ref (44 : Nat)), some (.int y0), some (.int (nI j))] [] h Q = WP d mX9_tellsAll (0, 0) 130 [some (.ref (44 : Nat)), some (.int y0), some (.int (nI j))] [] (wI h 47 G) Q := by
  have hs := w.1
  have f := w.2.1
  have ww := w.2.2.1
  have h6 := ww.1
  obtain ⟨v1, v2, v3, v4, v5⟩ := v
  have e4 := (w.2.2.2.2.1 j hj).2.2.2
  obtain ⟨-, g2, -, g3⟩ := ww.2.2.1 j hj
  have v6 : vp_in (nI j) 6 := nI_vp (by omega) (by decide)
  have v10 : vp_in (nI j) 10 := nI_vp (by omega) (by decide)
  have v7 : vp_in 7 10 := nI_vp (i := 7) (by omega) (by decide)
  have vx : vp_in 6 10 := nI_vp (i := 6) (by omega) (by decide)
  have cl7 : (7 : Int32).toNatClampNeg = 7 := rfl
  have clx : (6 : Int32).toNatClampNeg = 6 := rfl
  have cl : (nI j).toNatClampNeg = j := nI_cl (by omega)
  have j7 : (j = 7) = False := by simp; omega
  have j6 : (j = 6) = False := by simp; omega
  have sj := bt_shl (j := j) (by omega)
  obtain ⟨cc1, cc2⟩ := cause_do (a := a) hb
  have co := cutN_or (t := x.1) hj
  have vj := v1 j hj
  rw [cc1] at vj
  have q1 : (nI (aDo a j) = 1) = (aDo a j = 1) := nq (x := aDo a j) (k := 1) (c := 1) rfl (by omega) (by omega)
  have q2 : (nI (aDo a j) = 2) = (aDo a j = 2) := nq (x := aDo a j) (k := 2) (c := 2) rfl (by omega) (by omega)
  have q3 : (nI (aDo a j) = 3) = (aDo a j = 3) := nq (x := aDo a j) (k := 3) (c := 3) rfl (by omega) (by omega)
  have fin : ∀ G : Nat → Int32, (∀ i, i < aN a → ¬ i = j → G i = hI h 47 i) → G j = oI (causeN a (x.1 ||| 2 ^ j) j) → G 6 = nI (cutN a (x.1 ||| 2 ^ j)) → G 7 = nI (x.1 ||| 2 ^ j) → G 8 = hI h 47 8 → G 9 = hI h 47 9 → vF G a (x.1 ||| 2 ^ j, x.2) := by
    intro G h1 h2 h3 h4 h5 h6
    refine ⟨fun i hi => ?_, h3, h4, h5.trans v4, h6.trans v5⟩
    by_cases e : i = j
    · rw [e]; exact h2
    · rw [h1 i hi e, v1 i hi]; simp only; rw [causeN_or e]
  have c67 : ∀ i, i < aN a → (i = 7) = False ∧ (i = 6) = False := fun i hi => by constructor <;> simp <;> omega
  rcases (show aDo a j = 1 ∨ aDo a j = 2 ∨ aDo a j = 3 ∨ (¬ aDo a j = 1 ∧ ¬ aDo a j = 2 ∧ ¬ aDo a j = 3) by omega) with c | c | c | c
  · refine ⟨upd (upd (hI h 47) 7 (nI (x.1 ||| 2 ^ j))) j (-2), fin _ (fun i hi e => ?_) ?_ ?_ ?_ ?_ ?_, fun Q => ?_⟩
    · simp only [upd_at, e, c67 i hi, if_false]
    · rw [cc2, if_pos c, upd_at, if_pos rfl]; rfl
    · rw [co, if_neg (by omega), upd_at, if_neg (by omega), upd_at, if_neg (by decide)]; exact v2
    · rw [upd_at, if_neg (by omega), upd_at, if_pos rfl]
    · rw [upd_at, if_neg (by omega), upd_at, if_neg (by decide)]
    · rw [upd_at, if_neg (by omega), upd_at, if_neg (by decide)]
    · simp (implicitDefEqProofs := false) only [rX9_tellsAll_38, rX9_tellsAll_38b, rX9_tellsAll_39, rX9_tellsAll_42, rX9_tellsAll_44, rX9_tellsAll_45, rX9_tellsAll_46, rX9_tellsAll_47, rX9_tellsAll_48, rX9_tellsAll_49, rX9_tellsAll_50, rX9_tellsAll_51, rX9_tellsAll_51b, rX9_tellsAll_52, rX9_tellsAll_55, rX9_tellsAll_58, rX9_tellsAll_59, rX9_tellsAll_60, rX9_tellsAll_61, rX9_tellsAll_64, rX9_tellsAll_64b, rX9_tellsAll_65, rX9_tellsAll_68, rX9_tellsAll_69, rX9_tellsAll_71, rX9_tellsAll_72, rX9_tellsAll_72b, rX9_tellsAll_73, rX9_tellsAll_76, rX9_tellsAll_79, rX9_tellsAll_80, rX9_tellsAll_81, rX9_tellsAll_82, rX9_tellsAll_85, rX9_tellsAll_85b, rX9_tellsAll_86, rX9_tellsAll_89, rX9_tellsAll_91, rX9_tellsAll_92, rX9_tellsAll_93, rX9_tellsAll_94, rX9_tellsAll_95, rX9_tellsAll_96, rX9_tellsAll_97, rX9_tellsAll_98, rX9_tellsAll_98b, rX9_tellsAll_99, rX9_tellsAll_102, rX9_tellsAll_105, rX9_tellsAll_106, rX9_tellsAll_107, rX9_tellsAll_108, rX9_tellsAll_111, rX9_tellsAll_111b, rX9_tellsAll_112, rX9_tellsAll_115, rX9_tellsAll_116, rX9_tellsAll_117, rX9_tellsAll_120, rX9_tellsAll_120b, rX9_tellsAll_121, rX9_tellsAll_124, rX9_tellsAll_125, rX9_tellsAll_126, rX9_tellsAll_127, rX9_tellsAll_128, rX9_tellsAll_129, kA_44, kB_44, kA_47, kB_47, fin_44_5 F, fin_44_15 F, fin_44_16 F, fin_44_17 F, fin_44_18 F, fin_44_21 F, fin_44_23 F, fin_44_24 F, fin_44_25 F, fin_44_29 F, fin_44_33 F, kU0 hs, kU1 hs, kV1 hs, fU1 f, kU2 hs, kV2 hs, fU2 f, kU3 hs, kV3 hs, fU3 f, kU4 hs, kV4 hs, fU4 f, kU5 hs, kV5 hs, fU5 f, kU6 hs, kV6 hs, fU6 f, kU7 hs, kV7 hs, fU7 f, kU8 hs, kV8 hs, fU8 f, kU9 hs, kV9 hs, fU9 f, kU10 hs, kV10 hs, fU10 f, kU11 hs, kV11 hs, fU11 f, kU12 hs, kV12 hs, fU12 f, nU hs, nUk hs, r, e4, v6, v7, v10, vx, cl, cl7, clx, v3, sj, bt_or, c, show nI 1 = 1 from rfl, show ¬ (1 : Int32) = 2 from by decide, show ¬ (1 : Int32) = 3 from by decide, pCX9_tellsAll, pSX9_tellsAll, pOX9_tellsAll, pLX9_tellsAll, kl_I, kl_J, kl_R, kl_T, kl_N, Nat.le_refl, Nat.zero_le, List.map_nil, List.map_cons, List.sum_nil, List.sum_cons, c_I, c_J, c_R, c_T, va_rf, hI_wI, hJ_wJ, hR_wR, hI_J, hI_R, hJ_I, hJ_R, hR_I, hR_J, hN_I, hN_J, hN_R, wI_I, wJ_J, upd_at, updL_at, kR_s, Option.toList, List.append_nil, List.nil_append, List.cons_append, if_true, if_false, reduceIte, Bool.false_eq_true, not_true_eq_false, not_false_eq_true, true_and, and_true, false_and, and_false, true_or, or_true,  Nat.reduceEqDiff, Nat.reduceAdd, Nat.reduceLeDiff]
  · refine ⟨upd (upd (hI h 47) 7 (nI (x.1 ||| 2 ^ j))) 6 (nI (cutN a x.1 ||| 2 ^ j)), fin _ (fun i hi e => ?_) ?_ ?_ ?_ ?_ ?_, fun Q => ?_⟩
    · simp only [upd_at, c67 i hi, if_false]
    · rw [cc2, if_neg (by omega), if_neg (by omega), upd_at, if_neg (by omega), upd_at, if_neg (by omega)]; exact vj
    · rw [co, if_pos c, upd_at, if_pos rfl]
    · rw [upd_at, if_neg (by decide), upd_at, if_pos rfl]
    · rw [upd_at, if_neg (by decide), upd_at, if_neg (by decide)]
    · rw [upd_at, if_neg (by decide), upd_at, if_neg (by decide)]
    · simp (implicitDefEqProofs := false) only [rX9_tellsAll_38, rX9_tellsAll_38b, rX9_tellsAll_39, rX9_tellsAll_42, rX9_tellsAll_44, rX9_tellsAll_45, rX9_tellsAll_46, rX9_tellsAll_47, rX9_tellsAll_48, rX9_tellsAll_49, rX9_tellsAll_50, rX9_tellsAll_51, rX9_tellsAll_51b, rX9_tellsAll_52, rX9_tellsAll_55, rX9_tellsAll_58, rX9_tellsAll_59, rX9_tellsAll_60, rX9_tellsAll_61, rX9_tellsAll_64, rX9_tellsAll_64b, rX9_tellsAll_65, rX9_tellsAll_68, rX9_tellsAll_69, rX9_tellsAll_71, rX9_tellsAll_72, rX9_tellsAll_72b, rX9_tellsAll_73, rX9_tellsAll_76, rX9_tellsAll_79, rX9_tellsAll_80, rX9_tellsAll_81, rX9_tellsAll_82, rX9_tellsAll_85, rX9_tellsAll_85b, rX9_tellsAll_86, rX9_tellsAll_89, rX9_tellsAll_91, rX9_tellsAll_92, rX9_tellsAll_93, rX9_tellsAll_94, rX9_tellsAll_95, rX9_tellsAll_96, rX9_tellsAll_97, rX9_tellsAll_98, rX9_tellsAll_98b, rX9_tellsAll_99, rX9_tellsAll_102, rX9_tellsAll_105, rX9_tellsAll_106, rX9_tellsAll_107, rX9_tellsAll_108, rX9_tellsAll_111, rX9_tellsAll_111b, rX9_tellsAll_112, rX9_tellsAll_115, rX9_tellsAll_116, rX9_tellsAll_117, rX9_tellsAll_120, rX9_tellsAll_120b, rX9_tellsAll_121, rX9_tellsAll_124, rX9_tellsAll_125, rX9_tellsAll_126, rX9_tellsAll_127, rX9_tellsAll_128, rX9_tellsAll_129, kA_44, kB_44, kA_47, kB_47, fin_44_5 F, fin_44_15 F, fin_44_16 F, fin_44_17 F, fin_44_18 F, fin_44_21 F, fin_44_23 F, fin_44_24 F, fin_44_25 F, fin_44_29 F, fin_44_33 F, kU0 hs, kU1 hs, kV1 hs, fU1 f, kU2 hs, kV2 hs, fU2 f, kU3 hs, kV3 hs, fU3 f, kU4 hs, kV4 hs, fU4 f, kU5 hs, kV5 hs, fU5 f, kU6 hs, kV6 hs, fU6 f, kU7 hs, kV7 hs, fU7 f, kU8 hs, kV8 hs, fU8 f, kU9 hs, kV9 hs, fU9 f, kU10 hs, kV10 hs, fU10 f, kU11 hs, kV11 hs, fU11 f, kU12 hs, kV12 hs, fU12 f, nU hs, nUk hs, r, e4, v6, v7, v10, vx, cl, cl7, clx, v2, v3, sj, bt_or, c, show nI 2 = 2 from rfl, show ¬ (2 : Int32) = 1 from by decide, show ¬ (2 : Int32) = 3 from by decide, pCX9_tellsAll, pSX9_tellsAll, pOX9_tellsAll, pLX9_tellsAll, kl_I, kl_J, kl_R, kl_T, kl_N, Nat.le_refl, Nat.zero_le, List.map_nil, List.map_cons, List.sum_nil, List.sum_cons, c_I, c_J, c_R, c_T, va_rf, hI_wI, hJ_wJ, hR_wR, hI_J, hI_R, hJ_I, hJ_R, hR_I, hR_J, hN_I, hN_J, hN_R, wI_I, wJ_J, upd_at, updL_at, kR_s, Option.toList, List.append_nil, List.nil_append, List.cons_append, if_true, if_false, reduceIte, Bool.false_eq_true, not_true_eq_false, not_false_eq_true, true_and, and_true, false_and, and_false, true_or, or_true,  Nat.reduceEqDiff, Nat.reduceAdd, Nat.reduceLeDiff]
  · cases hc : aCs a j with
    | none =>
      rw [hc] at vj cc2
      refine ⟨upd (hI h 47) 7 (nI (x.1 ||| 2 ^ j)), fin _ (fun i hi e => ?_) ?_ ?_ ?_ ?_ ?_, fun Q => ?_⟩
      · simp only [upd_at, c67 i hi, if_false]
      · rw [cc2, if_neg (by omega), if_pos c, upd_at, if_neg (by omega)]; exact vj
      · rw [co, if_neg (by omega), upd_at, if_neg (by decide)]; exact v2
      · rw [upd_at, if_pos rfl]
      · rw [upd_at, if_neg (by decide)]
      · rw [upd_at, if_neg (by decide)]
      · rw [oI_no] at vj
        simp (implicitDefEqProofs := false) only [rX9_tellsAll_38, rX9_tellsAll_38b, rX9_tellsAll_39, rX9_tellsAll_42, rX9_tellsAll_44, rX9_tellsAll_45, rX9_tellsAll_46, rX9_tellsAll_47, rX9_tellsAll_48, rX9_tellsAll_49, rX9_tellsAll_50, rX9_tellsAll_51, rX9_tellsAll_51b, rX9_tellsAll_52, rX9_tellsAll_55, rX9_tellsAll_58, rX9_tellsAll_59, rX9_tellsAll_60, rX9_tellsAll_61, rX9_tellsAll_64, rX9_tellsAll_64b, rX9_tellsAll_65, rX9_tellsAll_68, rX9_tellsAll_69, rX9_tellsAll_71, rX9_tellsAll_72, rX9_tellsAll_72b, rX9_tellsAll_73, rX9_tellsAll_76, rX9_tellsAll_79, rX9_tellsAll_80, rX9_tellsAll_81, rX9_tellsAll_82, rX9_tellsAll_85, rX9_tellsAll_85b, rX9_tellsAll_86, rX9_tellsAll_89, rX9_tellsAll_91, rX9_tellsAll_92, rX9_tellsAll_93, rX9_tellsAll_94, rX9_tellsAll_95, rX9_tellsAll_96, rX9_tellsAll_97, rX9_tellsAll_98, rX9_tellsAll_98b, rX9_tellsAll_99, rX9_tellsAll_102, rX9_tellsAll_105, rX9_tellsAll_106, rX9_tellsAll_107, rX9_tellsAll_108, rX9_tellsAll_111, rX9_tellsAll_111b, rX9_tellsAll_112, rX9_tellsAll_115, rX9_tellsAll_116, rX9_tellsAll_117, rX9_tellsAll_120, rX9_tellsAll_120b, rX9_tellsAll_121, rX9_tellsAll_124, rX9_tellsAll_125, rX9_tellsAll_126, rX9_tellsAll_127, rX9_tellsAll_128, rX9_tellsAll_129, kA_44, kB_44, kA_47, kB_47, fin_44_5 F, fin_44_15 F, fin_44_16 F, fin_44_17 F, fin_44_18 F, fin_44_21 F, fin_44_23 F, fin_44_24 F, fin_44_25 F, fin_44_29 F, fin_44_33 F, kU0 hs, kU1 hs, kV1 hs, fU1 f, kU2 hs, kV2 hs, fU2 f, kU3 hs, kV3 hs, fU3 f, kU4 hs, kV4 hs, fU4 f, kU5 hs, kV5 hs, fU5 f, kU6 hs, kV6 hs, fU6 f, kU7 hs, kV7 hs, fU7 f, kU8 hs, kV8 hs, fU8 f, kU9 hs, kV9 hs, fU9 f, kU10 hs, kV10 hs, fU10 f, kU11 hs, kV11 hs, fU11 f, kU12 hs, kV12 hs, fU12 f, nU hs, nUk hs, r, e4, v6, v7, v10, vx, cl, cl7, clx, v3, vj, j7, show (-2 : Int32) ≤ 0 from by decide, sj, bt_or, c, show nI 3 = 3 from rfl, show ¬ (3 : Int32) = 1 from by decide, show ¬ (3 : Int32) = 2 from by decide, pCX9_tellsAll, pSX9_tellsAll, pOX9_tellsAll, pLX9_tellsAll, kl_I, kl_J, kl_R, kl_T, kl_N, Nat.le_refl, Nat.zero_le, List.map_nil, List.map_cons, List.sum_nil, List.sum_cons, c_I, c_J, c_R, c_T, va_rf, hI_wI, hJ_wJ, hR_wR, hI_J, hI_R, hJ_I, hJ_R, hR_I, hR_J, hN_I, hN_J, hN_R, wI_I, wJ_J, upd_at, updL_at, kR_s, Option.toList, List.append_nil, List.nil_append, List.cons_append, if_true, if_false, reduceIte, Bool.false_eq_true, not_true_eq_false, not_false_eq_true, true_and, and_true, false_and, and_false, true_or, or_true,  Nat.reduceEqDiff, Nat.reduceAdd, Nat.reduceLeDiff]
    | some cc =>
      rw [hc] at vj cc2
      have := g2 cc hc
      rw [oI_so] at vj
      have ql : (nI cc ≤ 0) = (cc ≤ 0) := nle (x := cc) (k := 0) (c := 0) rfl (by omega) (by omega)
      by_cases c0 : cc ≤ 0
      · refine ⟨upd (hI h 47) 7 (nI (x.1 ||| 2 ^ j)), fin _ (fun i hi e => ?_) ?_ ?_ ?_ ?_ ?_, fun Q => ?_⟩
        · simp only [upd_at, c67 i hi, if_false]
        · rw [cc2, if_neg (by omega), if_pos c, upd_at, if_neg (by omega), vj]; simp only [Option.map_some, oI_so]; rw [show cc - 1 = cc by omega]
        · rw [co, if_neg (by omega), upd_at, if_neg (by decide)]; exact v2
        · rw [upd_at, if_pos rfl]
        · rw [upd_at, if_neg (by decide)]
        · rw [upd_at, if_neg (by decide)]
        · simp (implicitDefEqProofs := false) only [rX9_tellsAll_38, rX9_tellsAll_38b, rX9_tellsAll_39, rX9_tellsAll_42, rX9_tellsAll_44, rX9_tellsAll_45, rX9_tellsAll_46, rX9_tellsAll_47, rX9_tellsAll_48, rX9_tellsAll_49, rX9_tellsAll_50, rX9_tellsAll_51, rX9_tellsAll_51b, rX9_tellsAll_52, rX9_tellsAll_55, rX9_tellsAll_58, rX9_tellsAll_59, rX9_tellsAll_60, rX9_tellsAll_61, rX9_tellsAll_64, rX9_tellsAll_64b, rX9_tellsAll_65, rX9_tellsAll_68, rX9_tellsAll_69, rX9_tellsAll_71, rX9_tellsAll_72, rX9_tellsAll_72b, rX9_tellsAll_73, rX9_tellsAll_76, rX9_tellsAll_79, rX9_tellsAll_80, rX9_tellsAll_81, rX9_tellsAll_82, rX9_tellsAll_85, rX9_tellsAll_85b, rX9_tellsAll_86, rX9_tellsAll_89, rX9_tellsAll_91, rX9_tellsAll_92, rX9_tellsAll_93, rX9_tellsAll_94, rX9_tellsAll_95, rX9_tellsAll_96, rX9_tellsAll_97, rX9_tellsAll_98, rX9_tellsAll_98b, rX9_tellsAll_99, rX9_tellsAll_102, rX9_tellsAll_105, rX9_tellsAll_106, rX9_tellsAll_107, rX9_tellsAll_108, rX9_tellsAll_111, rX9_tellsAll_111b, rX9_tellsAll_112, rX9_tellsAll_115, rX9_tellsAll_116, rX9_tellsAll_117, rX9_tellsAll_120, rX9_tellsAll_120b, rX9_tellsAll_121, rX9_tellsAll_124, rX9_tellsAll_125, rX9_tellsAll_126, rX9_tellsAll_127, rX9_tellsAll_128, rX9_tellsAll_129, kA_44, kB_44, kA_47, kB_47, fin_44_5 F, fin_44_15 F, fin_44_16 F, fin_44_17 F, fin_44_18 F, fin_44_21 F, fin_44_23 F, fin_44_24 F, fin_44_25 F, fin_44_29 F, fin_44_33 F, kU0 hs, kU1 hs, kV1 hs, fU1 f, kU2 hs, kV2 hs, fU2 f, kU3 hs, kV3 hs, fU3 f, kU4 hs, kV4 hs, fU4 f, kU5 hs, kV5 hs, fU5 f, kU6 hs, kV6 hs, fU6 f, kU7 hs, kV7 hs, fU7 f, kU8 hs, kV8 hs, fU8 f, kU9 hs, kV9 hs, fU9 f, kU10 hs, kV10 hs, fU10 f, kU11 hs, kV11 hs, fU11 f, kU12 hs, kV12 hs, fU12 f, nU hs, nUk hs, r, e4, v6, v7, v10, vx, cl, cl7, clx, v3, vj, j7, ql, c0, sj, bt_or, c, show nI 3 = 3 from rfl, show ¬ (3 : Int32) = 1 from by decide, show ¬ (3 : Int32) = 2 from by decide, pCX9_tellsAll, pSX9_tellsAll, pOX9_tellsAll, pLX9_tellsAll, kl_I, kl_J, kl_R, kl_T, kl_N, Nat.le_refl, Nat.zero_le, List.map_nil, List.map_cons, List.sum_nil, List.sum_cons, c_I, c_J, c_R, c_T, va_rf, hI_wI, hJ_wJ, hR_wR, hI_J, hI_R, hJ_I, hJ_R, hR_I, hR_J, hN_I, hN_J, hN_R, wI_I, wJ_J, upd_at, updL_at, kR_s, Option.toList, List.append_nil, List.nil_append, List.cons_append, if_true, if_false, reduceIte, Bool.false_eq_true, not_true_eq_false, not_false_eq_true, true_and, and_true, false_and, and_false, true_or, or_true,  Nat.reduceEqDiff, Nat.reduceAdd, Nat.reduceLeDiff]
      · have es : nI cc - 1 = nI (cc - 1) := by rw [show (1 : Int32) = nI 1 from rfl, pk_sub (by omega)]
        refine ⟨upd (upd (hI h 47) 7 (nI (x.1 ||| 2 ^ j))) j (nI (cc - 1)), fin _ (fun i hi e => ?_) ?_ ?_ ?_ ?_ ?_, fun Q => ?_⟩
        · simp only [upd_at, e, c67 i hi, if_false]
        · rw [cc2, if_neg (by omega), if_pos c, upd_at, if_pos rfl]; rfl
        · rw [co, if_neg (by omega), upd_at, if_neg (by omega), upd_at, if_neg (by decide)]; exact v2
        · rw [upd_at, if_neg (by omega), upd_at, if_pos rfl]
        · rw [upd_at, if_neg (by omega), upd_at, if_neg (by decide)]
        · rw [upd_at, if_neg (by omega), upd_at, if_neg (by decide)]
        · simp (implicitDefEqProofs := false) only [rX9_tellsAll_38, rX9_tellsAll_38b, rX9_tellsAll_39, rX9_tellsAll_42, rX9_tellsAll_44, rX9_tellsAll_45, rX9_tellsAll_46, rX9_tellsAll_47, rX9_tellsAll_48, rX9_tellsAll_49, rX9_tellsAll_50, rX9_tellsAll_51, rX9_tellsAll_51b, rX9_tellsAll_52, rX9_tellsAll_55, rX9_tellsAll_58, rX9_tellsAll_59, rX9_tellsAll_60, rX9_tellsAll_61, rX9_tellsAll_64, rX9_tellsAll_64b, rX9_tellsAll_65, rX9_tellsAll_68, rX9_tellsAll_69, rX9_tellsAll_71, rX9_tellsAll_72, rX9_tellsAll_72b, rX9_tellsAll_73, rX9_tellsAll_76, rX9_tellsAll_79, rX9_tellsAll_80, rX9_tellsAll_81, rX9_tellsAll_82, rX9_tellsAll_85, rX9_tellsAll_85b, rX9_tellsAll_86, rX9_tellsAll_89, rX9_tellsAll_91, rX9_tellsAll_92, rX9_tellsAll_93, rX9_tellsAll_94, rX9_tellsAll_95, rX9_tellsAll_96, rX9_tellsAll_97, rX9_tellsAll_98, rX9_tellsAll_98b, rX9_tellsAll_99, rX9_tellsAll_102, rX9_tellsAll_105, rX9_tellsAll_106, rX9_tellsAll_107, rX9_tellsAll_108, rX9_tellsAll_111, rX9_tellsAll_111b, rX9_tellsAll_112, rX9_tellsAll_115, rX9_tellsAll_116, rX9_tellsAll_117, rX9_tellsAll_120, rX9_tellsAll_120b, rX9_tellsAll_121, rX9_tellsAll_124, rX9_tellsAll_125, rX9_tellsAll_126, rX9_tellsAll_127, rX9_tellsAll_128, rX9_tellsAll_129, kA_44, kB_44, kA_47, kB_47, fin_44_5 F, fin_44_15 F, fin_44_16 F, fin_44_17 F, fin_44_18 F, fin_44_21 F, fin_44_23 F, fin_44_24 F, fin_44_25 F, fin_44_29 F, fin_44_33 F, kU0 hs, kU1 hs, kV1 hs, fU1 f, kU2 hs, kV2 hs, fU2 f, kU3 hs, kV3 hs, fU3 f, kU4 hs, kV4 hs, fU4 f, kU5 hs, kV5 hs, fU5 f, kU6 hs, kV6 hs, fU6 f, kU7 hs, kV7 hs, fU7 f, kU8 hs, kV8 hs, fU8 f, kU9 hs, kV9 hs, fU9 f, kU10 hs, kV10 hs, fU10 f, kU11 hs, kV11 hs, fU11 f, kU12 hs, kV12 hs, fU12 f, nU hs, nUk hs, r, e4, v6, v7, v10, vx, cl, cl7, clx, v3, vj, j7, ql, c0, es, sj, bt_or, c, show nI 3 = 3 from rfl, show ¬ (3 : Int32) = 1 from by decide, show ¬ (3 : Int32) = 2 from by decide, pCX9_tellsAll, pSX9_tellsAll, pOX9_tellsAll, pLX9_tellsAll, kl_I, kl_J, kl_R, kl_T, kl_N, Nat.le_refl, Nat.zero_le, List.map_nil, List.map_cons, List.sum_nil, List.sum_cons, c_I, c_J, c_R, c_T, va_rf, hI_wI, hJ_wJ, hR_wR, hI_J, hI_R, hJ_I, hJ_R, hR_I, hR_J, hN_I, hN_J, hN_R, wI_I, wJ_J, upd_at, updL_at, kR_s, Option.toList, List.append_nil, List.nil_append, List.cons_append, if_true, if_false, reduceIte, Bool.false_eq_true, not_true_eq_false, not_false_eq_true, true_and, and_true, false_and, and_false, true_or, or_true,  Nat.reduceEqDiff, Nat.reduceAdd, Nat.reduceLeDiff]
  · refine ⟨upd (hI h 47) 7 (nI (x.1 ||| 2 ^ j)), fin _ (fun i hi e => ?_) ?_ ?_ ?_ ?_ ?_, fun Q => ?_⟩
    · simp only [upd_at, c67 i hi, if_false]
    · rw [cc2, if_neg c.1, if_neg c.2.2, upd_at, if_neg (by omega)]; exact vj
    · rw [co, if_neg c.2.1, upd_at, if_neg (by decide)]; exact v2
    · rw [upd_at, if_pos rfl]
    · rw [upd_at, if_neg (by decide)]
    · rw [upd_at, if_neg (by decide)]
    · simp (implicitDefEqProofs := false) only [rX9_tellsAll_38, rX9_tellsAll_38b, rX9_tellsAll_39, rX9_tellsAll_42, rX9_tellsAll_44, rX9_tellsAll_45, rX9_tellsAll_46, rX9_tellsAll_47, rX9_tellsAll_48, rX9_tellsAll_49, rX9_tellsAll_50, rX9_tellsAll_51, rX9_tellsAll_51b, rX9_tellsAll_52, rX9_tellsAll_55, rX9_tellsAll_58, rX9_tellsAll_59, rX9_tellsAll_60, rX9_tellsAll_61, rX9_tellsAll_64, rX9_tellsAll_64b, rX9_tellsAll_65, rX9_tellsAll_68, rX9_tellsAll_69, rX9_tellsAll_71, rX9_tellsAll_72, rX9_tellsAll_72b, rX9_tellsAll_73, rX9_tellsAll_76, rX9_tellsAll_79, rX9_tellsAll_80, rX9_tellsAll_81, rX9_tellsAll_82, rX9_tellsAll_85, rX9_tellsAll_85b, rX9_tellsAll_86, rX9_tellsAll_89, rX9_tellsAll_91, rX9_tellsAll_92, rX9_tellsAll_93, rX9_tellsAll_94, rX9_tellsAll_95, rX9_tellsAll_96, rX9_tellsAll_97, rX9_tellsAll_98, rX9_tellsAll_98b, rX9_tellsAll_99, rX9_tellsAll_102, rX9_tellsAll_105, rX9_tellsAll_106, rX9_tellsAll_107, rX9_tellsAll_108, rX9_tellsAll_111, rX9_tellsAll_111b, rX9_tellsAll_112, rX9_tellsAll_115, rX9_tellsAll_116, rX9_tellsAll_117, rX9_tellsAll_120, rX9_tellsAll_120b, rX9_tellsAll_121, rX9_tellsAll_124, rX9_tellsAll_125, rX9_tellsAll_126, rX9_tellsAll_127, rX9_tellsAll_128, rX9_tellsAll_129, kA_44, kB_44, kA_47, kB_47, fin_44_5 F, fin_44_15 F, fin_44_16 F, fin_44_17 F, fin_44_18 F, fin_44_21 F, fin_44_23 F, fin_44_24 F, fin_44_25 F, fin_44_29 F, fin_44_33 F, kU0 hs, kU1 hs, kV1 hs, fU1 f, kU2 hs, kV2 hs, fU2 f, kU3 hs, kV3 hs, fU3 f, kU4 hs, kV4 hs, fU4 f, kU5 hs, kV5 hs, fU5 f, kU6 hs, kV6 hs, fU6 f, kU7 hs, kV7 hs, fU7 f, kU8 hs, kV8 hs, fU8 f, kU9 hs, kV9 hs, fU9 f, kU10 hs, kV10 hs, fU10 f, kU11 hs, kV11 hs, fU11 f, kU12 hs, kV12 hs, fU12 f, nU hs, nUk hs, r, e4, v6, v7, v10, vx, cl, cl7, clx, v3, sj, bt_or, q1, q2, q3, c, pCX9_tellsAll, pSX9_tellsAll, pOX9_tellsAll, pLX9_tellsAll, kl_I, kl_J, kl_R, kl_T, kl_N, Nat.le_refl, Nat.zero_le, List.map_nil, List.map_cons, List.sum_nil, List.sum_cons, c_I, c_J, c_R, c_T, va_rf, hI_wI, hJ_wJ, hR_wR, hI_J, hI_R, hJ_I, hJ_R, hR_I, hR_J, hN_I, hN_J, hN_R, wI_I, wJ_J, upd_at, updL_at, kR_s, Option.toList, List.append_nil, List.nil_append, List.cons_append, if_true, if_false, reduceIte, Bool.false_eq_true, not_true_eq_false, not_false_eq_true, true_and, and_true, false_and, and_false, true_or, or_true,  Nat.reduceEqDiff, Nat.reduceAdd, Nat.reduceLeDiff]
/-- who was told, once one more is -/
noncomputable def tlN (a : aS) (t j y : Nat) : Nat := if dayN a t j ≤ y then t else t ||| 2 ^ j
theorem c_tells {d : Nat} {h : qH} {s j y : Nat} {a : aS} {x : sT} (k : mK h s a) (v : vF (hI h 47) a x) (t : atR h a (dayN a x.1)) (hj : j < aN a) (hx : x.1 < 64) (hy : y ≤ 999) : ∃ h', (∀ Q, WM (d + 3) mX9_tells [.ref (44 : Nat), .int (nI j), .int (nI y)] h Q = Q (some none) h') ∧ sx [47, 50] h h' ∧ vF (hI h' 47) a (tlN a x.1 j y, x.2) ∧ atR h' a (dayN a (tlN a x.1 j y)) := by
  obtain ⟨F, r, w, e22⟩ := id k
  have hs := w.1
  have f := w.2.1
  have ww := w.2.2.1
  have h6 := ww.1
  have v6 : vp_in (nI j) 6 := nI_vp (by omega) (by decide)
  have v7 : vp_in 7 10 := nI_vp (i := 7) (by omega) (by decide)
  have cl7 : (7 : Int32).toNatClampNeg = 7 := rfl
  have cl : (nI j).toNatClampNeg = j := nI_cl (by omega)
  have bt := c_mbit (d := d + 2) (h := h) (t := x.1) (j := j) (by omega) (by omega)
  have tj := t.1 j hj
  have tb := t.2.1 j
  have z1 := n9_b tb
  have q1 : (nI y < nI (n9 (dayN a x.1 j))) = (¬ dayN a x.1 j ≤ y) := by
    rw [propext (nI_ltI (a := y) (b := n9 (dayN a x.1 j)) (by omega) (by omega))]
    unfold n9
    apply propext
    split <;> omega
  cases hb : x.1.testBit j with
  | true =>
    rw [hb] at bt
    have e : tlN a x.1 j y = x.1 := by unfold tlN; rw [or_same hb]; split <;> rfl
    rw [e]
    refine ⟨h, fun Q => ?_, sx_refl, v, t⟩
    simp (implicitDefEqProofs := false) only [eX9_tells, rX9_tells_0, rX9_tells_0b, rX9_tells_1, rX9_tells_4, rX9_tells_6, rX9_tells_7, rX9_tells_8, rX9_tells_11, rX9_tells_14, rX9_tells_14b, rX9_tells_15, rX9_tells_18, rX9_tells_19, rX9_tells_20, rX9_tells_21, rX9_tells_24, kA_44, kB_44, kA_47, kB_47, kA_50, kB_50, fin_44_5 F, fin_44_15 F, fin_44_16 F, fin_44_17 F, fin_44_18 F, fin_44_21 F, fin_44_23 F, fin_44_24 F, fin_44_25 F, fin_44_29 F, fin_44_33 F, v.2.2.1, v7, cl7, bt, bI_t, show ¬ (1 : Int32) = 0 from by decide, pCX9_tells, pSX9_tells, pOX9_tells, pLX9_tells, pCX9_bit, pSX9_bit, pOX9_bit, pLX9_bit, kl_I, kl_J, kl_R, kl_T, kl_N, Nat.le_refl, Nat.zero_le, List.map_nil, List.map_cons, List.sum_nil, List.sum_cons, c_I, c_J, c_R, c_T, va_rf, hI_wI, hJ_wJ, hR_wR, hI_J, hI_R, hJ_I, hJ_R, hR_I, hR_J, hN_I, hN_J, hN_R, wI_I, wJ_J, upd_at, updL_at, kR_s, Option.toList, List.append_nil, List.nil_append, List.cons_append, if_true, if_false, reduceIte, Bool.false_eq_true, not_true_eq_false, not_false_eq_true, true_and, and_true, false_and, and_false, true_or, or_true,  Nat.reduceEqDiff, Nat.reduceAdd, Nat.reduceLeDiff]
  | false =>
    rw [hb] at bt
    by_cases c : dayN a x.1 j ≤ y
    · have e : tlN a x.1 j y = x.1 := if_pos c
      rw [e]
      refine ⟨h, fun Q => ?_, sx_refl, v, t⟩
      simp (implicitDefEqProofs := false) only [eX9_tells, rX9_tells_0, rX9_tells_0b, rX9_tells_1, rX9_tells_4, rX9_tells_6, rX9_tells_7, rX9_tells_8, rX9_tells_11, rX9_tells_14, rX9_tells_14b, rX9_tells_15, rX9_tells_18, rX9_tells_19, rX9_tells_20, rX9_tells_21, rX9_tells_24, kA_44, kB_44, kA_47, kB_47, kA_50, kB_50, fin_44_5 F, fin_44_15 F, fin_44_16 F, fin_44_17 F, fin_44_18 F, fin_44_21 F, fin_44_23 F, fin_44_24 F, fin_44_25 F, fin_44_29 F, fin_44_33 F, v.2.2.1, v6, v7, cl, cl7, bt, bI_f, tj, q1, c, pCX9_tells, pSX9_tells, pOX9_tells, pLX9_tells, pCX9_bit, pSX9_bit, pOX9_bit, pLX9_bit, kl_I, kl_J, kl_R, kl_T, kl_N, Nat.le_refl, Nat.zero_le, List.map_nil, List.map_cons, List.sum_nil, List.sum_cons, c_I, c_J, c_R, c_T, va_rf, hI_wI, hJ_wJ, hR_wR, hI_J, hI_R, hJ_I, hJ_R, hR_I, hR_J, hN_I, hN_J, hN_R, wI_I, wJ_J, upd_at, updL_at, kR_s, Option.toList, List.append_nil, List.nil_append, List.cons_append, if_true, if_false, reduceIte, Bool.false_eq_true, not_true_eq_false, not_false_eq_true, true_and, and_true, false_and, and_false, true_or, or_true,  Nat.reduceEqDiff, Nat.reduceAdd, Nat.reduceLeDiff]
    · have e : tlN a x.1 j y = x.1 ||| 2 ^ j := if_neg c
      rw [e]
      obtain ⟨G, vG, eG⟩ := l_tl_tells (d := d + 3) (y0 := nI y) F r w v hj hx hb
      have x1 : sx [47] h (wI h 47 G) := sx_w sx_refl (by simp)
      have v1 : vF (hI (wI h 47 G) 47) a (x.1 ||| 2 ^ j, x.2) := by rw [hI_wI, if_pos rfl]; exact vG
      obtain ⟨h', eb, y2, t2⟩ := c_bA (d := d) (mK_sx k x1 (by decide)) v1
      refine ⟨h', fun Q => ?_, sx_trans (sx_mono x1 (by simp)) (sx_mono y2 (by simp)), by rw [y2.2.2.2 47 (by simp)]; exact v1, t2⟩
      simp (implicitDefEqProofs := false) only [eX9_tells, rX9_tells_0, rX9_tells_0b, rX9_tells_1, rX9_tells_4, rX9_tells_6, rX9_tells_7, rX9_tells_8, rX9_tells_11, rX9_tells_14, rX9_tells_14b, rX9_tells_15, rX9_tells_18, rX9_tells_19, rX9_tells_20, rX9_tells_21, kA_44, kB_44, kA_47, kB_47, kA_50, kB_50, fin_44_5 F, fin_44_15 F, fin_44_16 F, fin_44_17 F, fin_44_18 F, fin_44_21 F, fin_44_23 F, fin_44_24 F, fin_44_25 F, fin_44_29 F, fin_44_33 F, v.2.2.1, v6, v7, cl, cl7, bt, bI_f, tj, q1, c, pCX9_tells, pSX9_tells, pOX9_tells, pLX9_tells, pCX9_bit, pSX9_bit, pOX9_bit, pLX9_bit, kl_I, kl_J, kl_R, kl_T, kl_N, Nat.le_refl, Nat.zero_le, List.map_nil, List.map_cons, List.sum_nil, List.sum_cons, c_I, c_J, c_R, c_T, va_rf, hI_wI, hJ_wJ, hR_wR, hI_J, hI_R, hJ_I, hJ_R, hR_I, hR_J, hN_I, hN_J, hN_R, wI_I, wJ_J, upd_at, updL_at, kR_s, Option.toList, List.append_nil, List.nil_append, List.cons_append, if_true, if_false, reduceIte, Bool.false_eq_true, not_true_eq_false, not_false_eq_true, true_and, and_true, false_and, and_false, true_or, or_true,  Nat.reduceEqDiff, Nat.reduceAdd, Nat.reduceLeDiff]
      rw [eG]
      simp (implicitDefEqProofs := false) only [rX9_tells_117, rX9_tells_117b, rX9_tells_118, rX9_tells_121, kA_44, kB_44, pCX9_tells, pSX9_tells, pOX9_tells, pLX9_tells, pCX9_burnsAll, pSX9_burnsAll, pOX9_burnsAll, pLX9_burnsAll, eb, kl_I, kl_J, kl_R, kl_T, kl_N, Nat.le_refl, Nat.zero_le, List.map_nil, List.map_cons, List.sum_nil, List.sum_cons, c_I, c_J, c_R, c_T, va_rf, hI_wI, hJ_wJ, hR_wR, hI_J, hI_R, hJ_I, hJ_R, hR_I, hR_J, hN_I, hN_J, hN_R, wI_I, wJ_J, upd_at, updL_at, kR_s, Option.toList, List.append_nil, List.nil_append, List.cons_append, if_true, if_false, reduceIte, Bool.false_eq_true, not_true_eq_false, not_false_eq_true, true_and, and_true, false_and, and_false, true_or, or_true,  Nat.reduceEqDiff, Nat.reduceAdd, Nat.reduceLeDiff]
theorem sooL_gt {r : Nat → Nat} {wi af : Nat} : ∀ {k i : Nat} {b : Option Nat} {y x : Nat}, (∀ z, b = some z → af < r z) → sooL r wi af k i b y = some x → af < r x
  | 0, i, b, y, x, hb, h => hb x h
  | k + 1, i, b, y, x, hb, h => by
    rw [sooL] at h
    split at h
    · rename_i c
      exact sooL_gt (fun z hz => by cases hz; exact c.2.1) h
    · exact sooL_gt hb h
theorem tl_lt {a : aS} {t j y : Nat} (ht : t < 2 ^ aN a) (hj : j < aN a) : tlN a t j y < 2 ^ aN a := by
  unfold tlN
  split
  · exact ht
  · exact or_lt ht hj
theorem tl_ag {a : aS} {t wi y j : Nat} : (nxN a (tlN a t j y) wi y = some j) ↔ agP a t wi y j = true := by
  unfold tlN agP
  simp only [decide_eq_true_eq]
  by_cases c : dayN a t j ≤ y
  · rw [if_pos c]
    constructor
    · intro q
      have := sooL_gt (k := aN a) (i := 0) (y := 1000) (fun z hz => by cases hz) q
      omega
    · intro q; omega
  · rw [if_neg c]
    constructor
    · intro q; exact ⟨by omega, q⟩
    · intro q; exact q.2
theorem l_magreeing {d : Nat} {s y : Nat} {a : aS} {x : sT} (hx : x.1 < 2 ^ aN a) (hw : x.2.1 < 64) (hy : y ≤ 999) : ∀ (k i : Nat), i + k = aN a → ∀ (h : qH) (_ : mK h s a) (_ : vF (hI h 47) a x) (_ : vF (hI h 51) a x) (_ : atR h a (dayN a x.1)), ∃ h', (∀ Q, WP (d + 4) mX9_agreeing (0, 0) 8 [some (.ref (44 : Nat)), some (.int (nI y)), some (.int (nI (bm (agP a x.1 x.2.1 y) i))), some (.int (nI i))] [] h Q = Q (some (some (.int (nI (agN a x.1 x.2.1 y))))) h') ∧ sx [47, 50] h h' ∧ vF (hI h' 47) a x ∧ atR h' a (dayN a x.1) := by
  intro k
  induction k with
  | zero =>
    intro i hi h k v v2 t
    obtain rfl : i = aN a := by omega
    refine ⟨h, fun Q => ?_, sx_refl, v, t⟩
    have hs := k.2.2.1.1
    simp (implicitDefEqProofs := false) only [rX9_agreeing_8, rX9_agreeing_9, rX9_agreeing_9b, rX9_agreeing_10, rX9_agreeing_13, rX9_agreeing_16, rX9_agreeing_19, rX9_agreeing_19b, rX9_agreeing_20, rX9_agreeing_21, rX9_agreeing_22, rX9_agreeing_25, rX9_agreeing_26, rX9_agreeing_26b, rX9_agreeing_27, rX9_agreeing_28, rX9_agreeing_31, rX9_agreeing_32, rX9_agreeing_35, rX9_agreeing_36, rX9_agreeing_37, rX9_agreeing_38, rX9_agreeing_41, rX9_agreeing_42, rX9_agreeing_43, rX9_agreeing_54, rX9_agreeing_55, kA_44, kB_44, kU0 hs, nU hs, k.2.1, k.2.2.1.2.2.2.1.2.1, pCX9_agreeing, pSX9_agreeing, pOX9_agreeing, pLX9_agreeing, Int32.le_refl, kl_I, kl_J, kl_R, kl_T, kl_N, Nat.le_refl, Nat.zero_le, List.map_nil, List.map_cons, List.sum_nil, List.sum_cons, c_I, c_J, c_R, c_T, va_rf, hI_wI, hJ_wJ, hR_wR, hI_J, hI_R, hJ_I, hJ_R, hR_I, hR_J, hN_I, hN_J, hN_R, wI_I, wJ_J, upd_at, updL_at, kR_s, Option.toList, List.append_nil, List.nil_append, List.cons_append, if_true, if_false, reduceIte, Bool.false_eq_true, not_true_eq_false, not_false_eq_true, true_and, and_true, false_and, and_false, true_or, or_true,  Nat.reduceEqDiff, Nat.reduceAdd, Nat.reduceLeDiff]
    rfl
  | succ k ih =>
    intro i hi h k v v2 t
    have hs := k.2.2.1.1
    have ww := k.2.2.1.2.2.1
    have h6 := ww.1
    have p := p6 h6
    have hlt : i < aN a := by omega
    have g1 : ¬ nI (aN a) ≤ nI i := nI_ge hlt (by omega)
    obtain ⟨h1, e1, x1, u1, t1⟩ := c_tells (d := d) k v t hlt (by omega) hy
    have k1 := mK_sx k x1 (by decide)
    have nx := c_nextOn (d := d + 2) (y := y) k1.1 k1.2.1 k1.2.2.1 t1 hw (by omega) u1.2.2.2.1
    obtain ⟨h2, e2, x2, u2, t2⟩ := c_letsGo (d := d) k1 (x := x) (by rw [x1.2.2.2 51 (by simp)]; exact v2)
    have k2 := mK_sx k1 x2 (by decide)
    obtain ⟨h', e3, x3, u3, t3⟩ := ih (i + 1) (by omega) h2 k2 u2 (by rw [x2.2.2.2 51 (by simp), x1.2.2.2 51 (by simp)]; exact v2) t2
    refine ⟨h', fun Q => ?_, sx_trans x1 (sx_trans x2 x3), u3, t3⟩
    have q2 := oI_eq (o := sooN (aN a) (dayN a (tlN a x.1 i y)) x.2.1 y) (j := i) (fun z hz => by have := soo_lt hz; omega) (by omega)
    have ta := tl_ag (a := a) (t := x.1) (wi := x.2.1) (y := y) (j := i)
    have e3 := e3 Q
    by_cases c : agP a x.1 x.2.1 y i = true
    · have q3 : sooN (aN a) (dayN a (tlN a x.1 i y)) x.2.1 y = some i := ta.mpr c
      rw [bm_t c] at e3
      simp (implicitDefEqProofs := false) only [rX9_agreeing_8, rX9_agreeing_9, rX9_agreeing_9b, rX9_agreeing_10, rX9_agreeing_13, rX9_agreeing_16, rX9_agreeing_19, rX9_agreeing_19b, rX9_agreeing_20, rX9_agreeing_21, rX9_agreeing_22, rX9_agreeing_25, rX9_agreeing_26, rX9_agreeing_26b, rX9_agreeing_27, rX9_agreeing_28, rX9_agreeing_31, rX9_agreeing_32, rX9_agreeing_35, rX9_agreeing_36, rX9_agreeing_37, rX9_agreeing_38, rX9_agreeing_41, rX9_agreeing_42, rX9_agreeing_43, rX9_agreeing_44, rX9_agreeing_44b, rX9_agreeing_45, kA_44, kB_44, kU0 hs, nU hs, k.2.1, k.2.2.1.2.2.2.1.2.1, g1, e1, nx, q3, oI_so, bt_shl (j := i) (by omega), bt_or, e2, pCX9_agreeing, pSX9_agreeing, pOX9_agreeing, pLX9_agreeing, pCX9_tells, pSX9_tells, pOX9_tells, pLX9_tells, pCX9_nextOn, pSX9_nextOn, pOX9_nextOn, pLX9_nextOn, pCX9_letsGo, pSX9_letsGo, pOX9_letsGo, pLX9_letsGo, kl_I, kl_J, kl_R, kl_T, kl_N, Nat.le_refl, Nat.zero_le, List.map_nil, List.map_cons, List.sum_nil, List.sum_cons, c_I, c_J, c_R, c_T, va_rf, hI_wI, hJ_wJ, hR_wR, hI_J, hI_R, hJ_I, hJ_R, hR_I, hR_J, hN_I, hN_J, hN_R, wI_I, wJ_J, upd_at, updL_at, kR_s, Option.toList, List.append_nil, List.nil_append, List.cons_append, if_true, if_false, reduceIte, Bool.false_eq_true, not_true_eq_false, not_false_eq_true, true_and, and_true, false_and, and_false, true_or, or_true,  Nat.reduceEqDiff, Nat.reduceAdd, Nat.reduceLeDiff]
      rw [rX9_agreeing_48, nI_1]
      simp (implicitDefEqProofs := false) only [rX9_agreeing_51, kl_I, kl_J, kl_R, kl_T, kl_N, Nat.le_refl, Nat.zero_le, List.map_nil, List.map_cons, List.sum_nil, List.sum_cons, c_I, c_J, c_R, c_T, va_rf, hI_wI, hJ_wJ, hR_wR, hI_J, hI_R, hJ_I, hJ_R, hR_I, hR_J, hN_I, hN_J, hN_R, wI_I, wJ_J, upd_at, updL_at, kR_s, Option.toList, List.append_nil, List.nil_append, List.cons_append, if_true, if_false, reduceIte, Bool.false_eq_true, not_true_eq_false, not_false_eq_true, true_and, and_true, false_and, and_false, true_or, or_true,  Nat.reduceEqDiff, Nat.reduceAdd, Nat.reduceLeDiff]
      exact e3
    · have q3 : ¬ sooN (aN a) (dayN a (tlN a x.1 i y)) x.2.1 y = some i := fun q => c (ta.mp q)
      rw [bm_f c] at e3
      simp (implicitDefEqProofs := false) only [rX9_agreeing_8, rX9_agreeing_9, rX9_agreeing_9b, rX9_agreeing_10, rX9_agreeing_13, rX9_agreeing_16, rX9_agreeing_19, rX9_agreeing_19b, rX9_agreeing_20, rX9_agreeing_21, rX9_agreeing_22, rX9_agreeing_25, rX9_agreeing_26, rX9_agreeing_26b, rX9_agreeing_27, rX9_agreeing_28, rX9_agreeing_31, rX9_agreeing_32, rX9_agreeing_35, rX9_agreeing_36, rX9_agreeing_37, rX9_agreeing_38, rX9_agreeing_41, rX9_agreeing_42, rX9_agreeing_43, rX9_agreeing_44, rX9_agreeing_44b, rX9_agreeing_45, kA_44, kB_44, kU0 hs, nU hs, k.2.1, k.2.2.1.2.2.2.1.2.1, g1, e1, nx, q2, q3, show (0 : Int32) = nI 0 from rfl, bt_or, Nat.or_zero, e2, pCX9_agreeing, pSX9_agreeing, pOX9_agreeing, pLX9_agreeing, pCX9_tells, pSX9_tells, pOX9_tells, pLX9_tells, pCX9_nextOn, pSX9_nextOn, pOX9_nextOn, pLX9_nextOn, pCX9_letsGo, pSX9_letsGo, pOX9_letsGo, pLX9_letsGo, kl_I, kl_J, kl_R, kl_T, kl_N, Nat.le_refl, Nat.zero_le, List.map_nil, List.map_cons, List.sum_nil, List.sum_cons, c_I, c_J, c_R, c_T, va_rf, hI_wI, hJ_wJ, hR_wR, hI_J, hI_R, hJ_I, hJ_R, hR_I, hR_J, hN_I, hN_J, hN_R, wI_I, wJ_J, upd_at, updL_at, kR_s, Option.toList, List.append_nil, List.nil_append, List.cons_append, if_true, if_false, reduceIte, Bool.false_eq_true, not_true_eq_false, not_false_eq_true, true_and, and_true, false_and, and_false, true_or, or_true,  Nat.reduceEqDiff, Nat.reduceAdd, Nat.reduceLeDiff]
      rw [rX9_agreeing_48, nI_1]
      simp (implicitDefEqProofs := false) only [rX9_agreeing_51, kl_I, kl_J, kl_R, kl_T, kl_N, Nat.le_refl, Nat.zero_le, List.map_nil, List.map_cons, List.sum_nil, List.sum_cons, c_I, c_J, c_R, c_T, va_rf, hI_wI, hJ_wJ, hR_wR, hI_J, hI_R, hJ_I, hJ_R, hR_I, hR_J, hN_I, hN_J, hN_R, wI_I, wJ_J, upd_at, updL_at, kR_s, Option.toList, List.append_nil, List.nil_append, List.cons_append, if_true, if_false, reduceIte, Bool.false_eq_true, not_true_eq_false, not_false_eq_true, true_and, and_true, false_and, and_false, true_or, or_true,  Nat.reduceEqDiff, Nat.reduceAdd, Nat.reduceLeDiff]
      exact e3
theorem c_magreeing {d : Nat} {h : qH} {s y : Nat} {a : aS} {x : sT} (k : mK h s a) (v : vF (hI h 47) a x) (t : atR h a (dayN a x.1)) (hx : x.1 < 2 ^ aN a) (hw : x.2.1 < 64) (hy : y ≤ 999) : ∃ h', (∀ Q, WM (d + 4) mX9_agreeing [.ref (44 : Nat), .int (nI y)] h Q = Q (some (some (.int (nI (agN a x.1 x.2.1 y))))) h') ∧ sx [47, 50, 51] h h' ∧ vF (hI h' 47) a x ∧ atR h' a (dayN a x.1) := by
  have h6 := k.2.2.1.2.2.1.1
  have x1 : sx [51] h (wI h 51 (fil 10 (hI h 47) (hI h 51))) := sx_w sx_refl (by simp)
  obtain ⟨h', e, y2, u, t2⟩ := l_magreeing (d := d) hx hw hy (aN a) 0 (by omega) (wI h 51 (fil 10 (hI h 47) (hI h 51))) (mK_sx k x1 (by decide)) (by rw [x1.2.2.2 47 (by simp)]; exact v) (by rw [hI_wI, if_pos rfl]; exact vF_fil h6 v) (at_sx t x1 (by simp))
  refine ⟨h', fun Q => ?_, sx_trans (sx_mono x1 (by simp)) (sx_mono y2 (by simp)), u, t2⟩
  simp (implicitDefEqProofs := false) only [eX9_agreeing, rX9_agreeing_0, rX9_agreeing_1, rX9_agreeing_2, rX9_agreeing_2b, rX9_agreeing_3, rX9_agreeing_6, rX9_agreeing_7, kA_44, kB_44, c_holds (d := d + 3) k.1, pCX9_agreeing, pSX9_agreeing, pOX9_agreeing, pLX9_agreeing, pCX9_holds, pSX9_holds, pOX9_holds, pLX9_holds, kl_I, kl_J, kl_R, kl_T, kl_N, Nat.le_refl, Nat.zero_le, List.map_nil, List.map_cons, List.sum_nil, List.sum_cons, c_I, c_J, c_R, c_T, va_rf, hI_wI, hJ_wJ, hR_wR, hI_J, hI_R, hJ_I, hJ_R, hR_I, hR_J, hN_I, hN_J, hN_R, wI_I, wJ_J, upd_at, updL_at, kR_s, Option.toList, List.append_nil, List.nil_append, List.cons_append, if_true, if_false, reduceIte, Bool.false_eq_true, not_true_eq_false, not_false_eq_true, true_and, and_true, false_and, and_false, true_or, or_true,  Nat.reduceEqDiff, Nat.reduceAdd, Nat.reduceLeDiff]
  exact e Q
