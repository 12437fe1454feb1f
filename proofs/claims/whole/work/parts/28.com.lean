/-! ===== begin; by which causes come; chance; draws; guesses ===== -/
theorem Fin_up {r : Nat → Nat → Option Nat} {b k : Nat} {v : Option Nat} (F : Fin0 r) (hn : ∀ e ∈ finT, ¬ (e.1 = b ∧ e.2.1 = k)) : Fin0 (va_up r b (va_up (r b) k v)) := by
  intro e he
  have := hn e he
  simp only [va_up]
  by_cases h1 : e.1 = b
  · rw [if_pos h1]
    simp only [va_up]
    rw [if_neg (fun q => this ⟨h1, q⟩), ← h1]
    exact F e he
  · rw [if_neg h1]
    exact F e he
theorem c_begin {d : Nat} {h : qH} {s : Nat} {a : aS} (F : Fin0 (hR h)) (w : cS h s a) : ∃ h', (∀ Q, WM (d + 2) mX0_begin [.ref (32 : Nat), .ref s] h Q = Q (some none) h') ∧ sx [33, 34, 35] (wI (wR h 32 (va_up (hR h 32) 0 (some s))) 32 (upd (hI h 32) 5 (-1))) h' ∧ bT h' a := by
  have F1 : Fin0 (hR (wI (wR h 32 (va_up (hR h 32) 0 (some s))) 32 (upd (hI h 32) 5 (-1)))) := Fin_up F (by decide)
  have w1 : cS (wI (wR h 32 (va_up (hR h 32) 0 (some s))) 32 (upd (hI h 32) 5 (-1))) s a := cS_w (h := wR h 32 (va_up (hR h 32) 0 (some s))) (by exact w) (by omega)
  obtain ⟨h', e1, e2, e3⟩ := l_begin (d := d) (x1 := s) (2 ^ aN a) 0 (by omega) _ F1 (by rw [hR_I, hR_wR, if_pos rfl]; simp [va_up]) w1 (fun t ht => by omega)
  refine ⟨h', fun Q => ?_, e2, e3⟩
  have := e1 Q
  simp (implicitDefEqProofs := false) only [eX0_begin, rX0_begin_0, rX0_begin_0b, rX0_begin_1, rX0_begin_1b, rX0_begin_2, rX0_begin_5, rX0_begin_5b, rX0_begin_6, rX0_begin_7, rX0_begin_10, rX0_begin_11, kA_32, kB_32, pCX0_begin, pSX0_begin, pOX0_begin, pLX0_begin, kl_I, kl_J, kl_R, kl_T, kl_N, Nat.le_refl, Nat.zero_le, List.map_nil, List.map_cons, List.sum_nil, List.sum_cons, c_I, c_J, c_R, c_T, va_rf, hI_wI, hJ_wJ, hR_wR, hI_J, hI_R, hJ_I, hJ_R, hR_I, hR_J, hN_I, hN_J, hN_R, wI_I, wJ_J, upd_at, updL_at, kR_s, Option.toList, List.append_nil, List.nil_append, List.cons_append, if_true, if_false, reduceIte, Bool.false_eq_true, not_true_eq_false, not_false_eq_true, true_and, and_true, false_and, and_false,  Nat.reduceEqDiff, Nat.reduceAdd, Nat.reduceLeDiff]
  exact this
noncomputable def comN (a : aS) (t c : Nat) : Nat → Nat := sprN a (cutN a t) none (ownN a t c)
theorem comN_le {a : aS} (w : aW a) (t c j : Nat) : comN a t c j ≤ 1000 := sprN_le (fun _ hj => ownN_le w hj) j
def bC (h : qH) (a : aS) (t : Nat) : Prop := ∀ c, c < 2 ^ aN a → ∀ j, j < aN a → hI h 36 (c * 6 + j) = nI (comN a t c j)
set_option maxHeartbeats 2000000 in
theorem l_makeCome {d : Nat} {s t : Nat} {a : aS} (ht : t < 64) : ∀ (k i : Nat), i + k = 2 ^ aN a → ∀ (h : qH) (F : Fin0 (hR h)) (hf : hR h 32 0 = some s) (w : cS h s a) (hb : ∀ c, c < i → ∀ j, j < aN a → hI h 36 (c * 6 + j) = nI (comN a t c j)), ∃ h', (∀ Q, WP (d + 2) mX0_makeCome (0, 0) 7 [some (.ref (32 : Nat)), some (.int (nI t)), some (.int (nI i))] [] h Q = Q (some none) h') ∧ sx [33, 34, 36] h h' ∧ bC h' a t := by
  intro k
  induction k with
  | zero =>
    intro i hi h F hf w hb
    obtain rfl : i = 2 ^ aN a := by omega
    refine ⟨h, fun Q => ?_, sx_refl, hb⟩
    have h6 := w.2.1.1
    simp (implicitDefEqProofs := false) only [rX0_makeCome_7, rX0_makeCome_8, rX0_makeCome_9, rX0_makeCome_9b, rX0_makeCome_10, rX0_makeCome_13, rX0_makeCome_16, rX0_makeCome_17, rX0_makeCome_20, rX0_makeCome_20b, rX0_makeCome_21, rX0_makeCome_22, rX0_makeCome_23, rX0_makeCome_26, rX0_makeCome_26b, rX0_makeCome_27, rX0_makeCome_27b, rX0_makeCome_28, rX0_makeCome_31, rX0_makeCome_32, rX0_makeCome_35, rX0_makeCome_36, rX0_makeCome_39, rX0_makeCome_39b, rX0_makeCome_40, rX0_makeCome_43, rX0_makeCome_44, rX0_makeCome_44b, rX0_makeCome_45, rX0_makeCome_48, rX0_makeCome_49, rX0_makeCome_51, rX0_makeCome_52, rX0_makeCome_54, rX0_makeCome_57, rX0_makeCome_63, kS0 w.1, kS1 w.1, kT1 w.1, fS1 w.1 F, kS2 w.1, kT2 w.1, fS2 w.1 F, kS3 w.1, kT3 w.1, fS3 w.1 F, kS4 w.1, kT4 w.1, fS4 w.1 F, kS5 w.1, kT5 w.1, fS5 w.1 F, kS6 w.1, kT6 w.1, fS6 w.1 F, kS7 w.1, kT7 w.1, fS7 w.1 F, kS8 w.1, kT8 w.1, fS8 w.1 F, kS9 w.1, kT9 w.1, fS9 w.1 F, kS10 w.1, kT10 w.1, fS10 w.1 F, kS11 w.1, kT11 w.1, fS11 w.1 F, nS w.1, nSs w.1, kA_32, kB_32, hf, pCX0_makeCome, pSX0_makeCome, pOX0_makeCome, pLX0_makeCome, w.2.2.1.2.1, shl_n h6, Int32.le_refl, kl_I, kl_J, kl_R, kl_T, kl_N, Nat.le_refl, Nat.zero_le, List.map_nil, List.map_cons, List.sum_nil, List.sum_cons, c_I, c_J, c_R, c_T, va_rf, hI_wI, hJ_wJ, hR_wR, hI_J, hI_R, hJ_I, hJ_R, hR_I, hR_J, hN_I, hN_J, hN_R, wI_I, wJ_J, upd_at, updL_at, kR_s, Option.toList, List.append_nil, List.nil_append, List.cons_append, if_true, if_false, reduceIte, Bool.false_eq_true, not_true_eq_false, not_false_eq_true, true_and, and_true, false_and, and_false,  Nat.reduceEqDiff, Nat.reduceAdd, Nat.reduceLeDiff]
  | succ k ih =>
    intro i hi h F hf w hb
    have hs := w.1
    have ww := w.2.1
    have w3 := w.2.2.1
    have h6 := ww.1
    have h64 := p6 h6
    have g1 : ¬ nI (2 ^ aN a) ≤ nI i := nI_ge (by omega) (by omega)
    have hsx := tabH_sx (h := h) (a := a) (A := 36) (i := i) (t := t) (c := i)
    obtain ⟨h', e1, e2, e3⟩ := ih (i + 1) (by omega) (tabH h a 36 i t i) (Fin_sx F hsx) (by rw [hsx.1]; exact hf) (cS_sx w hsx (by simp)) (fun c hc j hj => by
      rw [tabH_at (by omega)]
      split
      · rename_i q; rw [q]; rfl
      · exact hb c (by omega) j hj)
    refine ⟨h', fun Q => ?_, sx_trans hsx e2, e3⟩
    have w1 : cS (wI h 33 (fil (aN a) (fun j => nI (ownN a t i j)) (hI h 33))) s a := cS_w w (by omega)
    have hv : ∀ j, j < aN a → hI (wI h 33 (fil (aN a) (fun j => nI (ownN a t i j)) (hI h 33))) 33 j = nI (ownN a t i j) := fun j hj => by rw [hI_wI, if_pos rfl, fil_at hj]
    have cs := c_causes (d := d) (c := i) F hf w ht (show i < 64 from by omega)
    have cc := c_cutBy (d := d + 1) (t := t) (show Fin0 (hR (wI h 33 (fil (aN a) (fun j => nI (ownN a t i j)) (hI h 33)))) from F) w1 ht
    have cp := c_spread (d := d + 1) (wo := none) (show Fin0 (hR (wI h 33 (fil (aN a) (fun j => nI (ownN a t i j)) (hI h 33)))) from F) hf w1 (cutN_lt ww t) (fun x hx => by cases hx) hv (fun j hj => ownN_le ww hj)
    simp only [mI] at cp
    have e6 : nI i * 6 = nI (i * 6) := by rw [show (6 : Int32) = nI 6 from rfl, nI_mul]
    have l1 : (nI (i * 6)).toNatClampNeg = i * 6 := nI_cl (by omega)
    have l2 : i * 6 + 6 ≤ 384 := by omega
    have e7 := e1 Q
    unfold tabH at e7
    rw [← nI_1] at e7
    simp (implicitDefEqProofs := false) only [rX0_makeCome_7, rX0_makeCome_8, rX0_makeCome_9, rX0_makeCome_9b, rX0_makeCome_10, rX0_makeCome_13, rX0_makeCome_16, rX0_makeCome_17, rX0_makeCome_20, rX0_makeCome_20b, rX0_makeCome_21, rX0_makeCome_22, rX0_makeCome_23, rX0_makeCome_26, rX0_makeCome_26b, rX0_makeCome_27, rX0_makeCome_27b, rX0_makeCome_28, rX0_makeCome_31, rX0_makeCome_32, rX0_makeCome_35, rX0_makeCome_36, rX0_makeCome_39, rX0_makeCome_39b, rX0_makeCome_40, rX0_makeCome_43, rX0_makeCome_44, rX0_makeCome_44b, rX0_makeCome_45, rX0_makeCome_48, rX0_makeCome_49, rX0_makeCome_51, rX0_makeCome_52, rX0_makeCome_54, rX0_makeCome_57, kS0 hs, kS1 hs, kT1 hs, fS1 hs F, kS2 hs, kT2 hs, fS2 hs F, kS3 hs, kT3 hs, fS3 hs F, kS4 hs, kT4 hs, fS4 hs F, kS5 hs, kT5 hs, fS5 hs F, kS6 hs, kT6 hs, fS6 hs F, kS7 hs, kT7 hs, fS7 hs F, kS8 hs, kT8 hs, fS8 hs F, kS9 hs, kT9 hs, fS9 hs F, kS10 hs, kT10 hs, fS10 hs F, kS11 hs, kT11 hs, fS11 hs F, nS hs, nSs hs, fin_32_1 F, fin_32_2 F, fin_32_3 F, fin_32_4 F, kA_32, kB_32, kA_33, kB_33, kA_34, kB_34, kA_36, kB_36, hf, pCX0_makeCome, pSX0_makeCome, pOX0_makeCome, pLX0_makeCome, pCX0_causes, pSX0_causes, pOX0_causes, pLX0_causes, pCX4_cutBy, pSX4_cutBy, pOX4_cutBy, pLX4_cutBy, pCX0_spread, pSX0_spread, pOX0_spread, pLX0_spread, w3.2.1, shl_n h6, g1, cs, cc, cp, e6, nneg (x := i * 6) (by omega), l1, l2, show (6 : Int32).toNatClampNeg = 6 from rfl, show (0 : Int32).toNatClampNeg = 0 from rfl, show ¬ (0 : Int32) < 0 from by decide, show ¬ (6 : Int32) < 0 from by decide, rX0_makeCome_60, e7, kl_I, kl_J, kl_R, kl_T, kl_N, Nat.le_refl, Nat.zero_le, List.map_nil, List.map_cons, List.sum_nil, List.sum_cons, c_I, c_J, c_R, c_T, va_rf, hI_wI, hJ_wJ, hR_wR, hI_J, hI_R, hJ_I, hJ_R, hR_I, hR_J, hN_I, hN_J, hN_R, wI_I, wJ_J, upd_at, updL_at, kR_s, Option.toList, List.append_nil, List.nil_append, List.cons_append, if_true, if_false, reduceIte, Bool.false_eq_true, not_true_eq_false, not_false_eq_true, true_and, and_true, false_and, and_false,  Nat.reduceEqDiff, Nat.reduceAdd, Nat.reduceLeDiff]
theorem c_makeCome {d : Nat} {h : qH} {s t : Nat} {a : aS} (F : Fin0 (hR h)) (hf : hR h 32 0 = some s) (w : cS h s a) (ht : t < 64) : ∃ h', (∀ Q, WM (d + 2) mX0_makeCome [.ref (32 : Nat), .int (nI t)] h Q = Q (some none) h') ∧ sx [33, 34, 36] (wI h 32 (upd (hI h 32) 5 (nI t))) h' ∧ bC h' a t := by
  have w1 : cS (wI h 32 (upd (hI h 32) 5 (nI t))) s a := cS_w w (by omega)
  obtain ⟨h', e1, e2, e3⟩ := l_makeCome (d := d) ht (2 ^ aN a) 0 (by omega) (wI h 32 (upd (hI h 32) 5 (nI t))) F hf w1 (fun c hc => by omega)
  refine ⟨h', fun Q => ?_, e2, e3⟩
  have := e1 Q
  simp (implicitDefEqProofs := false) only [eX0_makeCome, rX0_makeCome_0, rX0_makeCome_0b, rX0_makeCome_1, rX0_makeCome_2, rX0_makeCome_5, rX0_makeCome_6, kA_32, kB_32, pCX0_makeCome, pSX0_makeCome, pOX0_makeCome, pLX0_makeCome, kl_I, kl_J, kl_R, kl_T, kl_N, Nat.le_refl, Nat.zero_le, List.map_nil, List.map_cons, List.sum_nil, List.sum_cons, c_I, c_J, c_R, c_T, va_rf, hI_wI, hJ_wJ, hR_wR, hI_J, hI_R, hJ_I, hJ_R, hR_I, hR_J, hN_I, hN_J, hN_R, wI_I, wJ_J, upd_at, updL_at, kR_s, Option.toList, List.append_nil, List.nil_append, List.cons_append, if_true, if_false, reduceIte, Bool.false_eq_true, not_true_eq_false, not_false_eq_true, true_and, and_true, false_and, and_false,  Nat.reduceEqDiff, Nat.reduceAdd, Nat.reduceLeDiff]
  exact this
/-- the rows by causes stand, if there are any -/
def cC (h : qH) (a : aS) : Prop := hI h 32 5 = -1 ∨ ∃ t, t < 2 ^ aN a ∧ hI h 32 5 = nI t ∧ bC h a t
noncomputable def biN (a : aS) (t c y : Nat) : Nat := bm (byP (comN a t c) y) (aN a)
theorem c_burntIf {d : Nat} {h : qH} {s t c y : Nat} {a : aS} (F : Fin0 (hR h)) (hf : hR h 32 0 = some s) (w : cS h s a) (k : cC h a) (ht : t < 2 ^ aN a) (hc : c < 2 ^ aN a) (hy : y < 2 ^ 31) : ∃ h', (∀ Q, WM (d + 3) mX0_burntIf [.ref (32 : Nat), .int (nI c), .int (nI t), .int (nI y)] h Q = Q (some (some (.int (nI (biN a t c y))))) h') ∧ sx [32, 33, 34, 36] h h' ∧ (∀ j, j ≠ 5 → hI h' 32 j = hI h 32 j) ∧ hI h' 32 5 = nI t ∧ bC h' a t := by
  have ww := w.2.1
  have t6 := tIx ww ht
  have c6 := tIx ww hc
  by_cases g : hI h 32 5 = nI t
  · have hb : bC h a t := by
      rcases k with k | ⟨t', h1, h2, h3⟩
      · exfalso
        rw [g] at k
        have := nM (x := t) (by omega)
        rw [this] at k
        exact k
      · have t6' := tIx ww h1
        have : t = t' := (nI_eq (by omega) (by omega)).mp (g.symm.trans h2)
        rw [this]; exact h3
    refine ⟨h, fun Q => ?_, sx_refl, fun _ _ => rfl, g, hb⟩
    simp (implicitDefEqProofs := false) only [eX0_burntIf, rX0_burntIf_0, rX0_burntIf_0b, rX0_burntIf_1, rX0_burntIf_4, rX0_burntIf_5, rX0_burntIf_8, rX0_burntIf_8b, rX0_burntIf_9, rX0_burntIf_10, rX0_burntIf_13, rX0_burntIf_13b, rX0_burntIf_14, rX0_burntIf_14b, rX0_burntIf_15, rX0_burntIf_18, rX0_burntIf_19, rX0_burntIf_20, rX0_burntIf_23, fin_32_1 F, fin_32_2 F, fin_32_3 F, fin_32_4 F, kA_32, kB_32, kA_36, kB_36, pCX0_burntIf, pSX0_burntIf, pOX0_burntIf, pLX0_burntIf, pCX0_bitsBy, pSX0_bitsBy, pOX0_bitsBy, pLX0_bitsBy, pCX0_makeCome, pSX0_makeCome, pOX0_makeCome, pLX0_makeCome, g, c_bitsBy (A := 36) (len := 384) F hf w kA_36 kB_36 (by omega) c6.1 (hb c hc) (fun j _ => comN_le ww t c j) hy, kl_I, kl_J, kl_R, kl_T, kl_N, Nat.le_refl, Nat.zero_le, List.map_nil, List.map_cons, List.sum_nil, List.sum_cons, c_I, c_J, c_R, c_T, va_rf, hI_wI, hJ_wJ, hR_wR, hI_J, hI_R, hJ_I, hJ_R, hR_I, hR_J, hN_I, hN_J, hN_R, wI_I, wJ_J, upd_at, updL_at, kR_s, Option.toList, List.append_nil, List.nil_append, List.cons_append, if_true, if_false, reduceIte, Bool.false_eq_true, not_true_eq_false, not_false_eq_true, true_and, and_true, false_and, and_false,  Nat.reduceEqDiff, Nat.reduceAdd, Nat.reduceLeDiff]
    rfl
  · obtain ⟨h', e1, e2, e3⟩ := c_makeCome (d := d) F hf w t6.2
    have F' : Fin0 (hR h') := by rw [e2.1]; exact F
    have hf' : hR h' 32 0 = some s := by rw [e2.1]; exact hf
    have w' : cS h' s a := cS_sx (cS_w (b := 32) w (by omega)) e2 (by simp)
    have e5 : hI h' 32 = upd (hI h 32) 5 (nI t) := by
      rw [e2.2.2.2 32 (by simp), hI_wI, if_pos rfl]
    refine ⟨h', fun Q => ?_, sx_trans (sx_w sx_refl (by simp)) (sx_mono e2 (by simp)), fun j hj => ?_, ?_, e3⟩
    · simp (implicitDefEqProofs := false) only [eX0_burntIf, rX0_burntIf_0, rX0_burntIf_0b, rX0_burntIf_1, rX0_burntIf_4, rX0_burntIf_5, rX0_burntIf_8, rX0_burntIf_8b, rX0_burntIf_9, rX0_burntIf_10, rX0_burntIf_13, rX0_burntIf_13b, rX0_burntIf_14, rX0_burntIf_14b, rX0_burntIf_15, rX0_burntIf_18, rX0_burntIf_19, rX0_burntIf_20, rX0_burntIf_23, fin_32_1 F, fin_32_2 F, fin_32_3 F, fin_32_4 F, fin_32_1 F', fin_32_2 F', fin_32_3 F', fin_32_4 F', kA_32, kB_32, kA_36, kB_36, pCX0_burntIf, pSX0_burntIf, pOX0_burntIf, pLX0_burntIf, pCX0_bitsBy, pSX0_bitsBy, pOX0_bitsBy, pLX0_bitsBy, pCX0_makeCome, pSX0_makeCome, pOX0_makeCome, pLX0_makeCome, g, e1, c_bitsBy (A := 36) (len := 384) F' hf' w' kA_36 kB_36 (by omega) c6.1 (e3 c hc) (fun j _ => comN_le ww t c j) hy, kl_I, kl_J, kl_R, kl_T, kl_N, Nat.le_refl, Nat.zero_le, List.map_nil, List.map_cons, List.sum_nil, List.sum_cons, c_I, c_J, c_R, c_T, va_rf, hI_wI, hJ_wJ, hR_wR, hI_J, hI_R, hJ_I, hJ_R, hR_I, hR_J, hN_I, hN_J, hN_R, wI_I, wJ_J, upd_at, updL_at, kR_s, Option.toList, List.append_nil, List.nil_append, List.cons_append, if_true, if_false, reduceIte, Bool.false_eq_true, not_true_eq_false, not_false_eq_true, true_and, and_true, false_and, and_false,  Nat.reduceEqDiff, Nat.reduceAdd, Nat.reduceLeDiff]
      rfl
    · rw [e5, upd_at, if_neg hj]
    · rw [e5, upd_at, if_pos rfl]
/-- in how many cases just these causes come -/
def wtL (a : aS) (t c : Nat) : Nat → Nat → Nat → Nat
  | 0, _, p => p
  | k + 1, i, p => if i < aN a ∧ ¬ causeN a t i = none then wtL a t c k (i + 1) (p * (if c.testBit i = true then aBy a i else 100 - aBy a i)) else if c.testBit i = true then 0 else wtL a t c k (i + 1) p
def wtN (a : aS) (t c : Nat) : Nat := wtL a t c 6 0 1
theorem oI_none {o : Option Nat} (ho : ∀ x, o = some x → x < 2 ^ 31) : (oI o = -2) = (o = none) := by
  cases o with
  | none => simp [oI]
  | some x => simp only [oI, nN (x := x) (k := 0) (ho x rfl)]; simp
theorem l_weight {d : Nat} {h : qH} {s t c : Nat} {a : aS} {Q : Option (Option Value) → qH → Prop} (F : Fin0 (hR h)) (hf : hR h 32 0 = some s) (w : cS h s a) (ht : t < 64) (hc : c < 64) : ∀ (k i : Nat), i + k = 6 → ∀ (p : Nat) (o6 : Option Value), WP (d + 1) mX0_weight (0, 0) 5 [some (.ref (32 : Nat)), some (.int (nI c)), some (.int (nI t)), some (.long (lN p)), none, some (.int (nI i)), o6] [] h Q = Q (some (some (.long (lN (wtL a t c k i p))))) h := by
  have hs := w.1
  have ww := w.2.1
  have w3 := w.2.2.1
  have w4 := w.2.2.2.1
  have h6 := ww.1
  intro k
  induction k with
  | zero =>
    intro i hi p o6
    obtain rfl : i = 6 := by omega
    simp (implicitDefEqProofs := false) only [rX0_weight_0, rX0_weight_1, rX0_weight_2, rX0_weight_3, rX0_weight_5, rX0_weight_7, rX0_weight_9, rX0_weight_12, rX0_weight_13, rX0_weight_15, rX0_weight_16, rX0_weight_17, rX0_weight_18, rX0_weight_19, rX0_weight_22, rX0_weight_23, rX0_weight_26, rX0_weight_27, rX0_weight_29, rX0_weight_31, rX0_weight_31b, rX0_weight_32, rX0_weight_35, rX0_weight_38, rX0_weight_41, rX0_weight_41b, rX0_weight_42, rX0_weight_45, rX0_weight_47, rX0_weight_48, rX0_weight_51, rX0_weight_53, rX0_weight_56, rX0_weight_57, rX0_weight_59, rX0_weight_62, rX0_weight_62b, rX0_weight_63, rX0_weight_66, rX0_weight_69, rX0_weight_71, rX0_weight_72, rX0_weight_73, rX0_weight_76, rX0_weight_78, rX0_weight_78b, rX0_weight_79, rX0_weight_82, rX0_weight_85, rX0_weight_87, rX0_weight_88, rX0_weight_89, rX0_weight_90, rX0_weight_91, rX0_weight_92, rX0_weight_95, rX0_weight_97, rX0_weight_100, rX0_weight_101, rX0_weight_102, rX0_weight_108, rX0_weight_109, kA_32, kB_32, pCX0_weight, pSX0_weight, pOX0_weight, pLX0_weight, show nI 6 = 6 from rfl, Int32.le_refl, kl_I, kl_J, kl_R, kl_T, kl_N, Nat.le_refl, Nat.zero_le, List.map_nil, List.map_cons, List.sum_nil, List.sum_cons, c_I, c_J, c_R, c_T, va_rf, hI_wI, hJ_wJ, hR_wR, hI_J, hI_R, hJ_I, hJ_R, hR_I, hR_J, hN_I, hN_J, hN_R, wI_I, wJ_J, upd_at, updL_at, kR_s, Option.toList, List.append_nil, List.nil_append, List.cons_append, if_true, if_false, reduceIte, Bool.false_eq_true, not_true_eq_false, not_false_eq_true, true_and, and_true, false_and, and_false,  Nat.reduceEqDiff, Nat.reduceAdd, Nat.reduceLeDiff]
    rfl
  | succ k ih =>
    intro i hi p o6
    have bt := bt_t (t := c) (j := i) (by omega) (by omega)
    have v6 : vp_in (nI i) 6 := nI_vp (by omega) (by decide)
    have cl : (nI i).toNatClampNeg = i := nI_cl (by omega)
    rw [wtL]
    by_cases c1 : i < aN a
    · have g1 : ¬ nI (aN a) ≤ nI i := nI_ge c1 (by omega)
      have e3 := (w4 i c1).2.2.1
      have k3 := (ww.2.2.1 i c1).2.2.1
      have q1 := oI_none (o := causeN a t i) (fun x hx => by have := causeN_le ww c1 hx; omega)
      have m1 : (nI (aBy a i)).toInt64 = lN (aBy a i) := nI_l (by omega)
      have m2 : (100 - nI (aBy a i)).toInt64 = lN (100 - aBy a i) := by
        rw [show (100 : Int32) = nI 100 from rfl, pk_sub (by omega)]
        exact nI_l (by omega)
      by_cases c2 : causeN a t i = none
      · by_cases c3 : c.testBit i = true
        · simp (implicitDefEqProofs := false) only [rX0_weight_0, rX0_weight_1, rX0_weight_2, rX0_weight_3, rX0_weight_5, rX0_weight_7, rX0_weight_9, rX0_weight_12, rX0_weight_13, rX0_weight_15, rX0_weight_16, rX0_weight_17, rX0_weight_18, rX0_weight_19, rX0_weight_22, rX0_weight_23, rX0_weight_26, rX0_weight_27, rX0_weight_29, rX0_weight_31, rX0_weight_31b, rX0_weight_32, rX0_weight_35, rX0_weight_38, rX0_weight_41, rX0_weight_41b, rX0_weight_42, rX0_weight_45, rX0_weight_47, rX0_weight_48, rX0_weight_51, rX0_weight_53, rX0_weight_56, rX0_weight_57, rX0_weight_59, rX0_weight_62, rX0_weight_62b, rX0_weight_63, rX0_weight_66, rX0_weight_69, rX0_weight_71, rX0_weight_72, rX0_weight_73, rX0_weight_76, rX0_weight_78, rX0_weight_78b, rX0_weight_79, rX0_weight_82, rX0_weight_85, rX0_weight_87, rX0_weight_88, rX0_weight_89, rX0_weight_90, rX0_weight_91, rX0_weight_92, rX0_weight_95, rX0_weight_97, rX0_weight_100, rX0_weight_101, rX0_weight_102, rX0_weight_108, rX0_weight_109, kS0 hs, kS1 hs, kT1 hs, fS1 hs F, kS2 hs, kT2 hs, fS2 hs F, kS3 hs, kT3 hs, fS3 hs F, kS4 hs, kT4 hs, fS4 hs F, kS5 hs, kT5 hs, fS5 hs F, kS6 hs, kT6 hs, fS6 hs F, kS7 hs, kT7 hs, fS7 hs F, kS8 hs, kT8 hs, fS8 hs F, kS9 hs, kT9 hs, fS9 hs F, kS10 hs, kT10 hs, fS10 hs F, kS11 hs, kT11 hs, fS11 hs F, nS hs, nSs hs, kA_32, kB_32, hf, pCX0_weight, pSX0_weight, pOX0_weight, pLX0_weight, pCX4_causeOf, pSX4_causeOf, pOX4_causeOf, pLX4_causeOf, w3.2.1, nge (x := i) (k := 6) (c := 6) rfl (by omega) (by omega), show ¬ 6 ≤ i from by omega, g1, bt, c_causeOf F w c1 ht, q1, c1, c2, c3, show oI none = -2 from rfl, show ¬ (1 : Int32) = 0 from by decide, show lN 0 = 0 from rfl, kl_I, kl_J, kl_R, kl_T, kl_N, Nat.le_refl, Nat.zero_le, List.map_nil, List.map_cons, List.sum_nil, List.sum_cons, c_I, c_J, c_R, c_T, va_rf, hI_wI, hJ_wJ, hR_wR, hI_J, hI_R, hJ_I, hJ_R, hR_I, hR_J, hN_I, hN_J, hN_R, wI_I, wJ_J, upd_at, updL_at, kR_s, Option.toList, List.append_nil, List.nil_append, List.cons_append, if_true, if_false, reduceIte, Bool.false_eq_true, not_true_eq_false, not_false_eq_true, true_and, and_true, false_and, and_false,  Nat.reduceEqDiff, Nat.reduceAdd, Nat.reduceLeDiff]
        · simp (implicitDefEqProofs := false) only [rX0_weight_0, rX0_weight_1, rX0_weight_2, rX0_weight_3, rX0_weight_5, rX0_weight_7, rX0_weight_9, rX0_weight_12, rX0_weight_13, rX0_weight_15, rX0_weight_16, rX0_weight_17, rX0_weight_18, rX0_weight_19, rX0_weight_22, rX0_weight_23, rX0_weight_26, rX0_weight_27, rX0_weight_29, rX0_weight_31, rX0_weight_31b, rX0_weight_32, rX0_weight_35, rX0_weight_38, rX0_weight_41, rX0_weight_41b, rX0_weight_42, rX0_weight_45, rX0_weight_47, rX0_weight_48, rX0_weight_51, rX0_weight_53, rX0_weight_56, rX0_weight_57, rX0_weight_59, rX0_weight_62, rX0_weight_62b, rX0_weight_63, rX0_weight_66, rX0_weight_69, rX0_weight_71, rX0_weight_72, rX0_weight_73, rX0_weight_76, rX0_weight_78, rX0_weight_78b, rX0_weight_79, rX0_weight_82, rX0_weight_85, rX0_weight_87, rX0_weight_88, rX0_weight_89, rX0_weight_90, rX0_weight_91, rX0_weight_92, rX0_weight_95, rX0_weight_97, rX0_weight_100, rX0_weight_101, rX0_weight_102, rX0_weight_108, rX0_weight_109, kS0 hs, kS1 hs, kT1 hs, fS1 hs F, kS2 hs, kT2 hs, fS2 hs F, kS3 hs, kT3 hs, fS3 hs F, kS4 hs, kT4 hs, fS4 hs F, kS5 hs, kT5 hs, fS5 hs F, kS6 hs, kT6 hs, fS6 hs F, kS7 hs, kT7 hs, fS7 hs F, kS8 hs, kT8 hs, fS8 hs F, kS9 hs, kT9 hs, fS9 hs F, kS10 hs, kT10 hs, fS10 hs F, kS11 hs, kT11 hs, fS11 hs F, nS hs, nSs hs, kA_32, kB_32, hf, pCX0_weight, pSX0_weight, pOX0_weight, pLX0_weight, pCX4_causeOf, pSX4_causeOf, pOX4_causeOf, pLX4_causeOf, w3.2.1, nge (x := i) (k := 6) (c := 6) rfl (by omega) (by omega), show ¬ 6 ≤ i from by omega, g1, bt, c_causeOf F w c1 ht, q1, c1, c2, c3, show oI none = -2 from rfl, show ¬ (0 : Int32) = 1 from by decide, kl_I, kl_J, kl_R, kl_T, kl_N, Nat.le_refl, Nat.zero_le, List.map_nil, List.map_cons, List.sum_nil, List.sum_cons, c_I, c_J, c_R, c_T, va_rf, hI_wI, hJ_wJ, hR_wR, hI_J, hI_R, hJ_I, hJ_R, hR_I, hR_J, hN_I, hN_J, hN_R, wI_I, wJ_J, upd_at, updL_at, kR_s, Option.toList, List.append_nil, List.nil_append, List.cons_append, if_true, if_false, reduceIte, Bool.false_eq_true, not_true_eq_false, not_false_eq_true, true_and, and_true, false_and, and_false,  Nat.reduceEqDiff, Nat.reduceAdd, Nat.reduceLeDiff]
          rw [rX0_weight_105, nI_1]
          exact ih (i + 1) (by omega) p _
      · by_cases c3 : c.testBit i = true
        · simp (implicitDefEqProofs := false) only [rX0_weight_0, rX0_weight_1, rX0_weight_2, rX0_weight_3, rX0_weight_5, rX0_weight_7, rX0_weight_9, rX0_weight_12, rX0_weight_13, rX0_weight_15, rX0_weight_16, rX0_weight_17, rX0_weight_18, rX0_weight_19, rX0_weight_22, rX0_weight_23, rX0_weight_26, rX0_weight_27, rX0_weight_29, rX0_weight_31, rX0_weight_31b, rX0_weight_32, rX0_weight_35, rX0_weight_38, rX0_weight_41, rX0_weight_41b, rX0_weight_42, rX0_weight_45, rX0_weight_47, rX0_weight_48, rX0_weight_51, rX0_weight_53, rX0_weight_56, rX0_weight_57, rX0_weight_59, rX0_weight_62, rX0_weight_62b, rX0_weight_63, rX0_weight_66, rX0_weight_69, rX0_weight_71, rX0_weight_72, rX0_weight_73, rX0_weight_76, rX0_weight_78, rX0_weight_78b, rX0_weight_79, rX0_weight_82, rX0_weight_85, rX0_weight_87, rX0_weight_88, rX0_weight_89, rX0_weight_90, rX0_weight_91, rX0_weight_92, rX0_weight_95, rX0_weight_97, rX0_weight_100, rX0_weight_101, rX0_weight_102, rX0_weight_108, rX0_weight_109, kS0 hs, kS1 hs, kT1 hs, fS1 hs F, kS2 hs, kT2 hs, fS2 hs F, kS3 hs, kT3 hs, fS3 hs F, kS4 hs, kT4 hs, fS4 hs F, kS5 hs, kT5 hs, fS5 hs F, kS6 hs, kT6 hs, fS6 hs F, kS7 hs, kT7 hs, fS7 hs F, kS8 hs, kT8 hs, fS8 hs F, kS9 hs, kT9 hs, fS9 hs F, kS10 hs, kT10 hs, fS10 hs F, kS11 hs, kT11 hs, fS11 hs F, nS hs, nSs hs, kA_32, kB_32, hf, pCX0_weight, pSX0_weight, pOX0_weight, pLX0_weight, pCX4_causeOf, pSX4_causeOf, pOX4_causeOf, pLX4_causeOf, w3.2.1, nge (x := i) (k := 6) (c := 6) rfl (by omega) (by omega), show ¬ 6 ≤ i from by omega, g1, bt, c_causeOf F w c1 ht, q1, c1, c2, c3, show ¬ (1 : Int32) = 0 from by decide, v6, cl, e3, m1, lN_mul, kl_I, kl_J, kl_R, kl_T, kl_N, Nat.le_refl, Nat.zero_le, List.map_nil, List.map_cons, List.sum_nil, List.sum_cons, c_I, c_J, c_R, c_T, va_rf, hI_wI, hJ_wJ, hR_wR, hI_J, hI_R, hJ_I, hJ_R, hR_I, hR_J, hN_I, hN_J, hN_R, wI_I, wJ_J, upd_at, updL_at, kR_s, Option.toList, List.append_nil, List.nil_append, List.cons_append, if_true, if_false, reduceIte, Bool.false_eq_true, not_true_eq_false, not_false_eq_true, true_and, and_true, false_and, and_false,  Nat.reduceEqDiff, Nat.reduceAdd, Nat.reduceLeDiff]
          rw [rX0_weight_105, nI_1]
          exact ih (i + 1) (by omega) _ _
        · simp (implicitDefEqProofs := false) only [rX0_weight_0, rX0_weight_1, rX0_weight_2, rX0_weight_3, rX0_weight_5, rX0_weight_7, rX0_weight_9, rX0_weight_12, rX0_weight_13, rX0_weight_15, rX0_weight_16, rX0_weight_17, rX0_weight_18, rX0_weight_19, rX0_weight_22, rX0_weight_23, rX0_weight_26, rX0_weight_27, rX0_weight_29, rX0_weight_31, rX0_weight_31b, rX0_weight_32, rX0_weight_35, rX0_weight_38, rX0_weight_41, rX0_weight_41b, rX0_weight_42, rX0_weight_45, rX0_weight_47, rX0_weight_48, rX0_weight_51, rX0_weight_53, rX0_weight_56, rX0_weight_57, rX0_weight_59, rX0_weight_62, rX0_weight_62b, rX0_weight_63, rX0_weight_66, rX0_weight_69, rX0_weight_71, rX0_weight_72, rX0_weight_73, rX0_weight_76, rX0_weight_78, rX0_weight_78b, rX0_weight_79, rX0_weight_82, rX0_weight_85, rX0_weight_87, rX0_weight_88, rX0_weight_89, rX0_weight_90, rX0_weight_91, rX0_weight_92, rX0_weight_95, rX0_weight_97, rX0_weight_100, rX0_weight_101, rX0_weight_102, rX0_weight_108, rX0_weight_109, kS0 hs, kS1 hs, kT1 hs, fS1 hs F, kS2 hs, kT2 hs, fS2 hs F, kS3 hs, kT3 hs, fS3 hs F, kS4 hs, kT4 hs, fS4 hs F, kS5 hs, kT5 hs, fS5 hs F, kS6 hs, kT6 hs, fS6 hs F, kS7 hs, kT7 hs, fS7 hs F, kS8 hs, kT8 hs, fS8 hs F, kS9 hs, kT9 hs, fS9 hs F, kS10 hs, kT10 hs, fS10 hs F, kS11 hs, kT11 hs, fS11 hs F, nS hs, nSs hs, kA_32, kB_32, hf, pCX0_weight, pSX0_weight, pOX0_weight, pLX0_weight, pCX4_causeOf, pSX4_causeOf, pOX4_causeOf, pLX4_causeOf, w3.2.1, nge (x := i) (k := 6) (c := 6) rfl (by omega) (by omega), show ¬ 6 ≤ i from by omega, g1, bt, c_causeOf F w c1 ht, q1, c1, c2, c3, show ¬ (0 : Int32) = 1 from by decide, v6, cl, e3, m2, lN_mul, kl_I, kl_J, kl_R, kl_T, kl_N, Nat.le_refl, Nat.zero_le, List.map_nil, List.map_cons, List.sum_nil, List.sum_cons, c_I, c_J, c_R, c_T, va_rf, hI_wI, hJ_wJ, hR_wR, hI_J, hI_R, hJ_I, hJ_R, hR_I, hR_J, hN_I, hN_J, hN_R, wI_I, wJ_J, upd_at, updL_at, kR_s, Option.toList, List.append_nil, List.nil_append, List.cons_append, if_true, if_false, reduceIte, Bool.false_eq_true, not_true_eq_false, not_false_eq_true, true_and, and_true, false_and, and_false,  Nat.reduceEqDiff, Nat.reduceAdd, Nat.reduceLeDiff]
          rw [rX0_weight_105, nI_1]
          exact ih (i + 1) (by omega) _ _
    · have g1 : nI (aN a) ≤ nI i := nI_le (by omega) (by omega)
      by_cases c3 : c.testBit i = true
      · simp (implicitDefEqProofs := false) only [rX0_weight_0, rX0_weight_1, rX0_weight_2, rX0_weight_3, rX0_weight_5, rX0_weight_7, rX0_weight_9, rX0_weight_12, rX0_weight_13, rX0_weight_15, rX0_weight_16, rX0_weight_17, rX0_weight_18, rX0_weight_19, rX0_weight_22, rX0_weight_23, rX0_weight_26, rX0_weight_27, rX0_weight_29, rX0_weight_31, rX0_weight_31b, rX0_weight_32, rX0_weight_35, rX0_weight_38, rX0_weight_41, rX0_weight_41b, rX0_weight_42, rX0_weight_45, rX0_weight_47, rX0_weight_48, rX0_weight_51, rX0_weight_53, rX0_weight_56, rX0_weight_57, rX0_weight_59, rX0_weight_62, rX0_weight_62b, rX0_weight_63, rX0_weight_66, rX0_weight_69, rX0_weight_71, rX0_weight_72, rX0_weight_73, rX0_weight_76, rX0_weight_78, rX0_weight_78b, rX0_weight_79, rX0_weight_82, rX0_weight_85, rX0_weight_87, rX0_weight_88, rX0_weight_89, rX0_weight_90, rX0_weight_91, rX0_weight_92, rX0_weight_95, rX0_weight_97, rX0_weight_100, rX0_weight_101, rX0_weight_102, rX0_weight_108, rX0_weight_109, kS0 hs, kS1 hs, kT1 hs, fS1 hs F, kS2 hs, kT2 hs, fS2 hs F, kS3 hs, kT3 hs, fS3 hs F, kS4 hs, kT4 hs, fS4 hs F, kS5 hs, kT5 hs, fS5 hs F, kS6 hs, kT6 hs, fS6 hs F, kS7 hs, kT7 hs, fS7 hs F, kS8 hs, kT8 hs, fS8 hs F, kS9 hs, kT9 hs, fS9 hs F, kS10 hs, kT10 hs, fS10 hs F, kS11 hs, kT11 hs, fS11 hs F, nS hs, nSs hs, kA_32, kB_32, hf, pCX0_weight, pSX0_weight, pOX0_weight, pLX0_weight, pCX4_causeOf, pSX4_causeOf, pOX4_causeOf, pLX4_causeOf, w3.2.1, nge (x := i) (k := 6) (c := 6) rfl (by omega) (by omega), show ¬ 6 ≤ i from by omega, g1, bt, c1, c3, show ¬ (1 : Int32) = 0 from by decide, show lN 0 = 0 from rfl, kl_I, kl_J, kl_R, kl_T, kl_N, Nat.le_refl, Nat.zero_le, List.map_nil, List.map_cons, List.sum_nil, List.sum_cons, c_I, c_J, c_R, c_T, va_rf, hI_wI, hJ_wJ, hR_wR, hI_J, hI_R, hJ_I, hJ_R, hR_I, hR_J, hN_I, hN_J, hN_R, wI_I, wJ_J, upd_at, updL_at, kR_s, Option.toList, List.append_nil, List.nil_append, List.cons_append, if_true, if_false, reduceIte, Bool.false_eq_true, not_true_eq_false, not_false_eq_true, true_and, and_true, false_and, and_false,  Nat.reduceEqDiff, Nat.reduceAdd, Nat.reduceLeDiff]
      · simp (implicitDefEqProofs := false) only [rX0_weight_0, rX0_weight_1, rX0_weight_2, rX0_weight_3, rX0_weight_5, rX0_weight_7, rX0_weight_9, rX0_weight_12, rX0_weight_13, rX0_weight_15, rX0_weight_16, rX0_weight_17, rX0_weight_18, rX0_weight_19, rX0_weight_22, rX0_weight_23, rX0_weight_26, rX0_weight_27, rX0_weight_29, rX0_weight_31, rX0_weight_31b, rX0_weight_32, rX0_weight_35, rX0_weight_38, rX0_weight_41, rX0_weight_41b, rX0_weight_42, rX0_weight_45, rX0_weight_47, rX0_weight_48, rX0_weight_51, rX0_weight_53, rX0_weight_56, rX0_weight_57, rX0_weight_59, rX0_weight_62, rX0_weight_62b, rX0_weight_63, rX0_weight_66, rX0_weight_69, rX0_weight_71, rX0_weight_72, rX0_weight_73, rX0_weight_76, rX0_weight_78, rX0_weight_78b, rX0_weight_79, rX0_weight_82, rX0_weight_85, rX0_weight_87, rX0_weight_88, rX0_weight_89, rX0_weight_90, rX0_weight_91, rX0_weight_92, rX0_weight_95, rX0_weight_97, rX0_weight_100, rX0_weight_101, rX0_weight_102, rX0_weight_108, rX0_weight_109, kS0 hs, kS1 hs, kT1 hs, fS1 hs F, kS2 hs, kT2 hs, fS2 hs F, kS3 hs, kT3 hs, fS3 hs F, kS4 hs, kT4 hs, fS4 hs F, kS5 hs, kT5 hs, fS5 hs F, kS6 hs, kT6 hs, fS6 hs F, kS7 hs, kT7 hs, fS7 hs F, kS8 hs, kT8 hs, fS8 hs F, kS9 hs, kT9 hs, fS9 hs F, kS10 hs, kT10 hs, fS10 hs F, kS11 hs, kT11 hs, fS11 hs F, nS hs, nSs hs, kA_32, kB_32, hf, pCX0_weight, pSX0_weight, pOX0_weight, pLX0_weight, pCX4_causeOf, pSX4_causeOf, pOX4_causeOf, pLX4_causeOf, w3.2.1, nge (x := i) (k := 6) (c := 6) rfl (by omega) (by omega), show ¬ 6 ≤ i from by omega, g1, bt, c1, c3, show ¬ (0 : Int32) = 1 from by decide, kl_I, kl_J, kl_R, kl_T, kl_N, Nat.le_refl, Nat.zero_le, List.map_nil, List.map_cons, List.sum_nil, List.sum_cons, c_I, c_J, c_R, c_T, va_rf, hI_wI, hJ_wJ, hR_wR, hI_J, hI_R, hJ_I, hJ_R, hR_I, hR_J, hN_I, hN_J, hN_R, wI_I, wJ_J, upd_at, updL_at, kR_s, Option.toList, List.append_nil, List.nil_append, List.cons_append, if_true, if_false, reduceIte, Bool.false_eq_true, not_true_eq_false, not_false_eq_true, true_and, and_true, false_and, and_false,  Nat.reduceEqDiff, Nat.reduceAdd, Nat.reduceLeDiff]
        rw [rX0_weight_105, nI_1]
        exact ih (i + 1) (by omega) p _
theorem c_weight {d : Nat} {h : qH} {s t c : Nat} {a : aS} (F : Fin0 (hR h)) (hf : hR h 32 0 = some s) (w : cS h s a) (ht : t < 64) (hc : c < 64) : ∀ Q, WM (d + 1) mX0_weight [.ref (32 : Nat), .int (nI c), .int (nI t)] h Q = Q (some (some (.long (lN (wtN a t c))))) h := by
  intro Q
  simp (implicitDefEqProofs := false) only [eX0_weight, rX0_weight_0, rX0_weight_1, rX0_weight_2, rX0_weight_3, kl_I, kl_J, kl_R, kl_T, kl_N, Nat.le_refl, Nat.zero_le, List.map_nil, List.map_cons, List.sum_nil, List.sum_cons, c_I, c_J, c_R, c_T, va_rf, hI_wI, hJ_wJ, hR_wR, hI_J, hI_R, hJ_I, hJ_R, hR_I, hR_J, hN_I, hN_J, hN_R, wI_I, wJ_J, upd_at, updL_at, kR_s, Option.toList, List.append_nil, List.nil_append, List.cons_append, if_true, if_false, reduceIte, Bool.false_eq_true, not_true_eq_false, not_false_eq_true, true_and, and_true, false_and, and_false,  Nat.reduceEqDiff, Nat.reduceAdd, Nat.reduceLeDiff]
  exact l_weight F hf w ht hc 6 0 (by omega) 1 none
