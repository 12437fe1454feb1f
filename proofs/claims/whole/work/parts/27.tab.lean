/-! ===== all rows are made ===== -/
/-- nothing has changed but ints of some cells -/
def sx (L : List Nat) (h h' : qH) : Prop := hR h' = hR h ∧ hJ h' = hJ h ∧ hN h' = hN h ∧ ∀ b, b ∉ L → hI h' b = hI h b
theorem sx_refl {L : List Nat} {h : qH} : sx L h h := ⟨rfl, rfl, rfl, fun _ _ => rfl⟩
theorem sx_trans {L : List Nat} {h h1 h2 : qH} (a : sx L h h1) (b : sx L h1 h2) : sx L h h2 := ⟨b.1.trans a.1, b.2.1.trans a.2.1, b.2.2.1.trans a.2.2.1, fun x hx => (b.2.2.2 x hx).trans (a.2.2.2 x hx)⟩
theorem sx_w {L : List Nat} {h h1 : qH} {b : Nat} {f : Nat → Int32} (a : sx L h h1) (hb : b ∈ L) : sx L h (wI h1 b f) := ⟨a.1, a.2.1, a.2.2.1, fun x hx => by
  rw [hI_wI, if_neg (fun q => hx (by rw [q]; exact hb))]
  exact a.2.2.2 x hx⟩
theorem sx_mono {L K : List Nat} {h h1 : qH} (a : sx L h h1) (hk : ∀ x ∈ L, x ∈ K) : sx K h h1 := ⟨a.1, a.2.1, a.2.2.1, fun x hx => a.2.2.2 x (fun q => hx (hk x q))⟩
theorem cS_sx {L : List Nat} {h h' : qH} {s : Nat} {a : aS} (w : cS h s a) (x : sx L h h') (hL : ∀ b ∈ L, 25 ≤ b) : cS h' s a := by
  refine cS_mv w (fun k hk => x.2.2.2 _ (fun q => ?_))
  have := hL _ q
  rcases w.1 with rfl | rfl <;> omega
theorem Fin_sx {L : List Nat} {h h' : qH} (F : Fin0 (hR h)) (x : sx L h h') : Fin0 (hR h') := by rw [x.1]; exact F
theorem cpy_row {f g : Nat → Int32} {i t j : Nat} (hj : j < 6) : va_cpy f g 0 (i * 6) 6 (t * 6 + j) = if t = i then f j else g (t * 6 + j) := by
  simp only [va_cpy]
  by_cases h : t = i
  · subst h
    rw [if_pos ⟨by omega, by omega⟩, if_pos rfl]
    congr 1
    omega
  · rw [if_neg (by omega), if_neg h]
/-- one row of a table: own causes, the fire, the copy -/
noncomputable def tabH (h : qH) (a : aS) (A i t c : Nat) : qH :=
  wI (wI (wI h 33 (fil (aN a) (fun j => nI (ownN a t c j)) (hI h 33))) 34 (fil 6 (nF (sprN a (cutN a t) none (ownN a t c))) (hI h 34))) A (va_cpy (fil 6 (nF (sprN a (cutN a t) none (ownN a t c))) (hI h 34)) (hI h A) 0 (i * 6) 6)
theorem tabH_sx {h : qH} {a : aS} {A i t c : Nat} : sx [33, 34, A] h (tabH h a A i t c) := sx_w (sx_w (sx_w sx_refl (by simp)) (by simp)) (by simp)
theorem tabH_at {h : qH} {a : aS} {A i t c x j : Nat} (hj : j < 6) : hI (tabH h a A i t c) A (x * 6 + j) = if x = i then nI (sprN a (cutN a t) none (ownN a t c) j) else hI h A (x * 6 + j) := by
  unfold tabH
  rw [hI_wI, if_pos rfl, cpy_row hj, fil_at hj]
  rfl
theorem shl_n {n : Nat} (h : n ≤ 6) : (1 : Int32) <<< (nI n &&& 31) = nI (2 ^ n) := bt_shl (by omega)
set_option maxHeartbeats 2000000 in
theorem l_begin {d : Nat} {s x1 : Nat} {a : aS} : ∀ (k i : Nat), i + k = 2 ^ aN a → ∀ (h : qH) (F : Fin0 (hR h)) (hf : hR h 32 0 = some s) (w : cS h s a) (hb : ∀ t, t < i → ∀ j, j < aN a → hI h 35 (t * 6 + j) = nI (dayN a t j)), ∃ h', (∀ Q, WP (d + 2) mX0_begin (0, 0) 12 [some (.ref (32 : Nat)), some (.ref x1), some (.int (nI i))] [] h Q = Q (some none) h') ∧ sx [33, 34, 35] h h' ∧ bT h' a := by
  intro k
  induction k with
  | zero =>
    intro i hi h F hf w hb
    obtain rfl : i = 2 ^ aN a := by omega
    refine ⟨h, fun Q => ?_, sx_refl, hb⟩
    have h6 := w.2.1.1
    simp (implicitDefEqProofs := false) only [rX0_begin_12, rX0_begin_13, rX0_begin_14, rX0_begin_14b, rX0_begin_15, rX0_begin_18, rX0_begin_21, rX0_begin_22, rX0_begin_25, rX0_begin_25b, rX0_begin_26, rX0_begin_27, rX0_begin_29, rX0_begin_32, rX0_begin_32b, rX0_begin_33, rX0_begin_33b, rX0_begin_34, rX0_begin_37, rX0_begin_38, rX0_begin_41, rX0_begin_42, rX0_begin_45, rX0_begin_45b, rX0_begin_46, rX0_begin_49, rX0_begin_50, rX0_begin_50b, rX0_begin_51, rX0_begin_54, rX0_begin_55, rX0_begin_57, rX0_begin_58, rX0_begin_60, rX0_begin_63, rX0_begin_69, kS0 w.1, kS1 w.1, kT1 w.1, fS1 w.1 F, kS2 w.1, kT2 w.1, fS2 w.1 F, kS3 w.1, kT3 w.1, fS3 w.1 F, kS4 w.1, kT4 w.1, fS4 w.1 F, kS5 w.1, kT5 w.1, fS5 w.1 F, kS6 w.1, kT6 w.1, fS6 w.1 F, kS7 w.1, kT7 w.1, fS7 w.1 F, kS8 w.1, kT8 w.1, fS8 w.1 F, kS9 w.1, kT9 w.1, fS9 w.1 F, kS10 w.1, kT10 w.1, fS10 w.1 F, kS11 w.1, kT11 w.1, fS11 w.1 F, nS w.1, nSs w.1, kA_32, kB_32, hf, pCX0_begin, pSX0_begin, pOX0_begin, pLX0_begin, w.2.2.1.2.1, shl_n h6, Int32.le_refl, kl_I, kl_J, kl_R, kl_T, kl_N, Nat.le_refl, Nat.zero_le, List.map_nil, List.map_cons, List.sum_nil, List.sum_cons, c_I, c_J, c_R, c_T, va_rf, hI_wI, hJ_wJ, hR_wR, hI_J, hI_R, hJ_I, hJ_R, hR_I, hR_J, hN_I, hN_J, hN_R, wI_I, wJ_J, upd_at, updL_at, kR_s, Option.toList, List.append_nil, List.nil_append, List.cons_append, if_true, if_false, reduceIte, Bool.false_eq_true, not_true_eq_false, not_false_eq_true, true_and, and_true, false_and, and_false,  Nat.reduceEqDiff, Nat.reduceAdd, Nat.reduceLeDiff]
  | succ k ih =>
    intro i hi h F hf w hb
    have hs := w.1
    have ww := w.2.1
    have w3 := w.2.2.1
    have h6 := ww.1
    have h64 := p6 h6
    have g1 : ¬ nI (2 ^ aN a) ≤ nI i := nI_ge (by omega) (by omega)
    have hsx := tabH_sx (h := h) (a := a) (A := 35) (i := i) (t := i) (c := 63)
    obtain ⟨h', e1, e2, e3⟩ := ih (i + 1) (by omega) (tabH h a 35 i i 63) (Fin_sx F hsx) (by rw [hsx.1]; exact hf) (cS_sx w hsx (by simp)) (fun t ht j hj => by
      rw [tabH_at (by omega)]
      split
      · rename_i q; rw [q]; rfl
      · exact hb t (by omega) j hj)
    refine ⟨h', fun Q => ?_, sx_trans hsx e2, e3⟩
    have w1 : cS (wI h 33 (fil (aN a) (fun j => nI (ownN a i 63 j)) (hI h 33))) s a := cS_w w (by omega)
    have hv : ∀ j, j < aN a → hI (wI h 33 (fil (aN a) (fun j => nI (ownN a i 63 j)) (hI h 33))) 33 j = nI (ownN a i 63 j) := fun j hj => by rw [hI_wI, if_pos rfl, fil_at hj]
    have cs := c_causes (d := d) (c := 63) F hf w (show i < 64 from by omega) (by omega)
    have cc := c_cutBy (d := d + 1) (t := i) (show Fin0 (hR (wI h 33 (fil (aN a) (fun j => nI (ownN a i 63 j)) (hI h 33)))) from F) w1 (show i < 64 from by omega)
    have cp := c_spread (d := d + 1) (wo := none) (show Fin0 (hR (wI h 33 (fil (aN a) (fun j => nI (ownN a i 63 j)) (hI h 33)))) from F) hf w1 (cutN_lt ww i) (fun x hx => by cases hx) hv (fun j hj => ownN_le ww hj)
    simp only [mI] at cp
    have e6 : nI i * 6 = nI (i * 6) := by rw [show (6 : Int32) = nI 6 from rfl, nI_mul]
    have l1 : (nI (i * 6)).toNatClampNeg = i * 6 := nI_cl (by omega)
    have l2 : i * 6 + 6 ≤ 384 := by omega
    have e7 := e1 Q
    unfold tabH at e7
    rw [← nI_1] at e7
    simp (implicitDefEqProofs := false) only [rX0_begin_12, rX0_begin_13, rX0_begin_14, rX0_begin_14b, rX0_begin_15, rX0_begin_18, rX0_begin_21, rX0_begin_22, rX0_begin_25, rX0_begin_25b, rX0_begin_26, rX0_begin_27, rX0_begin_29, rX0_begin_32, rX0_begin_32b, rX0_begin_33, rX0_begin_33b, rX0_begin_34, rX0_begin_37, rX0_begin_38, rX0_begin_41, rX0_begin_42, rX0_begin_45, rX0_begin_45b, rX0_begin_46, rX0_begin_49, rX0_begin_50, rX0_begin_50b, rX0_begin_51, rX0_begin_54, rX0_begin_55, rX0_begin_57, rX0_begin_58, rX0_begin_60, rX0_begin_63, kS0 hs, kS1 hs, kT1 hs, fS1 hs F, kS2 hs, kT2 hs, fS2 hs F, kS3 hs, kT3 hs, fS3 hs F, kS4 hs, kT4 hs, fS4 hs F, kS5 hs, kT5 hs, fS5 hs F, kS6 hs, kT6 hs, fS6 hs F, kS7 hs, kT7 hs, fS7 hs F, kS8 hs, kT8 hs, fS8 hs F, kS9 hs, kT9 hs, fS9 hs F, kS10 hs, kT10 hs, fS10 hs F, kS11 hs, kT11 hs, fS11 hs F, nS hs, nSs hs, fin_32_1 F, fin_32_2 F, fin_32_3 F, fin_32_4 F, kA_32, kB_32, kA_33, kB_33, kA_34, kB_34, kA_35, kB_35, hf, pCX0_begin, pSX0_begin, pOX0_begin, pLX0_begin, pCX0_causes, pSX0_causes, pOX0_causes, pLX0_causes, pCX4_cutBy, pSX4_cutBy, pOX4_cutBy, pLX4_cutBy, pCX0_spread, pSX0_spread, pOX0_spread, pLX0_spread, w3.2.1, shl_n h6, g1, show (63 : Int32) = nI 63 from rfl, cs, cc, cp, e6, nneg (x := i * 6) (by omega), l1, l2, show (6 : Int32).toNatClampNeg = 6 from rfl, show (0 : Int32).toNatClampNeg = 0 from rfl, show ¬ (0 : Int32) < 0 from by decide, show ¬ (6 : Int32) < 0 from by decide, rX0_begin_66, e7, kl_I, kl_J, kl_R, kl_T, kl_N, Nat.le_refl, Nat.zero_le, List.map_nil, List.map_cons, List.sum_nil, List.sum_cons, c_I, c_J, c_R, c_T, va_rf, hI_wI, hJ_wJ, hR_wR, hI_J, hI_R, hJ_I, hJ_R, hR_I, hR_J, hN_I, hN_J, hN_R, wI_I, wJ_J, upd_at, updL_at, kR_s, Option.toList, List.append_nil, List.nil_append, List.cons_append, if_true, if_false, reduceIte, Bool.false_eq_true, not_true_eq_false, not_false_eq_true, true_and, and_true, false_and, and_false,  Nat.reduceEqDiff, Nat.reduceAdd, Nat.reduceLeDiff]
