/-! ===== the model: fires ===== -/
def f9 (r : Nat → Nat) : Nat → Int32 := fun j => nI (n9 (r j))
theorem f9_up {r : Nat → Nat} {k v : Nat} (hv : v < 1000) : upd (f9 r) k (nI v) = f9 (va_up r k v) := by
  funext j
  simp only [upd_at, f9, va_up]
  split
  · rw [show n9 v = v from if_neg (by omega)]
  · rfl
theorem fil_cg {n : Nat} {f g k : Nat → Int32} (h : ∀ j, j < n → f j = g j) : fil n f k = fil n g k := by
  funext j
  simp only [fil]
  split
  · rename_i q; exact h j q
  · rfl
theorem row0_cg {a : aS} {own own' : Nat → Nat} (h : ∀ j, j < aN a → own j = own' j) : row0 a own = row0 a own' := by
  funext j
  simp only [row0]
  split
  · rename_i q; exact h j q
  · rfl
theorem spr_cg {a : aS} {cut : Nat} {wo : Option Nat} {own own' : Nat → Nat} (h : ∀ j, j < aN a → own j = own' j) : sprN a cut wo own = sprN a cut wo own' := by
  unfold sprN
  rw [row0_cg h]
theorem it_uni {a : aS} (w : aW a) {cut : Nat} {wo : Option Nat} {r : Nat → Nat} {k : Nat} (h : fxd a cut wo (itN a cut wo r k)) : itN a cut wo r k = itN a cut wo r 6 := by
  have st : ∀ {k : Nat}, fxd a cut wo (itN a cut wo r k) → ∀ m, itN a cut wo r (k + m) = itN a cut wo r k := by
    intro k h m
    induction m with
    | zero => rfl
    | succ m ih =>
      rw [← Nat.add_assoc, it_fix (by rw [ih]; exact h), ih]
  by_cases c : k ≤ 6
  · have := st h (6 - k)
    rw [show k + (6 - k) = 6 by omega] at this
    exact this.symm
  · have := st (six w (cut := cut) (wo := wo) (r := r)) (k - 6)
    rw [show 6 + (k - 6) = k by omega] at this
    exact this
theorem ras_fn {a : aS} (w : aW a) {cut : Nat} {wo : Option Nat} : ∀ (k i : Nat) (r : (Nat → Nat) × Bool), i + k ≤ aSp a → rk r.1 → fnB a r.1 → fnB a (ras a cut wo k i r).1
  | 0, _, _, _, _, h => h
  | k + 1, i, r, hi, h1, h2 => ras_fn w k (i + 1) _ (by omega) (rlx_k h1) (rlx_fn w (by omega) h1 h2)
theorem it_rk {a : aS} {cut : Nat} {wo : Option Nat} {r : Nat → Nat} (h : rk r) : ∀ k, rk (itN a cut wo r k)
  | 0 => h
  | k + 1 => ras_k _ _ (it_rk h k)
theorem it_fn {a : aS} (w : aW a) {cut : Nat} {wo : Option Nat} {r : Nat → Nat} (h : rk r) (f : fnB a r) : ∀ k, fnB a (itN a cut wo r k)
  | 0 => f
  | k + 1 => ras_fn w _ _ _ (by omega) (it_rk h k) (it_fn w h f k)
def own6 (a : aS) (own : Nat → Nat) : Prop := ∀ j, j < aN a → own j = 1000 ∨ own j ≤ 60
theorem own6_le {a : aS} {own : Nat → Nat} (h : own6 a own) : ∀ j, j < aN a → own j ≤ 1000 := fun j hj => by rcases h j hj with q | q <;> omega
theorem spr_fn {a : aS} (w : aW a) {cut : Nat} {wo : Option Nat} {own : Nat → Nat} (h : own6 a own) : fnB a (sprN a cut wo own) := by
  rw [spr_it]
  exact it_fn w (row0_k (own6_le h)) (row0_fn h) 6
theorem l_ba1 {d : Nat} {h : qH} {s : Nat} {a : aS} {own : Nat → Nat} {o2 o3 : Option Value} (F : Fin0 (hR h)) (r : hR h 44 3 = some s) (w : mSt h s a) (hx : ∀ j, j < aN a → hI h 47 j = oI (shN (own j))) (ho : own6 a own) {Q : Option (Option Value) → qH → Prop} : ∀ (k i : Nat), i + k = aN a → WP d mX9_burnsAll (0, 0) 2 [some (.ref (44 : Nat)), some (.int (nI i)), o2, o3] [] (wI h 50 (fil i (f9 own) (hI h 50))) Q = WP d mX9_burnsAll (0, 0) 48 [some (.ref (44 : Nat)), some (.int (nI (aN a))), o2, o3] [] (wI h 50 (fil (aN a) (f9 own) (hI h 50))) Q := by
  have hs := w.1
  have h6 := w.2.2.1.1
  have e1 := w.2.2.2.1.2.1
  intro k
  induction k with
  | zero =>
    intro i hi
    obtain rfl : i = aN a := by omega
    simp (implicitDefEqProofs := false) only [rX9_burnsAll_2, rX9_burnsAll_3, rX9_burnsAll_3b, rX9_burnsAll_4, rX9_burnsAll_7, rX9_burnsAll_10, rX9_burnsAll_13, rX9_burnsAll_13b, rX9_burnsAll_14, rX9_burnsAll_17, rX9_burnsAll_18, rX9_burnsAll_18b, rX9_burnsAll_19, rX9_burnsAll_22, rX9_burnsAll_23, rX9_burnsAll_24, rX9_burnsAll_26, rX9_burnsAll_29, rX9_burnsAll_32, rX9_burnsAll_35, rX9_burnsAll_35b, rX9_burnsAll_36, rX9_burnsAll_39, rX9_burnsAll_40, rX9_burnsAll_41, kA_44, kB_44, kA_47, kB_47, kA_50, kB_50, fin_44_5 F, fin_44_15 F, fin_44_16 F, fin_44_17 F, fin_44_18 F, fin_44_21 F, fin_44_23 F, fin_44_24 F, fin_44_25 F, fin_44_29 F, fin_44_33 F, kU0 hs, nU hs, r, e1, pCX9_burnsAll, pSX9_burnsAll, pOX9_burnsAll, pLX9_burnsAll, Int32.le_refl, kl_I, kl_J, kl_R, kl_T, kl_N, Nat.le_refl, Nat.zero_le, List.map_nil, List.map_cons, List.sum_nil, List.sum_cons, c_I, c_J, c_R, c_T, va_rf, hI_wI, hJ_wJ, hR_wR, hI_J, hI_R, hJ_I, hJ_R, hR_I, hR_J, hN_I, hN_J, hN_R, wI_I, wJ_J, upd_at, updL_at, kR_s, Option.toList, List.append_nil, List.nil_append, List.cons_append, if_true, if_false, reduceIte, Bool.false_eq_true, not_true_eq_false, not_false_eq_true, true_and, and_true, false_and, and_false, true_or, or_true,  Nat.reduceEqDiff, Nat.reduceAdd, Nat.reduceLeDiff]
  | succ k ih =>
    intro i hi
    have hlt : i < aN a := by omega
    have g1 : ¬ nI (aN a) ≤ nI i := nI_ge hlt (by omega)
    have v6 : vp_in (nI i) 6 := nI_vp (by omega) (by decide)
    have v10 : vp_in (nI i) 10 := nI_vp (by omega) (by decide)
    have cl : (nI i).toNatClampNeg = i := nI_cl (by omega)
    have i1 := ih (i + 1) (by omega)
    have ox := hx i hlt
    have o6 := ho i hlt
    rw [← fil_s] at i1
    by_cases c : 1000 ≤ own i
    · have e2 : oI (shN (own i)) = -2 := by simp [shN, c, oI]
      have e3 : f9 own i = 9999 := by simp [f9, n9, c]; rfl
      rw [e3] at i1
      rw [e2] at ox
      simp (implicitDefEqProofs := false) only [rX9_burnsAll_2, rX9_burnsAll_3, rX9_burnsAll_3b, rX9_burnsAll_4, rX9_burnsAll_7, rX9_burnsAll_10, rX9_burnsAll_13, rX9_burnsAll_13b, rX9_burnsAll_14, rX9_burnsAll_17, rX9_burnsAll_18, rX9_burnsAll_18b, rX9_burnsAll_19, rX9_burnsAll_22, rX9_burnsAll_23, rX9_burnsAll_24, rX9_burnsAll_26, rX9_burnsAll_29, rX9_burnsAll_32, rX9_burnsAll_35, rX9_burnsAll_35b, rX9_burnsAll_36, rX9_burnsAll_39, rX9_burnsAll_40, rX9_burnsAll_41, kA_44, kB_44, kA_47, kB_47, kA_50, kB_50, fin_44_5 F, fin_44_15 F, fin_44_16 F, fin_44_17 F, fin_44_18 F, fin_44_21 F, fin_44_23 F, fin_44_24 F, fin_44_25 F, fin_44_29 F, fin_44_33 F, kU0 hs, nU hs, r, e1, g1, v6, v10, cl, ox, pCX9_burnsAll, pSX9_burnsAll, pOX9_burnsAll, pLX9_burnsAll, kl_I, kl_J, kl_R, kl_T, kl_N, Nat.le_refl, Nat.zero_le, List.map_nil, List.map_cons, List.sum_nil, List.sum_cons, c_I, c_J, c_R, c_T, va_rf, hI_wI, hJ_wJ, hR_wR, hI_J, hI_R, hJ_I, hJ_R, hR_I, hR_J, hN_I, hN_J, hN_R, wI_I, wJ_J, upd_at, updL_at, kR_s, Option.toList, List.append_nil, List.nil_append, List.cons_append, if_true, if_false, reduceIte, Bool.false_eq_true, not_true_eq_false, not_false_eq_true, true_and, and_true, false_and, and_false, true_or, or_true,  Nat.reduceEqDiff, Nat.reduceAdd, Nat.reduceLeDiff]
      rw [rX9_burnsAll_42, nI_1]
      simp (implicitDefEqProofs := false) only [rX9_burnsAll_45, kl_I, kl_J, kl_R, kl_T, kl_N, Nat.le_refl, Nat.zero_le, List.map_nil, List.map_cons, List.sum_nil, List.sum_cons, c_I, c_J, c_R, c_T, va_rf, hI_wI, hJ_wJ, hR_wR, hI_J, hI_R, hJ_I, hJ_R, hR_I, hR_J, hN_I, hN_J, hN_R, wI_I, wJ_J, upd_at, updL_at, kR_s, Option.toList, List.append_nil, List.nil_append, List.cons_append, if_true, if_false, reduceIte, Bool.false_eq_true, not_true_eq_false, not_false_eq_true, true_and, and_true, false_and, and_false, true_or, or_true,  Nat.reduceEqDiff, Nat.reduceAdd, Nat.reduceLeDiff]
      exact i1
    · have e2 : oI (shN (own i)) = nI (own i) := by simp [shN, c, oI]
      have e3 : f9 own i = nI (own i) := by simp [f9, n9, c]
      rw [e3] at i1
      rw [e2] at ox
      have nn := nN (x := own i) (k := 0) (by omega)
      simp (implicitDefEqProofs := false) only [rX9_burnsAll_2, rX9_burnsAll_3, rX9_burnsAll_3b, rX9_burnsAll_4, rX9_burnsAll_7, rX9_burnsAll_10, rX9_burnsAll_13, rX9_burnsAll_13b, rX9_burnsAll_14, rX9_burnsAll_17, rX9_burnsAll_18, rX9_burnsAll_18b, rX9_burnsAll_19, rX9_burnsAll_22, rX9_burnsAll_23, rX9_burnsAll_24, rX9_burnsAll_26, rX9_burnsAll_29, rX9_burnsAll_32, rX9_burnsAll_35, rX9_burnsAll_35b, rX9_burnsAll_36, rX9_burnsAll_39, rX9_burnsAll_40, rX9_burnsAll_41, kA_44, kB_44, kA_47, kB_47, kA_50, kB_50, fin_44_5 F, fin_44_15 F, fin_44_16 F, fin_44_17 F, fin_44_18 F, fin_44_21 F, fin_44_23 F, fin_44_24 F, fin_44_25 F, fin_44_29 F, fin_44_33 F, kU0 hs, nU hs, r, e1, g1, v6, v10, cl, ox, nn, pCX9_burnsAll, pSX9_burnsAll, pOX9_burnsAll, pLX9_burnsAll, kl_I, kl_J, kl_R, kl_T, kl_N, Nat.le_refl, Nat.zero_le, List.map_nil, List.map_cons, List.sum_nil, List.sum_cons, c_I, c_J, c_R, c_T, va_rf, hI_wI, hJ_wJ, hR_wR, hI_J, hI_R, hJ_I, hJ_R, hR_I, hR_J, hN_I, hN_J, hN_R, wI_I, wJ_J, upd_at, updL_at, kR_s, Option.toList, List.append_nil, List.nil_append, List.cons_append, if_true, if_false, reduceIte, Bool.false_eq_true, not_true_eq_false, not_false_eq_true, true_and, and_true, false_and, and_false, true_or, or_true,  Nat.reduceEqDiff, Nat.reduceAdd, Nat.reduceLeDiff]
      rw [rX9_burnsAll_42, nI_1]
      simp (implicitDefEqProofs := false) only [rX9_burnsAll_45, kl_I, kl_J, kl_R, kl_T, kl_N, Nat.le_refl, Nat.zero_le, List.map_nil, List.map_cons, List.sum_nil, List.sum_cons, c_I, c_J, c_R, c_T, va_rf, hI_wI, hJ_wJ, hR_wR, hI_J, hI_R, hJ_I, hJ_R, hR_I, hR_J, hN_I, hN_J, hN_R, wI_I, wJ_J, upd_at, updL_at, kR_s, Option.toList, List.append_nil, List.nil_append, List.cons_append, if_true, if_false, reduceIte, Bool.false_eq_true, not_true_eq_false, not_false_eq_true, true_and, and_true, false_and, and_false, true_or, or_true,  Nat.reduceEqDiff, Nat.reduceAdd, Nat.reduceLeDiff]
      exact i1
set_option maxHeartbeats 1000000 in
theorem l_ba2 {d : Nat} {h : qH} {s cut : Nat} {wo : Option Nat} {a : aS} {g : Nat → Int32} (F : Fin0 (hR h)) (r0 : hR h 44 3 = some s) (w : mSt h s a) (hc : cut < 64) (hw : ∀ x, wo = some x → x < 9) (e6 : hI h 47 6 = nI cut) (ec : hI h 44 22 = mI wo) {Q : Option (Option Value) → qH → Prop} : ∀ (k i : Nat), i + k = aSp a → ∀ (r : (Nat → Nat) × Bool) (o3 : Option Value) (_ : rk r.1) (_ : fnB a r.1) (X : Prop), (∀ p3, WP (d + 2) mX9_burnsAll (0, 0) 168 [some (.ref (44 : Nat)), some (.int (bI (ras a cut wo k i r).2)), some (.int (nI (aSp a))), p3] [] (wI h 50 (fil (aN a) (f9 (ras a cut wo k i r).1) g)) Q = X) → WP (d + 2) mX9_burnsAll (0, 0) 58 [some (.ref (44 : Nat)), some (.int (bI r.2)), some (.int (nI i)), o3] [] (wI h 50 (fil (aN a) (f9 r.1) g)) Q = X := by
  have hs := w.1
  have f := w.2.1
  have ww := w.2.2.1
  have h6 := ww.1
  have h9 := ww.2.2.2.2.1
  have e1 := w.2.2.2.1.2.2.1
  intro k
  induction k with
  | zero =>
    intro i hi r o3 _ _ X hX
    obtain rfl : i = aSp a := by omega
    simp (implicitDefEqProofs := false) only [rX9_burnsAll_58, rX9_burnsAll_59, rX9_burnsAll_59b, rX9_burnsAll_60, rX9_burnsAll_63, rX9_burnsAll_66, kA_44, kB_44, kA_47, kB_47, kA_50, kB_50, fin_44_5 F, fin_44_15 F, fin_44_16 F, fin_44_17 F, fin_44_18 F, fin_44_21 F, fin_44_23 F, fin_44_24 F, fin_44_25 F, fin_44_29 F, fin_44_33 F, kU0 hs, nU hs, r0, e1, pCX9_burnsAll, pSX9_burnsAll, pOX9_burnsAll, pLX9_burnsAll, Int32.le_refl, kl_I, kl_J, kl_R, kl_T, kl_N, Nat.le_refl, Nat.zero_le, List.map_nil, List.map_cons, List.sum_nil, List.sum_cons, c_I, c_J, c_R, c_T, va_rf, hI_wI, hJ_wJ, hR_wR, hI_J, hI_R, hJ_I, hJ_R, hR_I, hR_J, hN_I, hN_J, hN_R, wI_I, wJ_J, upd_at, updL_at, kR_s, Option.toList, List.append_nil, List.nil_append, List.cons_append, if_true, if_false, reduceIte, Bool.false_eq_true, not_true_eq_false, not_false_eq_true, true_and, and_true, false_and, and_false, true_or, or_true,  Nat.reduceEqDiff, Nat.reduceAdd, Nat.reduceLeDiff]
    exact hX _
  | succ k ih =>
    intro i hi r o3 hr hf X hX
    have hlt : i < aSp a := by omega
    have g1 : ¬ nI (aSp a) ≤ nI i := nI_ge hlt (by omega)
    have v9 : vp_in (nI i) 9 := nI_vp (by omega) (by decide)
    have cl : (nI i).toNatClampNeg = i := nI_cl (by omega)
    obtain ⟨x1, x2, x3⟩ := w.2.2.2.2.2.1 i hlt
    obtain ⟨k1, k2, k3, k4⟩ := ww.2.2.2.2.2.1 i hlt
    have l1 := lag_le ww hlt
    have u1 : vp_in (nI (aFm a i)) 6 := nI_vp (by omega) (by decide)
    have u2 : vp_in (nI (aTo a i)) 6 := nI_vp (by omega) (by decide)
    have c1 : (nI (aFm a i)).toNatClampNeg = aFm a i := nI_cl (by omega)
    have c2 : (nI (aTo a i)).toNatClampNeg = aTo a i := nI_cl (by omega)
    have f1 : fil (aN a) (f9 r.1) g (aFm a i) = nI (n9 (r.1 (aFm a i))) := fil_at k1
    have f2 : fil (aN a) (f9 r.1) g (aTo a i) = nI (n9 (r.1 (aTo a i))) := fil_at k2
    have b1 := hr (aFm a i)
    have b2 := hr (aTo a i)
    have z1 := n9_b b1
    have z2 := n9_b b2
    have z3 := n9_b l1
    have w1 : mSt (wI h 50 (fil (aN a) (f9 r.1) g)) s a := mSt_w w (by omega)
    have fl := c_flies (d := d) (i := i) (cut := cut) (wo := wo) (show Fin0 (hR (wI h 50 (fil (aN a) (f9 r.1) g))) from F) r0 w1 hlt hc hw (by rw [hI_wI, if_neg (by decide)]; exact e6) (by rw [hI_wI, if_neg (by decide)]; exact ec)
    have tk := c_takes (d := d + 1) (i := i) w1 hlt
    have q1 : (nI (n9 (r.1 (aFm a i))) = 9999) = (1000 ≤ r.1 (aFm a i)) := by
      rw [nq (x := n9 (r.1 (aFm a i))) (k := 9999) (c := 9999) rfl (by omega) (by omega)]
      unfold n9
      apply propext
      split <;> omega
    have q2 : (nI (n9 (r.1 (aFm a i)) + n9 (lagN a i)) < nI (n9 (r.1 (aTo a i)))) = (n9 (r.1 (aFm a i)) + n9 (lagN a i) < n9 (r.1 (aTo a i))) := propext (nI_ltI (by omega) (by omega))
    have i1 := ih (i + 1) (by omega) (rlx a cut wo r i)
    by_cases c : rlC a cut wo r.1 i
    · obtain ⟨d1, d2, d3⟩ := id c
      have hl : lagN a i < 1000 := by omega
      have hfr : ¬ 1000 ≤ r.1 (aFm a i) := by omega
      have e3 : n9 (r.1 (aFm a i)) = r.1 (aFm a i) := if_neg hfr
      have e4 : n9 (lagN a i) = lagN a i := if_neg (by omega)
      have e5 : r.1 (aFm a i) + lagN a i < n9 (r.1 (aTo a i)) := by unfold n9; split <;> omega
      have gg : (¬ wo = some i ∧ cut.testBit (aFm a i) = false ∧ lagN a i < 1000) := ⟨d1, d2, hl⟩
      have k5 := rlx_k (a := a) (cut := cut) (wo := wo) (j := i) hr
      have k6 := rlx_fn ww (cut := cut) (wo := wo) hlt hr hf
      rw [rlx_t c] at i1 k5 k6
      rw [ras, rlx_t c] at hX
      have := i1 (some (.int (nI (r.1 (aFm a i) + lagN a i)))) k5 k6 X hX
      rw [← f9_up (show r.1 (aFm a i) + lagN a i < 1000 from by omega), ← fil_u (f := g) k2] at this
      rw [e3, e4] at q2
      rw [e3] at q1 f1
      rw [e4] at tk
      simp (implicitDefEqProofs := false) only [rX9_burnsAll_58, rX9_burnsAll_59, rX9_burnsAll_59b, rX9_burnsAll_60, rX9_burnsAll_63, rX9_burnsAll_66, rX9_burnsAll_69, rX9_burnsAll_69b, rX9_burnsAll_70, rX9_burnsAll_71, rX9_burnsAll_74, rX9_burnsAll_77, rX9_burnsAll_77b, rX9_burnsAll_78, rX9_burnsAll_81, rX9_burnsAll_81b, rX9_burnsAll_82, rX9_burnsAll_85, rX9_burnsAll_88, rX9_burnsAll_89, rX9_burnsAll_90, rX9_burnsAll_91, rX9_burnsAll_94, rX9_burnsAll_97, rX9_burnsAll_100, rX9_burnsAll_100b, rX9_burnsAll_101, rX9_burnsAll_104, rX9_burnsAll_104b, rX9_burnsAll_105, rX9_burnsAll_108, rX9_burnsAll_111, rX9_burnsAll_112, rX9_burnsAll_113, rX9_burnsAll_114, rX9_burnsAll_114b, rX9_burnsAll_115, rX9_burnsAll_118, rX9_burnsAll_119, rX9_burnsAll_122, rX9_burnsAll_123, rX9_burnsAll_124, rX9_burnsAll_125, rX9_burnsAll_125b, rX9_burnsAll_126, rX9_burnsAll_129, rX9_burnsAll_129b, rX9_burnsAll_130, rX9_burnsAll_133, rX9_burnsAll_136, rX9_burnsAll_137, rX9_burnsAll_138, rX9_burnsAll_139, rX9_burnsAll_142, rX9_burnsAll_145, rX9_burnsAll_145b, rX9_burnsAll_146, rX9_burnsAll_149, rX9_burnsAll_149b, rX9_burnsAll_150, rX9_burnsAll_153, rX9_burnsAll_156, rX9_burnsAll_157, rX9_burnsAll_158, rX9_burnsAll_159, rX9_burnsAll_160, rX9_burnsAll_161, kA_44, kB_44, kA_47, kB_47, kA_50, kB_50, fin_44_5 F, fin_44_15 F, fin_44_16 F, fin_44_17 F, fin_44_18 F, fin_44_21 F, fin_44_23 F, fin_44_24 F, fin_44_25 F, fin_44_29 F, fin_44_33 F, kU0 hs, kU1 hs, kV1 hs, fU1 f, kU2 hs, kV2 hs, fU2 f, kU3 hs, kV3 hs, fU3 f, kU4 hs, kV4 hs, fU4 f, kU5 hs, kV5 hs, fU5 f, kU6 hs, kV6 hs, fU6 f, kU7 hs, kV7 hs, fU7 f, kU8 hs, kV8 hs, fU8 f, kU9 hs, kV9 hs, fU9 f, kU10 hs, kV10 hs, fU10 f, kU11 hs, kV11 hs, fU11 f, kU12 hs, kV12 hs, fU12 f, nU hs, nUk hs, r0, e1, g1, v9, cl, fl, gg, decide_true, bI_t, show ¬ (1 : Int32) = 0 from by decide, x1, x2, u1, u2, c1, c2, f1, f2, q1, hfr, tk, nI_add, q2, e5, pCX9_burnsAll, pSX9_burnsAll, pOX9_burnsAll, pLX9_burnsAll, pCX9_flies, pSX9_flies, pOX9_flies, pLX9_flies, pCX8_takes, pSX8_takes, pOX8_takes, pLX8_takes, kl_I, kl_J, kl_R, kl_T, kl_N, Nat.le_refl, Nat.zero_le, List.map_nil, List.map_cons, List.sum_nil, List.sum_cons, c_I, c_J, c_R, c_T, va_rf, hI_wI, hJ_wJ, hR_wR, hI_J, hI_R, hJ_I, hJ_R, hR_I, hR_J, hN_I, hN_J, hN_R, wI_I, wJ_J, upd_at, updL_at, kR_s, Option.toList, List.append_nil, List.nil_append, List.cons_append, if_true, if_false, reduceIte, Bool.false_eq_true, not_true_eq_false, not_false_eq_true, true_and, and_true, false_and, and_false, true_or, or_true,  Nat.reduceEqDiff, Nat.reduceAdd, Nat.reduceLeDiff]
      rw [rX9_burnsAll_162, nI_1]
      simp (implicitDefEqProofs := false) only [rX9_burnsAll_165, kl_I, kl_J, kl_R, kl_T, kl_N, Nat.le_refl, Nat.zero_le, List.map_nil, List.map_cons, List.sum_nil, List.sum_cons, c_I, c_J, c_R, c_T, va_rf, hI_wI, hJ_wJ, hR_wR, hI_J, hI_R, hJ_I, hJ_R, hR_I, hR_J, hN_I, hN_J, hN_R, wI_I, wJ_J, upd_at, updL_at, kR_s, Option.toList, List.append_nil, List.nil_append, List.cons_append, if_true, if_false, reduceIte, Bool.false_eq_true, not_true_eq_false, not_false_eq_true, true_and, and_true, false_and, and_false, true_or, or_true,  Nat.reduceEqDiff, Nat.reduceAdd, Nat.reduceLeDiff]
      exact this
    · rw [rlx_f c] at i1
      rw [ras, rlx_f c] at hX
      by_cases gg : (¬ wo = some i ∧ cut.testBit (aFm a i) = false ∧ lagN a i < 1000)
      · by_cases hfr : 1000 ≤ r.1 (aFm a i)
        · have := i1 o3 hr hf X hX
          simp (implicitDefEqProofs := false) only [rX9_burnsAll_58, rX9_burnsAll_59, rX9_burnsAll_59b, rX9_burnsAll_60, rX9_burnsAll_63, rX9_burnsAll_66, rX9_burnsAll_69, rX9_burnsAll_69b, rX9_burnsAll_70, rX9_burnsAll_71, rX9_burnsAll_74, rX9_burnsAll_77, rX9_burnsAll_77b, rX9_burnsAll_78, rX9_burnsAll_81, rX9_burnsAll_81b, rX9_burnsAll_82, rX9_burnsAll_85, rX9_burnsAll_88, rX9_burnsAll_89, rX9_burnsAll_90, rX9_burnsAll_91, rX9_burnsAll_94, rX9_burnsAll_97, rX9_burnsAll_100, rX9_burnsAll_100b, rX9_burnsAll_101, rX9_burnsAll_104, rX9_burnsAll_104b, rX9_burnsAll_105, rX9_burnsAll_108, rX9_burnsAll_111, rX9_burnsAll_112, rX9_burnsAll_113, rX9_burnsAll_114, rX9_burnsAll_114b, rX9_burnsAll_115, rX9_burnsAll_118, rX9_burnsAll_119, rX9_burnsAll_122, rX9_burnsAll_123, rX9_burnsAll_124, rX9_burnsAll_125, rX9_burnsAll_125b, rX9_burnsAll_126, rX9_burnsAll_129, rX9_burnsAll_129b, rX9_burnsAll_130, rX9_burnsAll_133, rX9_burnsAll_136, rX9_burnsAll_137, rX9_burnsAll_138, rX9_burnsAll_139, rX9_burnsAll_142, rX9_burnsAll_145, rX9_burnsAll_145b, rX9_burnsAll_146, rX9_burnsAll_149, rX9_burnsAll_149b, rX9_burnsAll_150, rX9_burnsAll_153, rX9_burnsAll_156, rX9_burnsAll_157, rX9_burnsAll_158, rX9_burnsAll_159, rX9_burnsAll_160, rX9_burnsAll_161, kA_44, kB_44, kA_47, kB_47, kA_50, kB_50, fin_44_5 F, fin_44_15 F, fin_44_16 F, fin_44_17 F, fin_44_18 F, fin_44_21 F, fin_44_23 F, fin_44_24 F, fin_44_25 F, fin_44_29 F, fin_44_33 F, kU0 hs, kU1 hs, kV1 hs, fU1 f, kU2 hs, kV2 hs, fU2 f, kU3 hs, kV3 hs, fU3 f, kU4 hs, kV4 hs, fU4 f, kU5 hs, kV5 hs, fU5 f, kU6 hs, kV6 hs, fU6 f, kU7 hs, kV7 hs, fU7 f, kU8 hs, kV8 hs, fU8 f, kU9 hs, kV9 hs, fU9 f, kU10 hs, kV10 hs, fU10 f, kU11 hs, kV11 hs, fU11 f, kU12 hs, kV12 hs, fU12 f, nU hs, nUk hs, r0, e1, g1, v9, cl, fl, gg, decide_true, bI_t, show ¬ (1 : Int32) = 0 from by decide, x1, x2, u1, u2, c1, c2, f1, f2, q1, hfr, pCX9_burnsAll, pSX9_burnsAll, pOX9_burnsAll, pLX9_burnsAll, pCX9_flies, pSX9_flies, pOX9_flies, pLX9_flies, pCX8_takes, pSX8_takes, pOX8_takes, pLX8_takes, kl_I, kl_J, kl_R, kl_T, kl_N, Nat.le_refl, Nat.zero_le, List.map_nil, List.map_cons, List.sum_nil, List.sum_cons, c_I, c_J, c_R, c_T, va_rf, hI_wI, hJ_wJ, hR_wR, hI_J, hI_R, hJ_I, hJ_R, hR_I, hR_J, hN_I, hN_J, hN_R, wI_I, wJ_J, upd_at, updL_at, kR_s, Option.toList, List.append_nil, List.nil_append, List.cons_append, if_true, if_false, reduceIte, Bool.false_eq_true, not_true_eq_false, not_false_eq_true, true_and, and_true, false_and, and_false, true_or, or_true,  Nat.reduceEqDiff, Nat.reduceAdd, Nat.reduceLeDiff]
          rw [rX9_burnsAll_162, nI_1]
          simp (implicitDefEqProofs := false) only [rX9_burnsAll_165, kl_I, kl_J, kl_R, kl_T, kl_N, Nat.le_refl, Nat.zero_le, List.map_nil, List.map_cons, List.sum_nil, List.sum_cons, c_I, c_J, c_R, c_T, va_rf, hI_wI, hJ_wJ, hR_wR, hI_J, hI_R, hJ_I, hJ_R, hR_I, hR_J, hN_I, hN_J, hN_R, wI_I, wJ_J, upd_at, updL_at, kR_s, Option.toList, List.append_nil, List.nil_append, List.cons_append, if_true, if_false, reduceIte, Bool.false_eq_true, not_true_eq_false, not_false_eq_true, true_and, and_true, false_and, and_false, true_or, or_true,  Nat.reduceEqDiff, Nat.reduceAdd, Nat.reduceLeDiff]
          exact this
        · have e3 : n9 (r.1 (aFm a i)) = r.1 (aFm a i) := if_neg hfr
          have e4 : n9 (lagN a i) = lagN a i := if_neg (by omega)
          have b3 := fn_le ww hf k1 (by omega)
          have b4 := lag_10 ww hlt gg.2.2
          have e5 : ¬ r.1 (aFm a i) + lagN a i < n9 (r.1 (aTo a i)) := by
            intro q
            refine c ⟨gg.1, gg.2.1, ?_⟩
            unfold n9 at q
            split at q <;> omega
          have := i1 (some (.int (nI (r.1 (aFm a i) + lagN a i)))) hr hf X hX
          rw [e3, e4] at q2
          rw [e3] at q1 f1
          rw [e4] at tk
          simp (implicitDefEqProofs := false) only [rX9_burnsAll_58, rX9_burnsAll_59, rX9_burnsAll_59b, rX9_burnsAll_60, rX9_burnsAll_63, rX9_burnsAll_66, rX9_burnsAll_69, rX9_burnsAll_69b, rX9_burnsAll_70, rX9_burnsAll_71, rX9_burnsAll_74, rX9_burnsAll_77, rX9_burnsAll_77b, rX9_burnsAll_78, rX9_burnsAll_81, rX9_burnsAll_81b, rX9_burnsAll_82, rX9_burnsAll_85, rX9_burnsAll_88, rX9_burnsAll_89, rX9_burnsAll_90, rX9_burnsAll_91, rX9_burnsAll_94, rX9_burnsAll_97, rX9_burnsAll_100, rX9_burnsAll_100b, rX9_burnsAll_101, rX9_burnsAll_104, rX9_burnsAll_104b, rX9_burnsAll_105, rX9_burnsAll_108, rX9_burnsAll_111, rX9_burnsAll_112, rX9_burnsAll_113, rX9_burnsAll_114, rX9_burnsAll_114b, rX9_burnsAll_115, rX9_burnsAll_118, rX9_burnsAll_119, rX9_burnsAll_122, rX9_burnsAll_123, rX9_burnsAll_124, rX9_burnsAll_125, rX9_burnsAll_125b, rX9_burnsAll_126, rX9_burnsAll_129, rX9_burnsAll_129b, rX9_burnsAll_130, rX9_burnsAll_133, rX9_burnsAll_136, rX9_burnsAll_137, rX9_burnsAll_138, rX9_burnsAll_139, rX9_burnsAll_142, rX9_burnsAll_145, rX9_burnsAll_145b, rX9_burnsAll_146, rX9_burnsAll_149, rX9_burnsAll_149b, rX9_burnsAll_150, rX9_burnsAll_153, rX9_burnsAll_156, rX9_burnsAll_157, rX9_burnsAll_158, rX9_burnsAll_159, rX9_burnsAll_160, rX9_burnsAll_161, kA_44, kB_44, kA_47, kB_47, kA_50, kB_50, fin_44_5 F, fin_44_15 F, fin_44_16 F, fin_44_17 F, fin_44_18 F, fin_44_21 F, fin_44_23 F, fin_44_24 F, fin_44_25 F, fin_44_29 F, fin_44_33 F, kU0 hs, kU1 hs, kV1 hs, fU1 f, kU2 hs, kV2 hs, fU2 f, kU3 hs, kV3 hs, fU3 f, kU4 hs, kV4 hs, fU4 f, kU5 hs, kV5 hs, fU5 f, kU6 hs, kV6 hs, fU6 f, kU7 hs, kV7 hs, fU7 f, kU8 hs, kV8 hs, fU8 f, kU9 hs, kV9 hs, fU9 f, kU10 hs, kV10 hs, fU10 f, kU11 hs, kV11 hs, fU11 f, kU12 hs, kV12 hs, fU12 f, nU hs, nUk hs, r0, e1, g1, v9, cl, fl, gg, decide_true, bI_t, show ¬ (1 : Int32) = 0 from by decide, x1, x2, u1, u2, c1, c2, f1, f2, q1, hfr, tk, nI_add, q2, e5, pCX9_burnsAll, pSX9_burnsAll, pOX9_burnsAll, pLX9_burnsAll, pCX9_flies, pSX9_flies, pOX9_flies, pLX9_flies, pCX8_takes, pSX8_takes, pOX8_takes, pLX8_takes, kl_I, kl_J, kl_R, kl_T, kl_N, Nat.le_refl, Nat.zero_le, List.map_nil, List.map_cons, List.sum_nil, List.sum_cons, c_I, c_J, c_R, c_T, va_rf, hI_wI, hJ_wJ, hR_wR, hI_J, hI_R, hJ_I, hJ_R, hR_I, hR_J, hN_I, hN_J, hN_R, wI_I, wJ_J, upd_at, updL_at, kR_s, Option.toList, List.append_nil, List.nil_append, List.cons_append, if_true, if_false, reduceIte, Bool.false_eq_true, not_true_eq_false, not_false_eq_true, true_and, and_true, false_and, and_false, true_or, or_true,  Nat.reduceEqDiff, Nat.reduceAdd, Nat.reduceLeDiff]
          rw [rX9_burnsAll_162, nI_1]
          simp (implicitDefEqProofs := false) only [rX9_burnsAll_165, kl_I, kl_J, kl_R, kl_T, kl_N, Nat.le_refl, Nat.zero_le, List.map_nil, List.map_cons, List.sum_nil, List.sum_cons, c_I, c_J, c_R, c_T, va_rf, hI_wI, hJ_wJ, hR_wR, hI_J, hI_R, hJ_I, hJ_R, hR_I, hR_J, hN_I, hN_J, hN_R, wI_I, wJ_J, upd_at, updL_at, kR_s, Option.toList, List.append_nil, List.nil_append, List.cons_append, if_true, if_false, reduceIte, Bool.false_eq_true, not_true_eq_false, not_false_eq_true, true_and, and_true, false_and, and_false, true_or, or_true,  Nat.reduceEqDiff, Nat.reduceAdd, Nat.reduceLeDiff]
          exact this
      · have := i1 o3 hr hf X hX
        simp (implicitDefEqProofs := false) only [rX9_burnsAll_58, rX9_burnsAll_59, rX9_burnsAll_59b, rX9_burnsAll_60, rX9_burnsAll_63, rX9_burnsAll_66, rX9_burnsAll_69, rX9_burnsAll_69b, rX9_burnsAll_70, rX9_burnsAll_71, rX9_burnsAll_74, rX9_burnsAll_77, rX9_burnsAll_77b, rX9_burnsAll_78, rX9_burnsAll_81, rX9_burnsAll_81b, rX9_burnsAll_82, rX9_burnsAll_85, rX9_burnsAll_88, rX9_burnsAll_89, rX9_burnsAll_90, rX9_burnsAll_91, rX9_burnsAll_94, rX9_burnsAll_97, rX9_burnsAll_100, rX9_burnsAll_100b, rX9_burnsAll_101, rX9_burnsAll_104, rX9_burnsAll_104b, rX9_burnsAll_105, rX9_burnsAll_108, rX9_burnsAll_111, rX9_burnsAll_112, rX9_burnsAll_113, rX9_burnsAll_114, rX9_burnsAll_114b, rX9_burnsAll_115, rX9_burnsAll_118, rX9_burnsAll_119, rX9_burnsAll_122, rX9_burnsAll_123, rX9_burnsAll_124, rX9_burnsAll_125, rX9_burnsAll_125b, rX9_burnsAll_126, rX9_burnsAll_129, rX9_burnsAll_129b, rX9_burnsAll_130, rX9_burnsAll_133, rX9_burnsAll_136, rX9_burnsAll_137, rX9_burnsAll_138, rX9_burnsAll_139, rX9_burnsAll_142, rX9_burnsAll_145, rX9_burnsAll_145b, rX9_burnsAll_146, rX9_burnsAll_149, rX9_burnsAll_149b, rX9_burnsAll_150, rX9_burnsAll_153, rX9_burnsAll_156, rX9_burnsAll_157, rX9_burnsAll_158, rX9_burnsAll_159, rX9_burnsAll_160, rX9_burnsAll_161, kA_44, kB_44, kA_47, kB_47, kA_50, kB_50, fin_44_5 F, fin_44_15 F, fin_44_16 F, fin_44_17 F, fin_44_18 F, fin_44_21 F, fin_44_23 F, fin_44_24 F, fin_44_25 F, fin_44_29 F, fin_44_33 F, kU0 hs, kU1 hs, kV1 hs, fU1 f, kU2 hs, kV2 hs, fU2 f, kU3 hs, kV3 hs, fU3 f, kU4 hs, kV4 hs, fU4 f, kU5 hs, kV5 hs, fU5 f, kU6 hs, kV6 hs, fU6 f, kU7 hs, kV7 hs, fU7 f, kU8 hs, kV8 hs, fU8 f, kU9 hs, kV9 hs, fU9 f, kU10 hs, kV10 hs, fU10 f, kU11 hs, kV11 hs, fU11 f, kU12 hs, kV12 hs, fU12 f, nU hs, nUk hs, r0, e1, g1, fl, gg, decide_false, bI_f, pCX9_burnsAll, pSX9_burnsAll, pOX9_burnsAll, pLX9_burnsAll, pCX9_flies, pSX9_flies, pOX9_flies, pLX9_flies, pCX8_takes, pSX8_takes, pOX8_takes, pLX8_takes, kl_I, kl_J, kl_R, kl_T, kl_N, Nat.le_refl, Nat.zero_le, List.map_nil, List.map_cons, List.sum_nil, List.sum_cons, c_I, c_J, c_R, c_T, va_rf, hI_wI, hJ_wJ, hR_wR, hI_J, hI_R, hJ_I, hJ_R, hR_I, hR_J, hN_I, hN_J, hN_R, wI_I, wJ_J, upd_at, updL_at, kR_s, Option.toList, List.append_nil, List.nil_append, List.cons_append, if_true, if_false, reduceIte, Bool.false_eq_true, not_true_eq_false, not_false_eq_true, true_and, and_true, false_and, and_false, true_or, or_true,  Nat.reduceEqDiff, Nat.reduceAdd, Nat.reduceLeDiff]
        rw [rX9_burnsAll_162, nI_1]
        simp (implicitDefEqProofs := false) only [rX9_burnsAll_165, kl_I, kl_J, kl_R, kl_T, kl_N, Nat.le_refl, Nat.zero_le, List.map_nil, List.map_cons, List.sum_nil, List.sum_cons, c_I, c_J, c_R, c_T, va_rf, hI_wI, hJ_wJ, hR_wR, hI_J, hI_R, hJ_I, hJ_R, hR_I, hR_J, hN_I, hN_J, hN_R, wI_I, wJ_J, upd_at, updL_at, kR_s, Option.toList, List.append_nil, List.nil_append, List.cons_append, if_true, if_false, reduceIte, Bool.false_eq_true, not_true_eq_false, not_false_eq_true, true_and, and_true, false_and, and_false, true_or, or_true,  Nat.reduceEqDiff, Nat.reduceAdd, Nat.reduceLeDiff]
        exact this
theorem l_ba3 {d : Nat} {h : qH} {s cut : Nat} {wo : Option Nat} {a : aS} {g : Nat → Int32} {q0 : Nat → Nat} (F : Fin0 (hR h)) (r0 : hR h 44 3 = some s) (w : mSt h s a) (hc : cut < 64) (hw : ∀ x, wo = some x → x < 9) (e6 : hI h 47 6 = nI cut) (ec : hI h 44 22 = mI wo) (hk : rk q0) (hf : fnB a q0) {Q : Option (Option Value) → qH → Prop} : ∀ (m k : Nat) (o2 o3 : Option Value), smN (itN a cut wo q0 k) (aN a) ≤ m → WP (d + 2) mX9_burnsAll (0, 0) 50 [some (.ref (44 : Nat)), some (.int 1), o2, o3] [] (wI h 50 (fil (aN a) (f9 (itN a cut wo q0 k)) g)) Q = Q (some none) (wI h 50 (fil (aN a) (f9 (itN a cut wo q0 6)) g)) := by
  have ww := w.2.2.1
  intro m
  induction m with
  | zero =>
    intro k o2 o3 hm
    simp (implicitDefEqProofs := false) only [rX9_burnsAll_50, rX9_burnsAll_51, rX9_burnsAll_54, rX9_burnsAll_55, rX9_burnsAll_56, rX9_burnsAll_57, show ¬ (1 : Int32) = 0 from by decide, kl_I, kl_J, kl_R, kl_T, kl_N, Nat.le_refl, Nat.zero_le, List.map_nil, List.map_cons, List.sum_nil, List.sum_cons, c_I, c_J, c_R, c_T, va_rf, hI_wI, hJ_wJ, hR_wR, hI_J, hI_R, hJ_I, hJ_R, hR_I, hR_J, hN_I, hN_J, hN_R, wI_I, wJ_J, upd_at, updL_at, kR_s, Option.toList, List.append_nil, List.nil_append, List.cons_append, if_true, if_false, reduceIte, Bool.false_eq_true, not_true_eq_false, not_false_eq_true, true_and, and_true, false_and, and_false, true_or, or_true,  Nat.reduceEqDiff, Nat.reduceAdd, Nat.reduceLeDiff]
    refine l_ba2 (r := (itN a cut wo q0 k, false)) F r0 w hc hw e6 ec (aSp a) 0 (by omega) o3 (it_rk hk k) (it_fn ww hk hf k) _ (fun p3 => ?_)
    cases hb : (ras a cut wo (aSp a) 0 (itN a cut wo q0 k, false)).2 with
    | true =>
      have := ras_lt ww (aSp a) 0 (itN a cut wo q0 k, false) (by omega) rfl hb
      simp only at this
      omega
    | false =>
      obtain ⟨e1, e2⟩ := ras_ff _ _ _ hb
      have fx : fxd a cut wo (itN a cut wo q0 k) := fun j hj => e2 j (by omega) (by omega)
      rw [e1]
      simp only
      rw [it_uni ww fx]
      simp (implicitDefEqProofs := false) only [rX9_burnsAll_168, rX9_burnsAll_50, rX9_burnsAll_51, rX9_burnsAll_171, bI_f, pCX9_burnsAll, pSX9_burnsAll, pOX9_burnsAll, pLX9_burnsAll, kl_I, kl_J, kl_R, kl_T, kl_N, Nat.le_refl, Nat.zero_le, List.map_nil, List.map_cons, List.sum_nil, List.sum_cons, c_I, c_J, c_R, c_T, va_rf, hI_wI, hJ_wJ, hR_wR, hI_J, hI_R, hJ_I, hJ_R, hR_I, hR_J, hN_I, hN_J, hN_R, wI_I, wJ_J, upd_at, updL_at, kR_s, Option.toList, List.append_nil, List.nil_append, List.cons_append, if_true, if_false, reduceIte, Bool.false_eq_true, not_true_eq_false, not_false_eq_true, true_and, and_true, false_and, and_false, true_or, or_true,  Nat.reduceEqDiff, Nat.reduceAdd, Nat.reduceLeDiff]
  | succ m ih =>
    intro k o2 o3 hm
    simp (implicitDefEqProofs := false) only [rX9_burnsAll_50, rX9_burnsAll_51, rX9_burnsAll_54, rX9_burnsAll_55, rX9_burnsAll_56, rX9_burnsAll_57, show ¬ (1 : Int32) = 0 from by decide, kl_I, kl_J, kl_R, kl_T, kl_N, Nat.le_refl, Nat.zero_le, List.map_nil, List.map_cons, List.sum_nil, List.sum_cons, c_I, c_J, c_R, c_T, va_rf, hI_wI, hJ_wJ, hR_wR, hI_J, hI_R, hJ_I, hJ_R, hR_I, hR_J, hN_I, hN_J, hN_R, wI_I, wJ_J, upd_at, updL_at, kR_s, Option.toList, List.append_nil, List.nil_append, List.cons_append, if_true, if_false, reduceIte, Bool.false_eq_true, not_true_eq_false, not_false_eq_true, true_and, and_true, false_and, and_false, true_or, or_true,  Nat.reduceEqDiff, Nat.reduceAdd, Nat.reduceLeDiff]
    refine l_ba2 (r := (itN a cut wo q0 k, false)) F r0 w hc hw e6 ec (aSp a) 0 (by omega) o3 (it_rk hk k) (it_fn ww hk hf k) _ (fun p3 => ?_)
    cases hb : (ras a cut wo (aSp a) 0 (itN a cut wo q0 k, false)).2 with
    | true =>
      have := ras_lt ww (aSp a) 0 (itN a cut wo q0 k, false) (by omega) rfl hb
      simp only at this
      have i1 := ih (k + 1) (some (.int (nI (aSp a)))) p3 (by rw [itN]; omega)
      rw [itN] at i1
      rw [rX9_burnsAll_168, bI_t]
      exact i1
    | false =>
      obtain ⟨e1, e2⟩ := ras_ff _ _ _ hb
      have fx : fxd a cut wo (itN a cut wo q0 k) := fun j hj => e2 j (by omega) (by omega)
      rw [e1]
      simp only
      rw [it_uni ww fx]
      simp (implicitDefEqProofs := false) only [rX9_burnsAll_168, rX9_burnsAll_50, rX9_burnsAll_51, rX9_burnsAll_171, bI_f, pCX9_burnsAll, pSX9_burnsAll, pOX9_burnsAll, pLX9_burnsAll, kl_I, kl_J, kl_R, kl_T, kl_N, Nat.le_refl, Nat.zero_le, List.map_nil, List.map_cons, List.sum_nil, List.sum_cons, c_I, c_J, c_R, c_T, va_rf, hI_wI, hJ_wJ, hR_wR, hI_J, hI_R, hJ_I, hJ_R, hR_I, hR_J, hN_I, hN_J, hN_R, wI_I, wJ_J, upd_at, updL_at, kR_s, Option.toList, List.append_nil, List.nil_append, List.cons_append, if_true, if_false, reduceIte, Bool.false_eq_true, not_true_eq_false, not_false_eq_true, true_and, and_true, false_and, and_false, true_or, or_true,  Nat.reduceEqDiff, Nat.reduceAdd, Nat.reduceLeDiff]
theorem c_burnsAll {d : Nat} {h : qH} {s cut : Nat} {wo : Option Nat} {a : aS} {own : Nat → Nat} (F : Fin0 (hR h)) (r : hR h 44 3 = some s) (w : mSt h s a) (hc : cut < 64) (hw : ∀ x, wo = some x → x < 9) (hx : ∀ j, j < aN a → hI h 47 j = oI (shN (own j))) (ho : own6 a own) (e6 : hI h 47 6 = nI cut) (ec : hI h 44 22 = mI wo) : ∀ Q, WM (d + 2) mX9_burnsAll [.ref (44 : Nat)] h Q = Q (some none) (wI h 50 (fil (aN a) (f9 (sprN a cut wo own)) (hI h 50))) := by
  intro Q
  have e1 := l_ba1 (d := d + 2) (o2 := none) (o3 := none) (Q := Q) F r w hx ho (aN a) 0 (by omega)
  rw [fil_0, wI_same] at e1
  have e2 : fil (aN a) (f9 own) (hI h 50) = fil (aN a) (f9 (row0 a own)) (hI h 50) := fil_cg (fun j hj => by simp [f9, row0, hj])
  rw [e2] at e1
  have e3 := l_ba3 (d := d) (g := hI h 50) (q0 := row0 a own) (Q := Q) F r w hc hw e6 ec (row0_k (own6_le ho)) (row0_fn ho) _ 0 none none (Nat.le_refl _)
  rw [itN] at e3
  simp (implicitDefEqProofs := false) only [eX9_burnsAll, rX9_burnsAll_0, rX9_burnsAll_1, show (0 : Int32) = nI 0 from rfl, kl_I, kl_J, kl_R, kl_T, kl_N, Nat.le_refl, Nat.zero_le, List.map_nil, List.map_cons, List.sum_nil, List.sum_cons, c_I, c_J, c_R, c_T, va_rf, hI_wI, hJ_wJ, hR_wR, hI_J, hI_R, hJ_I, hJ_R, hR_I, hR_J, hN_I, hN_J, hN_R, wI_I, wJ_J, upd_at, updL_at, kR_s, Option.toList, List.append_nil, List.nil_append, List.cons_append, if_true, if_false, reduceIte, Bool.false_eq_true, not_true_eq_false, not_false_eq_true, true_and, and_true, false_and, and_false, true_or, or_true,  Nat.reduceEqDiff, Nat.reduceAdd, Nat.reduceLeDiff]
  rw [e1]
  simp (implicitDefEqProofs := false) only [rX9_burnsAll_48, rX9_burnsAll_49, kl_I, kl_J, kl_R, kl_T, kl_N, Nat.le_refl, Nat.zero_le, List.map_nil, List.map_cons, List.sum_nil, List.sum_cons, c_I, c_J, c_R, c_T, va_rf, hI_wI, hJ_wJ, hR_wR, hI_J, hI_R, hJ_I, hJ_R, hR_I, hR_J, hN_I, hN_J, hN_R, wI_I, wJ_J, upd_at, updL_at, kR_s, Option.toList, List.append_nil, List.nil_append, List.cons_append, if_true, if_false, reduceIte, Bool.false_eq_true, not_true_eq_false, not_false_eq_true, true_and, and_true, false_and, and_false, true_or, or_true,  Nat.reduceEqDiff, Nat.reduceAdd, Nat.reduceLeDiff]
  rw [e3, spr_it]
/-- the days found -/
def atR (h : qH) (a : aS) (r : Nat → Nat) : Prop := (∀ j, j < aN a → hI h 50 j = nI (n9 (r j))) ∧ (∀ j, r j ≤ 1000) ∧ ∀ j, j < aN a → r j < 1000 → r j ≤ 120
theorem l_nextOn {d : Nat} {h : qH} {s wi y : Nat} {a : aS} {q : Nat → Nat} (F : Fin0 (hR h)) (r : hR h 44 3 = some s) (w : mSt h s a) (t : atR h a q) (hw : wi < 64) (hy : y < 2 ^ 31) (e8 : hI h 47 8 = nI wi) {Q : Option (Option Value) → qH → Prop} : ∀ (k i : Nat), i + k = aN a → ∀ (b : Option Nat) (z : Nat) (_ : (b = none ∧ z = 1000) ∨ ∃ x, b = some x ∧ x < aN a ∧ q x < 1000 ∧ z = q x), WP (d + 1) mX9_nextOn (0, 0) 5 [some (.ref (44 : Nat)), some (.int (nI y)), some (.int (oI b)), some (.int (nI i))] [] h Q = Q (some (some (.int (oI (sooL q wi y k i b z))))) h := by
  have hs := w.1
  have ww := w.2.2.1
  have h6 := ww.1
  have e1 := w.2.2.2.1.2.1
  intro k
  induction k with
  | zero =>
    intro i hi b z _
    obtain rfl : i = aN a := by omega
    simp (implicitDefEqProofs := false) only [rX9_nextOn_5, rX9_nextOn_6, rX9_nextOn_6b, rX9_nextOn_7, rX9_nextOn_10, rX9_nextOn_13, rX9_nextOn_16, rX9_nextOn_16b, rX9_nextOn_17, rX9_nextOn_20, rX9_nextOn_22, rX9_nextOn_23, rX9_nextOn_24, rX9_nextOn_27, rX9_nextOn_30, rX9_nextOn_30b, rX9_nextOn_31, rX9_nextOn_34, rX9_nextOn_35, rX9_nextOn_36, rX9_nextOn_37, rX9_nextOn_40, rX9_nextOn_40b, rX9_nextOn_41, rX9_nextOn_44, rX9_nextOn_45, rX9_nextOn_46, rX9_nextOn_49, rX9_nextOn_52, rX9_nextOn_53, rX9_nextOn_55, rX9_nextOn_58, rX9_nextOn_58b, rX9_nextOn_59, rX9_nextOn_62, rX9_nextOn_63, rX9_nextOn_64, rX9_nextOn_64b, rX9_nextOn_65, rX9_nextOn_68, rX9_nextOn_69, rX9_nextOn_70, rX9_nextOn_73, rX9_nextOn_74, rX9_nextOn_81, rX9_nextOn_82, kA_44, kB_44, kA_47, kB_47, kA_50, kB_50, fin_44_5 F, fin_44_15 F, fin_44_16 F, fin_44_17 F, fin_44_18 F, fin_44_21 F, fin_44_23 F, fin_44_24 F, fin_44_25 F, fin_44_29 F, fin_44_33 F, kU0 hs, nU hs, r, e1, pCX9_nextOn, pSX9_nextOn, pOX9_nextOn, pLX9_nextOn, Int32.le_refl, sooL, kl_I, kl_J, kl_R, kl_T, kl_N, Nat.le_refl, Nat.zero_le, List.map_nil, List.map_cons, List.sum_nil, List.sum_cons, c_I, c_J, c_R, c_T, va_rf, hI_wI, hJ_wJ, hR_wR, hI_J, hI_R, hJ_I, hJ_R, hR_I, hR_J, hN_I, hN_J, hN_R, wI_I, wJ_J, upd_at, updL_at, kR_s, Option.toList, List.append_nil, List.nil_append, List.cons_append, if_true, if_false, reduceIte, Bool.false_eq_true, not_true_eq_false, not_false_eq_true, true_and, and_true, false_and, and_false, true_or, or_true,  Nat.reduceEqDiff, Nat.reduceAdd, Nat.reduceLeDiff]
  | succ k ih =>
    intro i hi b z hb
    have hlt : i < aN a := by omega
    have g1 : ¬ nI (aN a) ≤ nI i := nI_ge hlt (by omega)
    have v6 : vp_in (nI i) 6 := nI_vp (by omega) (by decide)
    have cl : (nI i).toNatClampNeg = i := nI_cl (by omega)
    have vx : vp_in 8 10 := nI_vp (i := 8) (by omega) (by decide)
    have clx : (8 : Int32).toNatClampNeg = 8 := rfl
    have bt := c_mbit (d := d) (h := h) (t := wi) (j := i) (by omega) (by omega)
    have ti := t.1 i hlt
    have b1 := t.2.1 i
    have z1 := n9_b b1
    have q1 : (nI (n9 (q i)) ≤ nI y) = (n9 (q i) ≤ y) := propext (nI_leI (by omega) (by omega))
    have q2 : (9999 ≤ nI (n9 (q i))) = (1000 ≤ q i) := by
      rw [nge (x := n9 (q i)) (k := 9999) (c := 9999) rfl (by omega) (by omega)]
      unfold n9
      apply propext
      split <;> omega
    rw [sooL]
    cases c1 : wi.testBit i with
    | true =>
      rw [c1] at bt
      rw [if_neg (by simp)]
      simp (implicitDefEqProofs := false) only [rX9_nextOn_5, rX9_nextOn_6, rX9_nextOn_6b, rX9_nextOn_7, rX9_nextOn_10, rX9_nextOn_13, rX9_nextOn_16, rX9_nextOn_16b, rX9_nextOn_17, rX9_nextOn_20, rX9_nextOn_22, rX9_nextOn_23, rX9_nextOn_24, rX9_nextOn_27, rX9_nextOn_30, rX9_nextOn_30b, rX9_nextOn_31, rX9_nextOn_34, rX9_nextOn_35, rX9_nextOn_36, rX9_nextOn_37, rX9_nextOn_40, rX9_nextOn_40b, rX9_nextOn_41, rX9_nextOn_44, rX9_nextOn_45, rX9_nextOn_46, rX9_nextOn_49, rX9_nextOn_52, rX9_nextOn_53, rX9_nextOn_55, rX9_nextOn_58, rX9_nextOn_58b, rX9_nextOn_59, rX9_nextOn_62, rX9_nextOn_63, rX9_nextOn_64, rX9_nextOn_64b, rX9_nextOn_65, rX9_nextOn_68, rX9_nextOn_69, rX9_nextOn_70, rX9_nextOn_73, rX9_nextOn_74, kA_44, kB_44, kA_47, kB_47, kA_50, kB_50, fin_44_5 F, fin_44_15 F, fin_44_16 F, fin_44_17 F, fin_44_18 F, fin_44_21 F, fin_44_23 F, fin_44_24 F, fin_44_25 F, fin_44_29 F, fin_44_33 F, kU0 hs, nU hs, r, e1, g1, e8, vx, clx, bt, bI_t, show ¬ (1 : Int32) = 0 from by decide, pCX9_nextOn, pSX9_nextOn, pOX9_nextOn, pLX9_nextOn, pCX9_bit, pSX9_bit, pOX9_bit, pLX9_bit, kl_I, kl_J, kl_R, kl_T, kl_N, Nat.le_refl, Nat.zero_le, List.map_nil, List.map_cons, List.sum_nil, List.sum_cons, c_I, c_J, c_R, c_T, va_rf, hI_wI, hJ_wJ, hR_wR, hI_J, hI_R, hJ_I, hJ_R, hR_I, hR_J, hN_I, hN_J, hN_R, wI_I, wJ_J, upd_at, updL_at, kR_s, Option.toList, List.append_nil, List.nil_append, List.cons_append, if_true, if_false, reduceIte, Bool.false_eq_true, not_true_eq_false, not_false_eq_true, true_and, and_true, false_and, and_false, true_or, or_true,  Nat.reduceEqDiff, Nat.reduceAdd, Nat.reduceLeDiff]
      rw [rX9_nextOn_75, nI_1]
      simp (implicitDefEqProofs := false) only [rX9_nextOn_78, kl_I, kl_J, kl_R, kl_T, kl_N, Nat.le_refl, Nat.zero_le, List.map_nil, List.map_cons, List.sum_nil, List.sum_cons, c_I, c_J, c_R, c_T, va_rf, hI_wI, hJ_wJ, hR_wR, hI_J, hI_R, hJ_I, hJ_R, hR_I, hR_J, hN_I, hN_J, hN_R, wI_I, wJ_J, upd_at, updL_at, kR_s, Option.toList, List.append_nil, List.nil_append, List.cons_append, if_true, if_false, reduceIte, Bool.false_eq_true, not_true_eq_false, not_false_eq_true, true_and, and_true, false_and, and_false, true_or, or_true,  Nat.reduceEqDiff, Nat.reduceAdd, Nat.reduceLeDiff]
      exact ih (i + 1) (by omega) b z hb
    | false =>
      rw [c1] at bt
      by_cases c2 : 1000 ≤ q i
      · have e9 : n9 (q i) = 9999 := if_pos c2
        rw [if_neg (by rcases hb with ⟨-, rfl⟩ | ⟨x, -, -, q3, rfl⟩ <;> omega)]
        by_cases c3 : n9 (q i) ≤ y
        · simp (implicitDefEqProofs := false) only [rX9_nextOn_5, rX9_nextOn_6, rX9_nextOn_6b, rX9_nextOn_7, rX9_nextOn_10, rX9_nextOn_13, rX9_nextOn_16, rX9_nextOn_16b, rX9_nextOn_17, rX9_nextOn_20, rX9_nextOn_22, rX9_nextOn_23, rX9_nextOn_24, rX9_nextOn_27, rX9_nextOn_30, rX9_nextOn_30b, rX9_nextOn_31, rX9_nextOn_34, rX9_nextOn_35, rX9_nextOn_36, rX9_nextOn_37, rX9_nextOn_40, rX9_nextOn_40b, rX9_nextOn_41, rX9_nextOn_44, rX9_nextOn_45, rX9_nextOn_46, rX9_nextOn_49, rX9_nextOn_52, rX9_nextOn_53, rX9_nextOn_55, rX9_nextOn_58, rX9_nextOn_58b, rX9_nextOn_59, rX9_nextOn_62, rX9_nextOn_63, rX9_nextOn_64, rX9_nextOn_64b, rX9_nextOn_65, rX9_nextOn_68, rX9_nextOn_69, rX9_nextOn_70, rX9_nextOn_73, rX9_nextOn_74, kA_44, kB_44, kA_47, kB_47, kA_50, kB_50, fin_44_5 F, fin_44_15 F, fin_44_16 F, fin_44_17 F, fin_44_18 F, fin_44_21 F, fin_44_23 F, fin_44_24 F, fin_44_25 F, fin_44_29 F, fin_44_33 F, kU0 hs, nU hs, r, e1, g1, e8, vx, clx, bt, bI_f, v6, cl, ti, q1, c3, pCX9_nextOn, pSX9_nextOn, pOX9_nextOn, pLX9_nextOn, pCX9_bit, pSX9_bit, pOX9_bit, pLX9_bit, kl_I, kl_J, kl_R, kl_T, kl_N, Nat.le_refl, Nat.zero_le, List.map_nil, List.map_cons, List.sum_nil, List.sum_cons, c_I, c_J, c_R, c_T, va_rf, hI_wI, hJ_wJ, hR_wR, hI_J, hI_R, hJ_I, hJ_R, hR_I, hR_J, hN_I, hN_J, hN_R, wI_I, wJ_J, upd_at, updL_at, kR_s, Option.toList, List.append_nil, List.nil_append, List.cons_append, if_true, if_false, reduceIte, Bool.false_eq_true, not_true_eq_false, not_false_eq_true, true_and, and_true, false_and, and_false, true_or, or_true,  Nat.reduceEqDiff, Nat.reduceAdd, Nat.reduceLeDiff]
          rw [rX9_nextOn_75, nI_1]
          simp (implicitDefEqProofs := false) only [rX9_nextOn_78, kl_I, kl_J, kl_R, kl_T, kl_N, Nat.le_refl, Nat.zero_le, List.map_nil, List.map_cons, List.sum_nil, List.sum_cons, c_I, c_J, c_R, c_T, va_rf, hI_wI, hJ_wJ, hR_wR, hI_J, hI_R, hJ_I, hJ_R, hR_I, hR_J, hN_I, hN_J, hN_R, wI_I, wJ_J, upd_at, updL_at, kR_s, Option.toList, List.append_nil, List.nil_append, List.cons_append, if_true, if_false, reduceIte, Bool.false_eq_true, not_true_eq_false, not_false_eq_true, true_and, and_true, false_and, and_false, true_or, or_true,  Nat.reduceEqDiff, Nat.reduceAdd, Nat.reduceLeDiff]
          exact ih (i + 1) (by omega) b z hb
        · simp (implicitDefEqProofs := false) only [rX9_nextOn_5, rX9_nextOn_6, rX9_nextOn_6b, rX9_nextOn_7, rX9_nextOn_10, rX9_nextOn_13, rX9_nextOn_16, rX9_nextOn_16b, rX9_nextOn_17, rX9_nextOn_20, rX9_nextOn_22, rX9_nextOn_23, rX9_nextOn_24, rX9_nextOn_27, rX9_nextOn_30, rX9_nextOn_30b, rX9_nextOn_31, rX9_nextOn_34, rX9_nextOn_35, rX9_nextOn_36, rX9_nextOn_37, rX9_nextOn_40, rX9_nextOn_40b, rX9_nextOn_41, rX9_nextOn_44, rX9_nextOn_45, rX9_nextOn_46, rX9_nextOn_49, rX9_nextOn_52, rX9_nextOn_53, rX9_nextOn_55, rX9_nextOn_58, rX9_nextOn_58b, rX9_nextOn_59, rX9_nextOn_62, rX9_nextOn_63, rX9_nextOn_64, rX9_nextOn_64b, rX9_nextOn_65, rX9_nextOn_68, rX9_nextOn_69, rX9_nextOn_70, rX9_nextOn_73, rX9_nextOn_74, kA_44, kB_44, kA_47, kB_47, kA_50, kB_50, fin_44_5 F, fin_44_15 F, fin_44_16 F, fin_44_17 F, fin_44_18 F, fin_44_21 F, fin_44_23 F, fin_44_24 F, fin_44_25 F, fin_44_29 F, fin_44_33 F, kU0 hs, nU hs, r, e1, g1, e8, vx, clx, bt, bI_f, v6, cl, ti, q1, c3, q2, c2, pCX9_nextOn, pSX9_nextOn, pOX9_nextOn, pLX9_nextOn, pCX9_bit, pSX9_bit, pOX9_bit, pLX9_bit, kl_I, kl_J, kl_R, kl_T, kl_N, Nat.le_refl, Nat.zero_le, List.map_nil, List.map_cons, List.sum_nil, List.sum_cons, c_I, c_J, c_R, c_T, va_rf, hI_wI, hJ_wJ, hR_wR, hI_J, hI_R, hJ_I, hJ_R, hR_I, hR_J, hN_I, hN_J, hN_R, wI_I, wJ_J, upd_at, updL_at, kR_s, Option.toList, List.append_nil, List.nil_append, List.cons_append, if_true, if_false, reduceIte, Bool.false_eq_true, not_true_eq_false, not_false_eq_true, true_and, and_true, false_and, and_false, true_or, or_true,  Nat.reduceEqDiff, Nat.reduceAdd, Nat.reduceLeDiff]
          rw [rX9_nextOn_75, nI_1]
          simp (implicitDefEqProofs := false) only [rX9_nextOn_78, kl_I, kl_J, kl_R, kl_T, kl_N, Nat.le_refl, Nat.zero_le, List.map_nil, List.map_cons, List.sum_nil, List.sum_cons, c_I, c_J, c_R, c_T, va_rf, hI_wI, hJ_wJ, hR_wR, hI_J, hI_R, hJ_I, hJ_R, hR_I, hR_J, hN_I, hN_J, hN_R, wI_I, wJ_J, upd_at, updL_at, kR_s, Option.toList, List.append_nil, List.nil_append, List.cons_append, if_true, if_false, reduceIte, Bool.false_eq_true, not_true_eq_false, not_false_eq_true, true_and, and_true, false_and, and_false, true_or, or_true,  Nat.reduceEqDiff, Nat.reduceAdd, Nat.reduceLeDiff]
          exact ih (i + 1) (by omega) b z hb
      · have e9 : n9 (q i) = q i := if_neg c2
        rw [e9] at q1 q2 ti
        by_cases c3 : q i ≤ y
        · rw [if_neg (by omega)]
          simp (implicitDefEqProofs := false) only [rX9_nextOn_5, rX9_nextOn_6, rX9_nextOn_6b, rX9_nextOn_7, rX9_nextOn_10, rX9_nextOn_13, rX9_nextOn_16, rX9_nextOn_16b, rX9_nextOn_17, rX9_nextOn_20, rX9_nextOn_22, rX9_nextOn_23, rX9_nextOn_24, rX9_nextOn_27, rX9_nextOn_30, rX9_nextOn_30b, rX9_nextOn_31, rX9_nextOn_34, rX9_nextOn_35, rX9_nextOn_36, rX9_nextOn_37, rX9_nextOn_40, rX9_nextOn_40b, rX9_nextOn_41, rX9_nextOn_44, rX9_nextOn_45, rX9_nextOn_46, rX9_nextOn_49, rX9_nextOn_52, rX9_nextOn_53, rX9_nextOn_55, rX9_nextOn_58, rX9_nextOn_58b, rX9_nextOn_59, rX9_nextOn_62, rX9_nextOn_63, rX9_nextOn_64, rX9_nextOn_64b, rX9_nextOn_65, rX9_nextOn_68, rX9_nextOn_69, rX9_nextOn_70, rX9_nextOn_73, rX9_nextOn_74, kA_44, kB_44, kA_47, kB_47, kA_50, kB_50, fin_44_5 F, fin_44_15 F, fin_44_16 F, fin_44_17 F, fin_44_18 F, fin_44_21 F, fin_44_23 F, fin_44_24 F, fin_44_25 F, fin_44_29 F, fin_44_33 F, kU0 hs, nU hs, r, e1, g1, e8, vx, clx, bt, bI_f, v6, cl, ti, q1, c3, pCX9_nextOn, pSX9_nextOn, pOX9_nextOn, pLX9_nextOn, pCX9_bit, pSX9_bit, pOX9_bit, pLX9_bit, kl_I, kl_J, kl_R, kl_T, kl_N, Nat.le_refl, Nat.zero_le, List.map_nil, List.map_cons, List.sum_nil, List.sum_cons, c_I, c_J, c_R, c_T, va_rf, hI_wI, hJ_wJ, hR_wR, hI_J, hI_R, hJ_I, hJ_R, hR_I, hR_J, hN_I, hN_J, hN_R, wI_I, wJ_J, upd_at, updL_at, kR_s, Option.toList, List.append_nil, List.nil_append, List.cons_append, if_true, if_false, reduceIte, Bool.false_eq_true, not_true_eq_false, not_false_eq_true, true_and, and_true, false_and, and_false, true_or, or_true,  Nat.reduceEqDiff, Nat.reduceAdd, Nat.reduceLeDiff]
          rw [rX9_nextOn_75, nI_1]
          simp (implicitDefEqProofs := false) only [rX9_nextOn_78, kl_I, kl_J, kl_R, kl_T, kl_N, Nat.le_refl, Nat.zero_le, List.map_nil, List.map_cons, List.sum_nil, List.sum_cons, c_I, c_J, c_R, c_T, va_rf, hI_wI, hJ_wJ, hR_wR, hI_J, hI_R, hJ_I, hJ_R, hR_I, hR_J, hN_I, hN_J, hN_R, wI_I, wJ_J, upd_at, updL_at, kR_s, Option.toList, List.append_nil, List.nil_append, List.cons_append, if_true, if_false, reduceIte, Bool.false_eq_true, not_true_eq_false, not_false_eq_true, true_and, and_true, false_and, and_false, true_or, or_true,  Nat.reduceEqDiff, Nat.reduceAdd, Nat.reduceLeDiff]
          exact ih (i + 1) (by omega) b z hb
        · rcases hb with ⟨rfl, rfl⟩ | ⟨x, rfl, hx, q3, rfl⟩
          · rw [if_pos ⟨rfl, by omega, by omega⟩]
            simp (implicitDefEqProofs := false) only [rX9_nextOn_5, rX9_nextOn_6, rX9_nextOn_6b, rX9_nextOn_7, rX9_nextOn_10, rX9_nextOn_13, rX9_nextOn_16, rX9_nextOn_16b, rX9_nextOn_17, rX9_nextOn_20, rX9_nextOn_22, rX9_nextOn_23, rX9_nextOn_24, rX9_nextOn_27, rX9_nextOn_30, rX9_nextOn_30b, rX9_nextOn_31, rX9_nextOn_34, rX9_nextOn_35, rX9_nextOn_36, rX9_nextOn_37, rX9_nextOn_40, rX9_nextOn_40b, rX9_nextOn_41, rX9_nextOn_44, rX9_nextOn_45, rX9_nextOn_46, rX9_nextOn_49, rX9_nextOn_52, rX9_nextOn_53, rX9_nextOn_55, rX9_nextOn_58, rX9_nextOn_58b, rX9_nextOn_59, rX9_nextOn_62, rX9_nextOn_63, rX9_nextOn_64, rX9_nextOn_64b, rX9_nextOn_65, rX9_nextOn_68, rX9_nextOn_69, rX9_nextOn_70, rX9_nextOn_73, rX9_nextOn_74, kA_44, kB_44, kA_47, kB_47, kA_50, kB_50, fin_44_5 F, fin_44_15 F, fin_44_16 F, fin_44_17 F, fin_44_18 F, fin_44_21 F, fin_44_23 F, fin_44_24 F, fin_44_25 F, fin_44_29 F, fin_44_33 F, kU0 hs, nU hs, r, e1, g1, e8, vx, clx, bt, bI_f, v6, cl, ti, q1, c3, q2, c2, oI_no, pCX9_nextOn, pSX9_nextOn, pOX9_nextOn, pLX9_nextOn, pCX9_bit, pSX9_bit, pOX9_bit, pLX9_bit, kl_I, kl_J, kl_R, kl_T, kl_N, Nat.le_refl, Nat.zero_le, List.map_nil, List.map_cons, List.sum_nil, List.sum_cons, c_I, c_J, c_R, c_T, va_rf, hI_wI, hJ_wJ, hR_wR, hI_J, hI_R, hJ_I, hJ_R, hR_I, hR_J, hN_I, hN_J, hN_R, wI_I, wJ_J, upd_at, updL_at, kR_s, Option.toList, List.append_nil, List.nil_append, List.cons_append, if_true, if_false, reduceIte, Bool.false_eq_true, not_true_eq_false, not_false_eq_true, true_and, and_true, false_and, and_false, true_or, or_true,  Nat.reduceEqDiff, Nat.reduceAdd, Nat.reduceLeDiff]
            rw [rX9_nextOn_75, nI_1]
            simp (implicitDefEqProofs := false) only [rX9_nextOn_78, kl_I, kl_J, kl_R, kl_T, kl_N, Nat.le_refl, Nat.zero_le, List.map_nil, List.map_cons, List.sum_nil, List.sum_cons, c_I, c_J, c_R, c_T, va_rf, hI_wI, hJ_wJ, hR_wR, hI_J, hI_R, hJ_I, hJ_R, hR_I, hR_J, hN_I, hN_J, hN_R, wI_I, wJ_J, upd_at, updL_at, kR_s, Option.toList, List.append_nil, List.nil_append, List.cons_append, if_true, if_false, reduceIte, Bool.false_eq_true, not_true_eq_false, not_false_eq_true, true_and, and_true, false_and, and_false, true_or, or_true,  Nat.reduceEqDiff, Nat.reduceAdd, Nat.reduceLeDiff]
            exact ih (i + 1) (by omega) (some i) (q i) (.inr ⟨i, rfl, hlt, by omega, rfl⟩)
          · have v7 : vp_in (nI x) 6 := nI_vp (by omega) (by decide)
            have cl7 : (nI x).toNatClampNeg = x := nI_cl (by omega)
            have tx := t.1 x hx
            rw [show n9 (q x) = q x from if_neg (by omega)] at tx
            have nn := nN (x := x) (k := 0) (by omega)
            have q4 : (nI (q x) ≤ nI (q i)) = (q x ≤ q i) := propext (nI_leI (by omega) (by omega))
            by_cases c4 : q x ≤ q i
            · rw [if_neg (by omega)]
              simp (implicitDefEqProofs := false) only [rX9_nextOn_5, rX9_nextOn_6, rX9_nextOn_6b, rX9_nextOn_7, rX9_nextOn_10, rX9_nextOn_13, rX9_nextOn_16, rX9_nextOn_16b, rX9_nextOn_17, rX9_nextOn_20, rX9_nextOn_22, rX9_nextOn_23, rX9_nextOn_24, rX9_nextOn_27, rX9_nextOn_30, rX9_nextOn_30b, rX9_nextOn_31, rX9_nextOn_34, rX9_nextOn_35, rX9_nextOn_36, rX9_nextOn_37, rX9_nextOn_40, rX9_nextOn_40b, rX9_nextOn_41, rX9_nextOn_44, rX9_nextOn_45, rX9_nextOn_46, rX9_nextOn_49, rX9_nextOn_52, rX9_nextOn_53, rX9_nextOn_55, rX9_nextOn_58, rX9_nextOn_58b, rX9_nextOn_59, rX9_nextOn_62, rX9_nextOn_63, rX9_nextOn_64, rX9_nextOn_64b, rX9_nextOn_65, rX9_nextOn_68, rX9_nextOn_69, rX9_nextOn_70, rX9_nextOn_73, rX9_nextOn_74, kA_44, kB_44, kA_47, kB_47, kA_50, kB_50, fin_44_5 F, fin_44_15 F, fin_44_16 F, fin_44_17 F, fin_44_18 F, fin_44_21 F, fin_44_23 F, fin_44_24 F, fin_44_25 F, fin_44_29 F, fin_44_33 F, kU0 hs, nU hs, r, e1, g1, e8, vx, clx, bt, bI_f, v6, cl, v7, cl7, ti, tx, q1, c3, q2, c2, oI_so, nn, q4, c4, pCX9_nextOn, pSX9_nextOn, pOX9_nextOn, pLX9_nextOn, pCX9_bit, pSX9_bit, pOX9_bit, pLX9_bit, kl_I, kl_J, kl_R, kl_T, kl_N, Nat.le_refl, Nat.zero_le, List.map_nil, List.map_cons, List.sum_nil, List.sum_cons, c_I, c_J, c_R, c_T, va_rf, hI_wI, hJ_wJ, hR_wR, hI_J, hI_R, hJ_I, hJ_R, hR_I, hR_J, hN_I, hN_J, hN_R, wI_I, wJ_J, upd_at, updL_at, kR_s, Option.toList, List.append_nil, List.nil_append, List.cons_append, if_true, if_false, reduceIte, Bool.false_eq_true, not_true_eq_false, not_false_eq_true, true_and, and_true, false_and, and_false, true_or, or_true,  Nat.reduceEqDiff, Nat.reduceAdd, Nat.reduceLeDiff]
              rw [rX9_nextOn_75, nI_1]
              simp (implicitDefEqProofs := false) only [rX9_nextOn_78, kl_I, kl_J, kl_R, kl_T, kl_N, Nat.le_refl, Nat.zero_le, List.map_nil, List.map_cons, List.sum_nil, List.sum_cons, c_I, c_J, c_R, c_T, va_rf, hI_wI, hJ_wJ, hR_wR, hI_J, hI_R, hJ_I, hJ_R, hR_I, hR_J, hN_I, hN_J, hN_R, wI_I, wJ_J, upd_at, updL_at, kR_s, Option.toList, List.append_nil, List.nil_append, List.cons_append, if_true, if_false, reduceIte, Bool.false_eq_true, not_true_eq_false, not_false_eq_true, true_and, and_true, false_and, and_false, true_or, or_true,  Nat.reduceEqDiff, Nat.reduceAdd, Nat.reduceLeDiff]
              exact ih (i + 1) (by omega) (some x) (q x) (.inr ⟨x, rfl, hx, q3, rfl⟩)
            · rw [if_pos ⟨rfl, by omega, by omega⟩]
              simp (implicitDefEqProofs := false) only [rX9_nextOn_5, rX9_nextOn_6, rX9_nextOn_6b, rX9_nextOn_7, rX9_nextOn_10, rX9_nextOn_13, rX9_nextOn_16, rX9_nextOn_16b, rX9_nextOn_17, rX9_nextOn_20, rX9_nextOn_22, rX9_nextOn_23, rX9_nextOn_24, rX9_nextOn_27, rX9_nextOn_30, rX9_nextOn_30b, rX9_nextOn_31, rX9_nextOn_34, rX9_nextOn_35, rX9_nextOn_36, rX9_nextOn_37, rX9_nextOn_40, rX9_nextOn_40b, rX9_nextOn_41, rX9_nextOn_44, rX9_nextOn_45, rX9_nextOn_46, rX9_nextOn_49, rX9_nextOn_52, rX9_nextOn_53, rX9_nextOn_55, rX9_nextOn_58, rX9_nextOn_58b, rX9_nextOn_59, rX9_nextOn_62, rX9_nextOn_63, rX9_nextOn_64, rX9_nextOn_64b, rX9_nextOn_65, rX9_nextOn_68, rX9_nextOn_69, rX9_nextOn_70, rX9_nextOn_73, rX9_nextOn_74, kA_44, kB_44, kA_47, kB_47, kA_50, kB_50, fin_44_5 F, fin_44_15 F, fin_44_16 F, fin_44_17 F, fin_44_18 F, fin_44_21 F, fin_44_23 F, fin_44_24 F, fin_44_25 F, fin_44_29 F, fin_44_33 F, kU0 hs, nU hs, r, e1, g1, e8, vx, clx, bt, bI_f, v6, cl, v7, cl7, ti, tx, q1, c3, q2, c2, oI_so, nn, q4, c4, pCX9_nextOn, pSX9_nextOn, pOX9_nextOn, pLX9_nextOn, pCX9_bit, pSX9_bit, pOX9_bit, pLX9_bit, kl_I, kl_J, kl_R, kl_T, kl_N, Nat.le_refl, Nat.zero_le, List.map_nil, List.map_cons, List.sum_nil, List.sum_cons, c_I, c_J, c_R, c_T, va_rf, hI_wI, hJ_wJ, hR_wR, hI_J, hI_R, hJ_I, hJ_R, hR_I, hR_J, hN_I, hN_J, hN_R, wI_I, wJ_J, upd_at, updL_at, kR_s, Option.toList, List.append_nil, List.nil_append, List.cons_append, if_true, if_false, reduceIte, Bool.false_eq_true, not_true_eq_false, not_false_eq_true, true_and, and_true, false_and, and_false, true_or, or_true,  Nat.reduceEqDiff, Nat.reduceAdd, Nat.reduceLeDiff]
              rw [rX9_nextOn_75, nI_1]
              simp (implicitDefEqProofs := false) only [rX9_nextOn_78, kl_I, kl_J, kl_R, kl_T, kl_N, Nat.le_refl, Nat.zero_le, List.map_nil, List.map_cons, List.sum_nil, List.sum_cons, c_I, c_J, c_R, c_T, va_rf, hI_wI, hJ_wJ, hR_wR, hI_J, hI_R, hJ_I, hJ_R, hR_I, hR_J, hN_I, hN_J, hN_R, wI_I, wJ_J, upd_at, updL_at, kR_s, Option.toList, List.append_nil, List.nil_append, List.cons_append, if_true, if_false, reduceIte, Bool.false_eq_true, not_true_eq_false, not_false_eq_true, true_and, and_true, false_and, and_false, true_or, or_true,  Nat.reduceEqDiff, Nat.reduceAdd, Nat.reduceLeDiff]
              exact ih (i + 1) (by omega) (some i) (q i) (.inr ⟨i, rfl, hlt, by omega, rfl⟩)
theorem c_nextOn {d : Nat} {h : qH} {s wi y : Nat} {a : aS} {q : Nat → Nat} (F : Fin0 (hR h)) (r : hR h 44 3 = some s) (w : mSt h s a) (t : atR h a q) (hw : wi < 64) (hy : y < 2 ^ 31) (e8 : hI h 47 8 = nI wi) : ∀ Q, WM (d + 1) mX9_nextOn [.ref (44 : Nat), .int (nI y)] h Q = Q (some (some (.int (oI (sooN (aN a) q wi y))))) h := by
  intro Q
  simp (implicitDefEqProofs := false) only [eX9_nextOn, rX9_nextOn_0, rX9_nextOn_2, rX9_nextOn_3, rX9_nextOn_4, kl_I, kl_J, kl_R, kl_T, kl_N, Nat.le_refl, Nat.zero_le, List.map_nil, List.map_cons, List.sum_nil, List.sum_cons, c_I, c_J, c_R, c_T, va_rf, hI_wI, hJ_wJ, hR_wR, hI_J, hI_R, hJ_I, hJ_R, hR_I, hR_J, hN_I, hN_J, hN_R, wI_I, wJ_J, upd_at, updL_at, kR_s, Option.toList, List.append_nil, List.nil_append, List.cons_append, if_true, if_false, reduceIte, Bool.false_eq_true, not_true_eq_false, not_false_eq_true, true_and, and_true, false_and, and_false, true_or, or_true,  Nat.reduceEqDiff, Nat.reduceAdd, Nat.reduceLeDiff]
  exact l_nextOn F r w t hw hy e8 (aN a) 0 (by omega) none 1000 (.inl ⟨rfl, rfl⟩)
theorem l_mburntBy {d : Nat} {h : qH} {s Y y : Nat} {a : aS} {q : Nat → Nat} (F : Fin0 (hR h)) (r : hR h 44 3 = some s) (w : mSt h s a) (t : atR h a q) (hY : Y < 2 ^ 31) (hq : ∀ j, j < aN a → (n9 (q j) ≤ Y ↔ q j ≤ y)) {Q : Option (Option Value) → qH → Prop} : ∀ (k i : Nat), i + k = aN a → WP d mX9_burntBy (0, 0) 4 [some (.ref (44 : Nat)), some (.int (nI Y)), some (.int (nI (bm (byP q y) i))), some (.int (nI i))] [] h Q = Q (some (some (.int (nI (bm (byP q y) (aN a)))))) h := by
  have hs := w.1
  have ww := w.2.2.1
  have h6 := ww.1
  have e1 := w.2.2.2.1.2.1
  intro k
  induction k with
  | zero =>
    intro i hi
    obtain rfl : i = aN a := by omega
    simp (implicitDefEqProofs := false) only [rX9_burntBy_4, rX9_burntBy_5, rX9_burntBy_5b, rX9_burntBy_6, rX9_burntBy_9, rX9_burntBy_12, rX9_burntBy_15, rX9_burntBy_16, rX9_burntBy_16b, rX9_burntBy_17, rX9_burntBy_20, rX9_burntBy_21, rX9_burntBy_22, rX9_burntBy_23, rX9_burntBy_26, rX9_burntBy_27, rX9_burntBy_28, rX9_burntBy_29, rX9_burntBy_32, rX9_burntBy_33, rX9_burntBy_34, rX9_burntBy_41, rX9_burntBy_42, kA_44, kB_44, kA_50, kB_50, fin_44_5 F, fin_44_15 F, fin_44_16 F, fin_44_17 F, fin_44_18 F, fin_44_21 F, fin_44_23 F, fin_44_24 F, fin_44_25 F, fin_44_29 F, fin_44_33 F, kU0 hs, nU hs, r, e1, pCX9_burntBy, pSX9_burntBy, pOX9_burntBy, pLX9_burntBy, Int32.le_refl, kl_I, kl_J, kl_R, kl_T, kl_N, Nat.le_refl, Nat.zero_le, List.map_nil, List.map_cons, List.sum_nil, List.sum_cons, c_I, c_J, c_R, c_T, va_rf, hI_wI, hJ_wJ, hR_wR, hI_J, hI_R, hJ_I, hJ_R, hR_I, hR_J, hN_I, hN_J, hN_R, wI_I, wJ_J, upd_at, updL_at, kR_s, Option.toList, List.append_nil, List.nil_append, List.cons_append, if_true, if_false, reduceIte, Bool.false_eq_true, not_true_eq_false, not_false_eq_true, true_and, and_true, false_and, and_false, true_or, or_true,  Nat.reduceEqDiff, Nat.reduceAdd, Nat.reduceLeDiff]
  | succ k ih =>
    intro i hi
    have hlt : i < aN a := by omega
    have g1 : ¬ nI (aN a) ≤ nI i := nI_ge hlt (by omega)
    have v6 : vp_in (nI i) 6 := nI_vp (by omega) (by decide)
    have cl : (nI i).toNatClampNeg = i := nI_cl (by omega)
    have ti := t.1 i hlt
    have z1 := n9_b (t.2.1 i)
    have hi2 := hq i hlt
    have q1 : (nI Y < nI (n9 (q i))) = (Y < n9 (q i)) := propext (nI_ltI (by omega) (by omega))
    have i1 := ih (i + 1) (by omega)
    by_cases c1 : Y < n9 (q i)
    · rw [bm_f (by simp [byP]; omega)] at i1
      simp (implicitDefEqProofs := false) only [rX9_burntBy_4, rX9_burntBy_5, rX9_burntBy_5b, rX9_burntBy_6, rX9_burntBy_9, rX9_burntBy_12, rX9_burntBy_15, rX9_burntBy_16, rX9_burntBy_16b, rX9_burntBy_17, rX9_burntBy_20, rX9_burntBy_21, rX9_burntBy_22, rX9_burntBy_23, rX9_burntBy_26, rX9_burntBy_27, rX9_burntBy_28, rX9_burntBy_29, rX9_burntBy_32, rX9_burntBy_33, rX9_burntBy_34, kA_44, kB_44, kA_50, kB_50, fin_44_5 F, fin_44_15 F, fin_44_16 F, fin_44_17 F, fin_44_18 F, fin_44_21 F, fin_44_23 F, fin_44_24 F, fin_44_25 F, fin_44_29 F, fin_44_33 F, kU0 hs, nU hs, r, e1, g1, v6, cl, ti, q1, c1, show (0 : Int32) = nI 0 from rfl, bt_or, Nat.or_zero, pCX9_burntBy, pSX9_burntBy, pOX9_burntBy, pLX9_burntBy, kl_I, kl_J, kl_R, kl_T, kl_N, Nat.le_refl, Nat.zero_le, List.map_nil, List.map_cons, List.sum_nil, List.sum_cons, c_I, c_J, c_R, c_T, va_rf, hI_wI, hJ_wJ, hR_wR, hI_J, hI_R, hJ_I, hJ_R, hR_I, hR_J, hN_I, hN_J, hN_R, wI_I, wJ_J, upd_at, updL_at, kR_s, Option.toList, List.append_nil, List.nil_append, List.cons_append, if_true, if_false, reduceIte, Bool.false_eq_true, not_true_eq_false, not_false_eq_true, true_and, and_true, false_and, and_false, true_or, or_true,  Nat.reduceEqDiff, Nat.reduceAdd, Nat.reduceLeDiff]
      rw [rX9_burntBy_35, nI_1]
      simp (implicitDefEqProofs := false) only [rX9_burntBy_38, kl_I, kl_J, kl_R, kl_T, kl_N, Nat.le_refl, Nat.zero_le, List.map_nil, List.map_cons, List.sum_nil, List.sum_cons, c_I, c_J, c_R, c_T, va_rf, hI_wI, hJ_wJ, hR_wR, hI_J, hI_R, hJ_I, hJ_R, hR_I, hR_J, hN_I, hN_J, hN_R, wI_I, wJ_J, upd_at, updL_at, kR_s, Option.toList, List.append_nil, List.nil_append, List.cons_append, if_true, if_false, reduceIte, Bool.false_eq_true, not_true_eq_false, not_false_eq_true, true_and, and_true, false_and, and_false, true_or, or_true,  Nat.reduceEqDiff, Nat.reduceAdd, Nat.reduceLeDiff]
      exact i1
    · rw [bm_t (by simp [byP]; omega)] at i1
      simp (implicitDefEqProofs := false) only [rX9_burntBy_4, rX9_burntBy_5, rX9_burntBy_5b, rX9_burntBy_6, rX9_burntBy_9, rX9_burntBy_12, rX9_burntBy_15, rX9_burntBy_16, rX9_burntBy_16b, rX9_burntBy_17, rX9_burntBy_20, rX9_burntBy_21, rX9_burntBy_22, rX9_burntBy_23, rX9_burntBy_26, rX9_burntBy_27, rX9_burntBy_28, rX9_burntBy_29, rX9_burntBy_32, rX9_burntBy_33, rX9_burntBy_34, kA_44, kB_44, kA_50, kB_50, fin_44_5 F, fin_44_15 F, fin_44_16 F, fin_44_17 F, fin_44_18 F, fin_44_21 F, fin_44_23 F, fin_44_24 F, fin_44_25 F, fin_44_29 F, fin_44_33 F, kU0 hs, nU hs, r, e1, g1, v6, cl, ti, q1, c1, bt_shl (j := i) (by omega), bt_or, pCX9_burntBy, pSX9_burntBy, pOX9_burntBy, pLX9_burntBy, kl_I, kl_J, kl_R, kl_T, kl_N, Nat.le_refl, Nat.zero_le, List.map_nil, List.map_cons, List.sum_nil, List.sum_cons, c_I, c_J, c_R, c_T, va_rf, hI_wI, hJ_wJ, hR_wR, hI_J, hI_R, hJ_I, hJ_R, hR_I, hR_J, hN_I, hN_J, hN_R, wI_I, wJ_J, upd_at, updL_at, kR_s, Option.toList, List.append_nil, List.nil_append, List.cons_append, if_true, if_false, reduceIte, Bool.false_eq_true, not_true_eq_false, not_false_eq_true, true_and, and_true, false_and, and_false, true_or, or_true,  Nat.reduceEqDiff, Nat.reduceAdd, Nat.reduceLeDiff]
      rw [rX9_burntBy_35, nI_1]
      simp (implicitDefEqProofs := false) only [rX9_burntBy_38, kl_I, kl_J, kl_R, kl_T, kl_N, Nat.le_refl, Nat.zero_le, List.map_nil, List.map_cons, List.sum_nil, List.sum_cons, c_I, c_J, c_R, c_T, va_rf, hI_wI, hJ_wJ, hR_wR, hI_J, hI_R, hJ_I, hJ_R, hR_I, hR_J, hN_I, hN_J, hN_R, wI_I, wJ_J, upd_at, updL_at, kR_s, Option.toList, List.append_nil, List.nil_append, List.cons_append, if_true, if_false, reduceIte, Bool.false_eq_true, not_true_eq_false, not_false_eq_true, true_and, and_true, false_and, and_false, true_or, or_true,  Nat.reduceEqDiff, Nat.reduceAdd, Nat.reduceLeDiff]
      exact i1
theorem c_mburntBy {d : Nat} {h : qH} {s Y y : Nat} {a : aS} {q : Nat → Nat} (F : Fin0 (hR h)) (r : hR h 44 3 = some s) (w : mSt h s a) (t : atR h a q) (hY : Y < 2 ^ 31) (hq : ∀ j, j < aN a → (n9 (q j) ≤ Y ↔ q j ≤ y)) : ∀ Q, WM d mX9_burntBy [.ref (44 : Nat), .int (nI Y)] h Q = Q (some (some (.int (nI (bm (byP q y) (aN a)))))) h := by
  intro Q
  simp (implicitDefEqProofs := false) only [eX9_burntBy, rX9_burntBy_0, rX9_burntBy_1, rX9_burntBy_2, rX9_burntBy_3, kl_I, kl_J, kl_R, kl_T, kl_N, Nat.le_refl, Nat.zero_le, List.map_nil, List.map_cons, List.sum_nil, List.sum_cons, c_I, c_J, c_R, c_T, va_rf, hI_wI, hJ_wJ, hR_wR, hI_J, hI_R, hJ_I, hJ_R, hR_I, hR_J, hN_I, hN_J, hN_R, wI_I, wJ_J, upd_at, updL_at, kR_s, Option.toList, List.append_nil, List.nil_append, List.cons_append, if_true, if_false, reduceIte, Bool.false_eq_true, not_true_eq_false, not_false_eq_true, true_and, and_true, false_and, and_false, true_or, or_true,  Nat.reduceEqDiff, Nat.reduceAdd, Nat.reduceLeDiff]
  exact l_mburntBy F r w t hY hq (aN a) 0 (by omega)
theorem c_mbb {d : Nat} {h : qH} {s y : Nat} {a : aS} {q : Nat → Nat} (F : Fin0 (hR h)) (r : hR h 44 3 = some s) (w : mSt h s a) (t : atR h a q) (hy : y ≤ 999) : ∀ Q, WM d mX9_burntBy [.ref (44 : Nat), .int (nI y)] h Q = Q (some (some (.int (nI (bm (byP q y) (aN a)))))) h := c_mburntBy F r w t (by omega) (fun j _ => by
  unfold n9
  split <;> omega)
theorem c_everBurnt {d : Nat} {h : qH} {s : Nat} {a : aS} {q : Nat → Nat} (F : Fin0 (hR h)) (r : hR h 44 3 = some s) (w : mSt h s a) (t : atR h a q) : ∀ Q, WM (d + 1) mX9_everBurnt [.ref (44 : Nat)] h Q = Q (some (some (.int (nI (popc 6 (bm (byP q 999) (aN a))))))) h := by
  intro Q
  have b := c_mburntBy (d := d) (Y := 9998) (y := 999) F r w t (by omega) (fun j _ => by
    have := t.2.1 j
    unfold n9
    split <;> omega)
  have b6 : bm (byP q 999) (aN a) < 64 := Nat.lt_of_lt_of_le (bm_lt _ _) (p6 w.2.2.1.1)
  simp (implicitDefEqProofs := false) only [eX9_everBurnt, rX9_everBurnt_0, rX9_everBurnt_0b, rX9_everBurnt_1, rX9_everBurnt_4, rX9_everBurnt_7, rX9_everBurnt_10, kA_44, kB_44, pCX9_everBurnt, pSX9_everBurnt, pOX9_everBurnt, pLX9_everBurnt, pCX9_burntBy, pSX9_burntBy, pOX9_burntBy, pLX9_burntBy, pCX9_bits, pSX9_bits, pOX9_bits, pLX9_bits, show (9998 : Int32) = nI 9998 from rfl, b, c_mbits b6, kl_I, kl_J, kl_R, kl_T, kl_N, Nat.le_refl, Nat.zero_le, List.map_nil, List.map_cons, List.sum_nil, List.sum_cons, c_I, c_J, c_R, c_T, va_rf, hI_wI, hJ_wJ, hR_wR, hI_J, hI_R, hJ_I, hJ_R, hR_I, hR_J, hN_I, hN_J, hN_R, wI_I, wJ_J, upd_at, updL_at, kR_s, Option.toList, List.append_nil, List.nil_append, List.cons_append, if_true, if_false, reduceIte, Bool.false_eq_true, not_true_eq_false, not_false_eq_true, true_and, and_true, false_and, and_false, true_or, or_true,  Nat.reduceEqDiff, Nat.reduceAdd, Nat.reduceLeDiff]
