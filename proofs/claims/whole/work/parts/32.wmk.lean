/-! ===== ways made, shown ===== -/
/-- the first glass from a day on -/
def frN (a : aS) (y : Nat) : Nat → Nat → Nat
  | 0, i => i
  | k + 1, i => if aGd a i < y then frN a y k (i + 1) else i
def fr (a : aS) (y : Nat) : Nat := frN a y (aGl a) 0
def glL (a : aS) (y : Nat) : List Nat := (List.range (aGl a - fr a y)).map (fun i => aGd a (fr a y + i))
noncomputable def gW (a : aS) (x : sT) : List (Nat × Nat) := goN a x.2.1 (glL a x.2.2) 0 x.1 0
noncomputable def gR (a : aS) (x : sT) : Nat := rfN a x.2.1 (glL a x.2.2) x.1
theorem frN_le {a : aS} {y : Nat} : ∀ k i, frN a y k i ≤ i + k
  | 0, i => Nat.le_refl _
  | k + 1, i => by
    rw [frN]
    split
    · have := frN_le (a := a) (y := y) k (i + 1); omega
    · omega
theorem fr_le {a : aS} {y : Nat} : fr a y ≤ aGl a := by have := frN_le (a := a) (y := y) (aGl a) 0; unfold fr; omega
theorem glL_len {a : aS} {y : Nat} : (glL a y).length = aGl a - fr a y := by simp [glL]
theorem glL_at {a : aS} {y i : Nat} (h : i < (glL a y).length) : (glL a y).getD i 0 = aGd a (fr a y + i) := by
  rw [glL_len] at h
  simp [glL, List.getD_eq_getElem?_getD, h]
theorem goN_in {a : aS} {wi : Nat} : ∀ (ys : List Nat) (r t g : Nat) (p : Nat × Nat), p ∈ goN a wi ys r t g → t < 2 ^ aN a → g < 2 ^ (4 * r) → aN a ≤ 6 → p.1 < 2 ^ aN a ∧ p.2 < 2 ^ (4 * (r + ys.length))
  | [], r, t, g, p, hp, ht, hg, _ => by
    rw [goN, List.mem_singleton] at hp
    subst hp
    exact ⟨ht, hg⟩
  | y :: ys, r, t, g, p, hp, ht, hg, hn => by
    have e16 : 2 ^ (4 * (r + 1)) = 2 ^ (4 * r) * 16 := by rw [show 4 * (r + 1) = 4 * r + 4 by omega, Nat.pow_add]
    have el : r + (y :: ys).length = r + 1 + ys.length := by simp only [List.length_cons]; omega
    rw [el]
    rw [goN] at hp
    split at hp
    · exact goN_in ys (r + 1) t g p hp ht (by rw [e16]; omega) hn
    · rw [List.mem_flatMap] at hp
      obtain ⟨x, hx, hp⟩ := hp
      rw [List.mem_range] at hx
      split at hp
      · refine goN_in ys (r + 1) _ _ p hp (or_lt ht hx) ?_ hn
        apply Nat.or_lt_two_pow
        · rw [e16]; omega
        · rw [e16, Nat.mul_comm]
          exact Nat.mul_lt_mul_of_pos_left (by omega) (Nat.pow_pos (by omega))
      · cases hp
theorem gW_in {a : aS} (w : aW a) {x : sT} (hx : x.1 < 2 ^ aN a) {p : Nat × Nat} (hp : p ∈ gW a x) : p.1 < 2 ^ aN a ∧ p.2 < 65536 := by
  have := goN_in _ 0 _ 0 p hp hx (by decide) w.1
  refine ⟨this.1, Nat.lt_of_lt_of_le this.2 (p16 ?_)⟩
  have := w.2.2.2.2.2.2.2.1
  rw [glL_len]; omega
theorem gW_len {a : aS} (w : aW a) {x : sT} : (gW a x).length ≤ 1296 := by
  refine Nat.le_trans (goN_len w _ _ _ _) ?_
  have h4 := w.2.2.2.2.2.2.2.1
  have : (glL a x.2.2).length ≤ 4 := by rw [glL_len]; omega
  exact Nat.pow_le_pow_right (n := 6) (by omega) this
def WW (h : qH) (a : aS) (x : sT) : Prop := hI h 37 7 = nI (gW a x).length ∧ hI h 37 8 = nI (glL a x.2.2).length ∧ hI h 37 9 = nI (gR a x) ∧ gR a x < 64 ∧ ∀ i, i < (gW a x).length → hI h 38 i = nI (pw ((gW a x).getD i (0, 0)))
def wM (h : qH) (a : aS) (x : sT) : Prop := hI h 37 6 = 1 ∧ sB x ∧ hI h 37 4 = nI x.2.2 ∧ hI h 37 5 = nI x.1 ∧ hI h 37 2 = nI x.2.1 ∧ WW h a x
def wC (h : qH) (a : aS) : Prop := hI h 37 6 = 0 ∨ ∃ x, wM h a x
theorem l_wfirst {d : Nat} {s : Nat} {a : aS} {y : Nat} (hy : y ≤ 90) {Q : Option (Option Value) → qH → Prop} : ∀ (k i : Nat), i + k = aGl a → ∀ (h : qH) (F : Fin0 (hR h)) (hf : hR h 32 0 = some s) (w : cS h s a) (e3 : hI h 37 3 = nI i) (e4 : hI h 37 4 = nI y), WP d mX6_make (0, 0) 85 [some (.ref (37 : Nat)), some (.ref (29 : Nat))] [] h Q = WP d mX6_make (0, 0) 137 [some (.ref (37 : Nat)), some (.ref (29 : Nat))] [] (wI h 37 (upd (hI h 37) 3 (nI (frN a y k i)))) Q := by
  intro k
  induction k with
  | zero =>
    intro i hi h F hf w e3 e4
    have hs := w.1
    obtain rfl : i = aGl a := by omega
    have e : wI h 37 (upd (hI h 37) 3 (nI (frN a y 0 (aGl a)))) = h := wI_eq (by funext j; rw [upd_at, frN]; split <;> simp_all)
    rw [e]
    simp (implicitDefEqProofs := false) only [rX6_make_85, rX6_make_85b, rX6_make_86, rX6_make_89, rX6_make_89b, rX6_make_90, rX6_make_93, rX6_make_96, rX6_make_99, rX6_make_102, rX6_make_102b, rX6_make_103, rX6_make_106, rX6_make_109, rX6_make_112, rX6_make_112b, rX6_make_113, rX6_make_116, rX6_make_117, rX6_make_117b, rX6_make_118, rX6_make_121, kS0 hs, kS1 hs, kT1 hs, fS1 hs F, kS2 hs, kT2 hs, fS2 hs F, kS3 hs, kT3 hs, fS3 hs F, kS4 hs, kT4 hs, fS4 hs F, kS5 hs, kT5 hs, fS5 hs F, kS6 hs, kT6 hs, fS6 hs F, kS7 hs, kT7 hs, fS7 hs F, kS8 hs, kT8 hs, fS8 hs F, kS9 hs, kT9 hs, fS9 hs F, kS10 hs, kT10 hs, fS10 hs F, kS11 hs, kT11 hs, fS11 hs F, nS hs, nSs hs, fin_37_0 F, fin_37_1 F, kA_32, kB_32, kA_37, kB_37, hf, pCX6_make, pSX6_make, pOX6_make, pLX6_make, e3, w.2.2.1.2.2.2.2.1, Int32.le_refl, kl_I, kl_J, kl_R, kl_T, kl_N, Nat.le_refl, Nat.zero_le, List.map_nil, List.map_cons, List.sum_nil, List.sum_cons, c_I, c_J, c_R, c_T, va_rf, hI_wI, hJ_wJ, hR_wR, hI_J, hI_R, hJ_I, hJ_R, hR_I, hR_J, hN_I, hN_J, hN_R, wI_I, wJ_J, upd_at, updL_at, kR_s, Option.toList, List.append_nil, List.nil_append, List.cons_append, if_true, if_false, reduceIte, Bool.false_eq_true, not_true_eq_false, not_false_eq_true, true_and, and_true, false_and, and_false, true_or, or_true,  Nat.reduceEqDiff, Nat.reduceAdd, Nat.reduceLeDiff]
  | succ k ih =>
    intro i hi h F hf w e3 e4
    have hs := w.1
    have ww := w.2.1
    have h4 := ww.2.2.2.2.2.2.2.1
    have g1 : ¬ nI (aGl a) ≤ nI i := nI_ge (by omega) (by omega)
    have v : vp_in (nI i) 4 := nI_vp (by omega) (by decide)
    have cl : (nI i).toNatClampNeg = i := nI_cl (by omega)
    have gl := w.2.2.2.2.2.1 i (by omega)
    have g30 := ww.2.2.2.2.2.2.2.2.1 i (by omega)
    have ge : (nI y ≤ nI (aGd a i)) = (y ≤ aGd a i) := propext (nI_leI (by omega) (by omega))
    by_cases c : aGd a i < y
    · have hc : ¬ y ≤ aGd a i := by omega
      simp (implicitDefEqProofs := false) only [rX6_make_85, rX6_make_85b, rX6_make_86, rX6_make_89, rX6_make_89b, rX6_make_90, rX6_make_93, rX6_make_96, rX6_make_99, rX6_make_102, rX6_make_102b, rX6_make_103, rX6_make_106, rX6_make_109, rX6_make_112, rX6_make_112b, rX6_make_113, rX6_make_116, rX6_make_117, rX6_make_117b, rX6_make_118, rX6_make_121, rX6_make_124, rX6_make_124b, rX6_make_125, rX6_make_125b, rX6_make_126, rX6_make_129, rX6_make_130, rX6_make_131, kS0 hs, kS1 hs, kT1 hs, fS1 hs F, kS2 hs, kT2 hs, fS2 hs F, kS3 hs, kT3 hs, fS3 hs F, kS4 hs, kT4 hs, fS4 hs F, kS5 hs, kT5 hs, fS5 hs F, kS6 hs, kT6 hs, fS6 hs F, kS7 hs, kT7 hs, fS7 hs F, kS8 hs, kT8 hs, fS8 hs F, kS9 hs, kT9 hs, fS9 hs F, kS10 hs, kT10 hs, fS10 hs F, kS11 hs, kT11 hs, fS11 hs F, nS hs, nSs hs, fin_37_0 F, fin_37_1 F, kA_32, kB_32, kA_37, kB_37, hf, pCX6_make, pSX6_make, pOX6_make, pLX6_make, e3, e4, w.2.2.1.2.2.2.2.1, g1, v, cl, gl, ge, hc, kl_I, kl_J, kl_R, kl_T, kl_N, Nat.le_refl, Nat.zero_le, List.map_nil, List.map_cons, List.sum_nil, List.sum_cons, c_I, c_J, c_R, c_T, va_rf, hI_wI, hJ_wJ, hR_wR, hI_J, hI_R, hJ_I, hJ_R, hR_I, hR_J, hN_I, hN_J, hN_R, wI_I, wJ_J, upd_at, updL_at, kR_s, Option.toList, List.append_nil, List.nil_append, List.cons_append, if_true, if_false, reduceIte, Bool.false_eq_true, not_true_eq_false, not_false_eq_true, true_and, and_true, false_and, and_false, true_or, or_true,  Nat.reduceEqDiff, Nat.reduceAdd, Nat.reduceLeDiff]
      rw [rX6_make_134]
      have := ih (i + 1) (by omega) (wI h 37 (upd (hI h 37) 3 (nI i + 1))) (by rw [hR_I]; exact F) (by rw [hR_I]; exact hf) (cS_w w (by omega)) (by rw [hI_wI, if_pos rfl, upd_at, if_pos rfl, nI_1]) (by rw [hI_wI, if_pos rfl, upd_at, if_neg (by decide)]; exact e4)
      rw [this, wI_I, hI_wI, if_pos rfl, upd_upd, frN, if_pos c]
    · have hc : y ≤ aGd a i := by omega
      have e : wI h 37 (upd (hI h 37) 3 (nI (frN a y (k + 1) i))) = h := wI_eq (by funext j; rw [upd_at, frN, if_neg c]; split <;> simp_all)
      rw [e]
      simp (implicitDefEqProofs := false) only [rX6_make_85, rX6_make_85b, rX6_make_86, rX6_make_89, rX6_make_89b, rX6_make_90, rX6_make_93, rX6_make_96, rX6_make_99, rX6_make_102, rX6_make_102b, rX6_make_103, rX6_make_106, rX6_make_109, rX6_make_112, rX6_make_112b, rX6_make_113, rX6_make_116, rX6_make_117, rX6_make_117b, rX6_make_118, rX6_make_121, kS0 hs, kS1 hs, kT1 hs, fS1 hs F, kS2 hs, kT2 hs, fS2 hs F, kS3 hs, kT3 hs, fS3 hs F, kS4 hs, kT4 hs, fS4 hs F, kS5 hs, kT5 hs, fS5 hs F, kS6 hs, kT6 hs, fS6 hs F, kS7 hs, kT7 hs, fS7 hs F, kS8 hs, kT8 hs, fS8 hs F, kS9 hs, kT9 hs, fS9 hs F, kS10 hs, kT10 hs, fS10 hs F, kS11 hs, kT11 hs, fS11 hs F, nS hs, nSs hs, fin_37_0 F, fin_37_1 F, kA_32, kB_32, kA_37, kB_37, hf, pCX6_make, pSX6_make, pOX6_make, pLX6_make, e3, e4, w.2.2.1.2.2.2.2.1, g1, v, cl, gl, ge, hc, kl_I, kl_J, kl_R, kl_T, kl_N, Nat.le_refl, Nat.zero_le, List.map_nil, List.map_cons, List.sum_nil, List.sum_cons, c_I, c_J, c_R, c_T, va_rf, hI_wI, hJ_wJ, hR_wR, hI_J, hI_R, hJ_I, hJ_R, hR_I, hR_J, hN_I, hN_J, hN_R, wI_I, wJ_J, upd_at, updL_at, kR_s, Option.toList, List.append_nil, List.nil_append, List.cons_append, if_true, if_false, reduceIte, Bool.false_eq_true, not_true_eq_false, not_false_eq_true, true_and, and_true, false_and, and_false, true_or, or_true,  Nat.reduceEqDiff, Nat.reduceAdd, Nat.reduceLeDiff]
theorem c_wMake {d : Nat} {h : qH} {s : Nat} {a : aS} {x : sT} (F : Fin0 (hR h)) (hf : hR h 32 0 = some s) (w : cS h s a) (b : bT h a) (k : wC h a) (hx : x.1 < 2 ^ aN a) (bx : sB x) (e0 : hI h 29 0 = nI x.1) (e1 : hI h 29 1 = nI x.2.1) (e2 : hI h 29 2 = nI x.2.2) : ∃ h', (∀ Q, WM (d + 8) mX6_make [.ref (37 : Nat), .ref (29 : Nat)] h Q = Q (some none) h') ∧ sx [37, 38] h h' ∧ wM h' a x := by
  have hs := w.1
  have ww := w.2.1
  have h4 := ww.2.2.2.2.2.2.2.1
  have hl : (glL a x.2.2).length ≤ 4 := by rw [glL_len]; omega
  have hfr := fr_le (a := a) (y := x.2.2)
  by_cases c : wM h a x
  · refine ⟨h, fun Q => ?_, sx_refl, c⟩
    obtain ⟨c1, c2, c3, c4, c5, c6⟩ := c
    simp (implicitDefEqProofs := false) only [eX6_make, rX6_make_0, rX6_make_0b, rX6_make_1, rX6_make_4, rX6_make_7, rX6_make_7b, rX6_make_8, rX6_make_11, rX6_make_11b, rX6_make_12, rX6_make_15, rX6_make_18, rX6_make_18b, rX6_make_19, rX6_make_22, rX6_make_22b, rX6_make_23, rX6_make_26, rX6_make_29, rX6_make_29b, rX6_make_30, rX6_make_33, rX6_make_33b, rX6_make_34, rX6_make_37, rX6_make_40, fin_37_0 F, fin_37_1 F, kA_29, kB_29, kA_32, kB_32, kA_37, kB_37, pCX6_make, pSX6_make, pOX6_make, pLX6_make, c1, c3, c4, c5, e0, e1, e2, show ¬ (1 : Int32) = 0 from by decide, kl_I, kl_J, kl_R, kl_T, kl_N, Nat.le_refl, Nat.zero_le, List.map_nil, List.map_cons, List.sum_nil, List.sum_cons, c_I, c_J, c_R, c_T, va_rf, hI_wI, hJ_wJ, hR_wR, hI_J, hI_R, hJ_I, hJ_R, hR_I, hR_J, hN_I, hN_J, hN_R, wI_I, wJ_J, upd_at, updL_at, kR_s, Option.toList, List.append_nil, List.nil_append, List.cons_append, if_true, if_false, reduceIte, Bool.false_eq_true, not_true_eq_false, not_false_eq_true, true_and, and_true, false_and, and_false, true_or, or_true,  Nat.reduceEqDiff, Nat.reduceAdd, Nat.reduceLeDiff]
  · let h1 : qH := wI h 37 (upd (upd (upd (upd (upd (upd (upd (hI h 37) 6 1) 4 (nI x.2.2)) 5 (nI x.1)) 2 (nI x.2.1)) 7 0) 9 0) 3 0)
    let h2 : qH := wI h1 37 (upd (hI h1 37) 3 (nI (fr a x.2.2)))
    let h3 : qH := wI h2 37 (upd (hI h2 37) 8 (nI (aGl a - fr a x.2.2)))
    have f1 : Fin0 (hR h1) := F
    have f3 : Fin0 (hR h3) := F
    have hf1 : hR h1 32 0 = some s := hf
    have hf3 : hR h3 32 0 = some s := hf
    have w1 : cS h1 s a := cS_w w (by omega)
    have w3 : cS h3 s a := cS_w (cS_w w1 (by omega)) (by omega)
    have s3 : sx [37, 38] h h3 := sx_w (sx_w (sx_w sx_refl (by simp)) (by simp)) (by simp)
    have b3 : bT h3 a := fun t ht j hj => by rw [s3.2.2.2 35 (by simp)]; exact b t ht j hj
    have q2 : hI h3 37 2 = nI x.2.1 := by simp (implicitDefEqProofs := false) only [h3, h2, h1, hI_wI, upd_at, kl_I, kl_J, kl_R, kl_T, kl_N, Nat.le_refl, Nat.zero_le, List.map_nil, List.map_cons, List.sum_nil, List.sum_cons, c_I, c_J, c_R, c_T, va_rf, hI_wI, hJ_wJ, hR_wR, hI_J, hI_R, hJ_I, hJ_R, hR_I, hR_J, hN_I, hN_J, hN_R, wI_I, wJ_J, upd_at, updL_at, kR_s, Option.toList, List.append_nil, List.nil_append, List.cons_append, if_true, if_false, reduceIte, Bool.false_eq_true, not_true_eq_false, not_false_eq_true, true_and, and_true, false_and, and_false, true_or, or_true,  Nat.reduceEqDiff, Nat.reduceAdd, Nat.reduceLeDiff]
    have q3 : hI h3 37 3 = nI (fr a x.2.2) := by simp (implicitDefEqProofs := false) only [h3, h2, h1, hI_wI, upd_at, kl_I, kl_J, kl_R, kl_T, kl_N, Nat.le_refl, Nat.zero_le, List.map_nil, List.map_cons, List.sum_nil, List.sum_cons, c_I, c_J, c_R, c_T, va_rf, hI_wI, hJ_wJ, hR_wR, hI_J, hI_R, hJ_I, hJ_R, hR_I, hR_J, hN_I, hN_J, hN_R, wI_I, wJ_J, upd_at, updL_at, kR_s, Option.toList, List.append_nil, List.nil_append, List.cons_append, if_true, if_false, reduceIte, Bool.false_eq_true, not_true_eq_false, not_false_eq_true, true_and, and_true, false_and, and_false, true_or, or_true,  Nat.reduceEqDiff, Nat.reduceAdd, Nat.reduceLeDiff]
    have q4 : hI h3 37 4 = nI x.2.2 := by simp (implicitDefEqProofs := false) only [h3, h2, h1, hI_wI, upd_at, kl_I, kl_J, kl_R, kl_T, kl_N, Nat.le_refl, Nat.zero_le, List.map_nil, List.map_cons, List.sum_nil, List.sum_cons, c_I, c_J, c_R, c_T, va_rf, hI_wI, hJ_wJ, hR_wR, hI_J, hI_R, hJ_I, hJ_R, hR_I, hR_J, hN_I, hN_J, hN_R, wI_I, wJ_J, upd_at, updL_at, kR_s, Option.toList, List.append_nil, List.nil_append, List.cons_append, if_true, if_false, reduceIte, Bool.false_eq_true, not_true_eq_false, not_false_eq_true, true_and, and_true, false_and, and_false, true_or, or_true,  Nat.reduceEqDiff, Nat.reduceAdd, Nat.reduceLeDiff]
    have q5 : hI h3 37 5 = nI x.1 := by simp (implicitDefEqProofs := false) only [h3, h2, h1, hI_wI, upd_at, kl_I, kl_J, kl_R, kl_T, kl_N, Nat.le_refl, Nat.zero_le, List.map_nil, List.map_cons, List.sum_nil, List.sum_cons, c_I, c_J, c_R, c_T, va_rf, hI_wI, hJ_wJ, hR_wR, hI_J, hI_R, hJ_I, hJ_R, hR_I, hR_J, hN_I, hN_J, hN_R, wI_I, wJ_J, upd_at, updL_at, kR_s, Option.toList, List.append_nil, List.nil_append, List.cons_append, if_true, if_false, reduceIte, Bool.false_eq_true, not_true_eq_false, not_false_eq_true, true_and, and_true, false_and, and_false, true_or, or_true,  Nat.reduceEqDiff, Nat.reduceAdd, Nat.reduceLeDiff]
    have q6 : hI h3 37 6 = 1 := by simp (implicitDefEqProofs := false) only [h3, h2, h1, hI_wI, upd_at, kl_I, kl_J, kl_R, kl_T, kl_N, Nat.le_refl, Nat.zero_le, List.map_nil, List.map_cons, List.sum_nil, List.sum_cons, c_I, c_J, c_R, c_T, va_rf, hI_wI, hJ_wJ, hR_wR, hI_J, hI_R, hJ_I, hJ_R, hR_I, hR_J, hN_I, hN_J, hN_R, wI_I, wJ_J, upd_at, updL_at, kR_s, Option.toList, List.append_nil, List.nil_append, List.cons_append, if_true, if_false, reduceIte, Bool.false_eq_true, not_true_eq_false, not_false_eq_true, true_and, and_true, false_and, and_false, true_or, or_true,  Nat.reduceEqDiff, Nat.reduceAdd, Nat.reduceLeDiff]
    have q7 : hI h3 37 7 = nI 0 := by simp (implicitDefEqProofs := false) only [h3, h2, h1, hI_wI, upd_at, nI_0, kl_I, kl_J, kl_R, kl_T, kl_N, Nat.le_refl, Nat.zero_le, List.map_nil, List.map_cons, List.sum_nil, List.sum_cons, c_I, c_J, c_R, c_T, va_rf, hI_wI, hJ_wJ, hR_wR, hI_J, hI_R, hJ_I, hJ_R, hR_I, hR_J, hN_I, hN_J, hN_R, wI_I, wJ_J, upd_at, updL_at, kR_s, Option.toList, List.append_nil, List.nil_append, List.cons_append, if_true, if_false, reduceIte, Bool.false_eq_true, not_true_eq_false, not_false_eq_true, true_and, and_true, false_and, and_false, true_or, or_true,  Nat.reduceEqDiff, Nat.reduceAdd, Nat.reduceLeDiff]
    have q8 : hI h3 37 8 = nI (aGl a - fr a x.2.2) := by simp (implicitDefEqProofs := false) only [h3, h2, h1, hI_wI, upd_at, kl_I, kl_J, kl_R, kl_T, kl_N, Nat.le_refl, Nat.zero_le, List.map_nil, List.map_cons, List.sum_nil, List.sum_cons, c_I, c_J, c_R, c_T, va_rf, hI_wI, hJ_wJ, hR_wR, hI_J, hI_R, hJ_I, hJ_R, hR_I, hR_J, hN_I, hN_J, hN_R, wI_I, wJ_J, upd_at, updL_at, kR_s, Option.toList, List.append_nil, List.nil_append, List.cons_append, if_true, if_false, reduceIte, Bool.false_eq_true, not_true_eq_false, not_false_eq_true, true_and, and_true, false_and, and_false, true_or, or_true,  Nat.reduceEqDiff, Nat.reduceAdd, Nat.reduceLeDiff]
    have q9 : hI h3 37 9 = nI 0 := by simp (implicitDefEqProofs := false) only [h3, h2, h1, hI_wI, upd_at, nI_0, kl_I, kl_J, kl_R, kl_T, kl_N, Nat.le_refl, Nat.zero_le, List.map_nil, List.map_cons, List.sum_nil, List.sum_cons, c_I, c_J, c_R, c_T, va_rf, hI_wI, hJ_wJ, hR_wR, hI_J, hI_R, hJ_I, hJ_R, hR_I, hR_J, hN_I, hN_J, hN_R, wI_I, wJ_J, upd_at, updL_at, kR_s, Option.toList, List.append_nil, List.nil_append, List.cons_append, if_true, if_false, reduceIte, Bool.false_eq_true, not_true_eq_false, not_false_eq_true, true_and, and_true, false_and, and_false, true_or, or_true,  Nat.reduceEqDiff, Nat.reduceAdd, Nat.reduceLeDiff]
    have pl : 6 ^ (glL a x.2.2).length ≤ 1296 := Nat.pow_le_pow_right (n := 6) (by omega) hl
    obtain ⟨h', k1, k2, k3⟩ := c_go (d := d + (4 - (glL a x.2.2).length)) (s := s) (a := a) (wi := x.2.1) (fi := fr a x.2.2) (glL a x.2.2) 0 x.1 0 0 0 h3 ⟨f3, hf3, w3, b3, bx.2.1, q2, q3, by rw [q8, glL_len, Nat.zero_add], by rw [glL_len]; omega, fun i hi => by rw [glL_at hi, Nat.add_zero]⟩ hx (by decide) (by omega) (by omega) (by decide) q7 q9
    rw [show d + (4 - (glL a x.2.2).length) + (glL a x.2.2).length + 3 = d + 7 by omega, nI_0] at k1
    have hR0 : gR a x = rfN a x.2.1 (glL a x.2.2) x.1 := rfl
    refine ⟨h', fun Q => ?_, sx_trans s3 k2.1, ?_, bx, ?_, ?_, ?_, ?_, ?_, ?_, ?_, ?_⟩
    · have l1 := l_wfirst (d := d + 8) (a := a) (s := s) bx.2.2 (Q := Q) (aGl a) 0 (by omega) h1 f1 hf1 w1 (by simp (implicitDefEqProofs := false) only [h1, hI_wI, upd_at, nI_0, kl_I, kl_J, kl_R, kl_T, kl_N, Nat.le_refl, Nat.zero_le, List.map_nil, List.map_cons, List.sum_nil, List.sum_cons, c_I, c_J, c_R, c_T, va_rf, hI_wI, hJ_wJ, hR_wR, hI_J, hI_R, hJ_I, hJ_R, hR_I, hR_J, hN_I, hN_J, hN_R, wI_I, wJ_J, upd_at, updL_at, kR_s, Option.toList, List.append_nil, List.nil_append, List.cons_append, if_true, if_false, reduceIte, Bool.false_eq_true, not_true_eq_false, not_false_eq_true, true_and, and_true, false_and, and_false, true_or, or_true,  Nat.reduceEqDiff, Nat.reduceAdd, Nat.reduceLeDiff]) (by simp (implicitDefEqProofs := false) only [h1, hI_wI, upd_at, kl_I, kl_J, kl_R, kl_T, kl_N, Nat.le_refl, Nat.zero_le, List.map_nil, List.map_cons, List.sum_nil, List.sum_cons, c_I, c_J, c_R, c_T, va_rf, hI_wI, hJ_wJ, hR_wR, hI_J, hI_R, hJ_I, hJ_R, hR_I, hR_J, hN_I, hN_J, hN_R, wI_I, wJ_J, upd_at, updL_at, kR_s, Option.toList, List.append_nil, List.nil_append, List.cons_append, if_true, if_false, reduceIte, Bool.false_eq_true, not_true_eq_false, not_false_eq_true, true_and, and_true, false_and, and_false, true_or, or_true,  Nat.reduceEqDiff, Nat.reduceAdd, Nat.reduceLeDiff])
      have tail : WP (d + 8) mX6_make (0, 0) 137 [some (.ref (37 : Nat)), some (.ref (29 : Nat))] [] h2 Q = Q (some none) h' := by
        have fi2 : hI h2 37 3 = nI (fr a x.2.2) := by simp (implicitDefEqProofs := false) only [h2, h1, hI_wI, upd_at, kl_I, kl_J, kl_R, kl_T, kl_N, Nat.le_refl, Nat.zero_le, List.map_nil, List.map_cons, List.sum_nil, List.sum_cons, c_I, c_J, c_R, c_T, va_rf, hI_wI, hJ_wJ, hR_wR, hI_J, hI_R, hJ_I, hJ_R, hR_I, hR_J, hN_I, hN_J, hN_R, wI_I, wJ_J, upd_at, updL_at, kR_s, Option.toList, List.append_nil, List.nil_append, List.cons_append, if_true, if_false, reduceIte, Bool.false_eq_true, not_true_eq_false, not_false_eq_true, true_and, and_true, false_and, and_false, true_or, or_true,  Nat.reduceEqDiff, Nat.reduceAdd, Nat.reduceLeDiff]
        have gl2 : hI h2 s 11 = nI (aGl a) := (cS_w (f := upd (hI h1 37) 3 (nI (fr a x.2.2))) w1 (show 25 ≤ 37 by omega)).2.2.1.2.2.2.2.1
        have hf2 : hR h2 32 0 = some s := hf
        have f2 : Fin0 (hR h2) := F
        have g5 : hI h2 37 5 = nI x.1 := by simp (implicitDefEqProofs := false) only [h2, h1, hI_wI, upd_at, kl_I, kl_J, kl_R, kl_T, kl_N, Nat.le_refl, Nat.zero_le, List.map_nil, List.map_cons, List.sum_nil, List.sum_cons, c_I, c_J, c_R, c_T, va_rf, hI_wI, hJ_wJ, hR_wR, hI_J, hI_R, hJ_I, hJ_R, hR_I, hR_J, hN_I, hN_J, hN_R, wI_I, wJ_J, upd_at, updL_at, kR_s, Option.toList, List.append_nil, List.nil_append, List.cons_append, if_true, if_false, reduceIte, Bool.false_eq_true, not_true_eq_false, not_false_eq_true, true_and, and_true, false_and, and_false, true_or, or_true,  Nat.reduceEqDiff, Nat.reduceAdd, Nat.reduceLeDiff]
        have k1' := k1
        simp only [h3] at k1'
        simp (implicitDefEqProofs := false) only [rX6_make_137, rX6_make_137b, rX6_make_138, rX6_make_138b, rX6_make_139, rX6_make_142, rX6_make_145, rX6_make_148, rX6_make_148b, rX6_make_149, rX6_make_152, rX6_make_153, rX6_make_156, rX6_make_156b, rX6_make_157, rX6_make_158, rX6_make_158b, rX6_make_159, rX6_make_162, rX6_make_163, rX6_make_166, kS0 hs, kS1 hs, kT1 hs, fS1 hs f2, kS2 hs, kT2 hs, fS2 hs f2, kS3 hs, kT3 hs, fS3 hs f2, kS4 hs, kT4 hs, fS4 hs f2, kS5 hs, kT5 hs, fS5 hs f2, kS6 hs, kT6 hs, fS6 hs f2, kS7 hs, kT7 hs, fS7 hs f2, kS8 hs, kT8 hs, fS8 hs f2, kS9 hs, kT9 hs, fS9 hs f2, kS10 hs, kT10 hs, fS10 hs f2, kS11 hs, kT11 hs, fS11 hs f2, nS hs, nSs hs, fin_37_0 f2, fin_37_1 f2, kA_32, kB_32, kA_37, kB_37, hf2, pCX6_make, pSX6_make, pOX6_make, pLX6_make, pCX6_go, pSX6_go, pOX6_go, pLX6_go, fi2, gl2, g5, pk_sub hfr, kl_I, kl_J, kl_R, kl_T, kl_N, Nat.le_refl, Nat.zero_le, List.map_nil, List.map_cons, List.sum_nil, List.sum_cons, c_I, c_J, c_R, c_T, va_rf, hI_wI, hJ_wJ, hR_wR, hI_J, hI_R, hJ_I, hJ_R, hR_I, hR_J, hN_I, hN_J, hN_R, wI_I, wJ_J, upd_at, updL_at, kR_s, Option.toList, List.append_nil, List.nil_append, List.cons_append, if_true, if_false, reduceIte, Bool.false_eq_true, not_true_eq_false, not_false_eq_true, true_and, and_true, false_and, and_false, true_or, or_true,  Nat.reduceEqDiff, Nat.reduceAdd, Nat.reduceLeDiff]
        rw [k1']
        simp (implicitDefEqProofs := false) only [rX6_make_166, kl_I, kl_J, kl_R, kl_T, kl_N, Nat.le_refl, Nat.zero_le, List.map_nil, List.map_cons, List.sum_nil, List.sum_cons, c_I, c_J, c_R, c_T, va_rf, hI_wI, hJ_wJ, hR_wR, hI_J, hI_R, hJ_I, hJ_R, hR_I, hR_J, hN_I, hN_J, hN_R, wI_I, wJ_J, upd_at, updL_at, kR_s, Option.toList, List.append_nil, List.nil_append, List.cons_append, if_true, if_false, reduceIte, Bool.false_eq_true, not_true_eq_false, not_false_eq_true, true_and, and_true, false_and, and_false, true_or, or_true,  Nat.reduceEqDiff, Nat.reduceAdd, Nat.reduceLeDiff]
      by_cases m1 : hI h 37 6 = 0
      · simp (implicitDefEqProofs := false) only [eX6_make, rX6_make_0, rX6_make_0b, rX6_make_1, rX6_make_4, rX6_make_7, rX6_make_7b, rX6_make_8, rX6_make_11, rX6_make_11b, rX6_make_12, rX6_make_15, rX6_make_18, rX6_make_18b, rX6_make_19, rX6_make_22, rX6_make_22b, rX6_make_23, rX6_make_26, rX6_make_29, rX6_make_29b, rX6_make_30, rX6_make_33, rX6_make_33b, rX6_make_34, rX6_make_37, rX6_make_40, rX6_make_41, rX6_make_41b, rX6_make_42, rX6_make_43, rX6_make_46, rX6_make_46b, rX6_make_47, rX6_make_47b, rX6_make_48, rX6_make_51, rX6_make_54, rX6_make_54b, rX6_make_55, rX6_make_55b, rX6_make_56, rX6_make_59, rX6_make_62, rX6_make_62b, rX6_make_63, rX6_make_63b, rX6_make_64, rX6_make_67, rX6_make_70, rX6_make_70b, rX6_make_71, rX6_make_72, rX6_make_75, rX6_make_75b, rX6_make_76, rX6_make_77, rX6_make_80, rX6_make_80b, rX6_make_81, rX6_make_82, fin_37_0 F, fin_37_1 F, kA_29, kB_29, kA_32, kB_32, kA_37, kB_37, pCX6_make, pSX6_make, pOX6_make, pLX6_make, m1, e0, e1, e2, kl_I, kl_J, kl_R, kl_T, kl_N, Nat.le_refl, Nat.zero_le, List.map_nil, List.map_cons, List.sum_nil, List.sum_cons, c_I, c_J, c_R, c_T, va_rf, hI_wI, hJ_wJ, hR_wR, hI_J, hI_R, hJ_I, hJ_R, hR_I, hR_J, hN_I, hN_J, hN_R, wI_I, wJ_J, upd_at, updL_at, kR_s, Option.toList, List.append_nil, List.nil_append, List.cons_append, if_true, if_false, reduceIte, Bool.false_eq_true, not_true_eq_false, not_false_eq_true, true_and, and_true, false_and, and_false, true_or, or_true,  Nat.reduceEqDiff, Nat.reduceAdd, Nat.reduceLeDiff]
        exact l1.trans tail
      · rcases k with k | ⟨x0, k⟩
        · exact absurd k m1
        obtain ⟨c1, c2, c3, c4, c5, c6⟩ := id k
        have ne : ¬ (x0 = x) := fun e => c (e ▸ k)
        have nn : ¬ (x0.2.2 = x.2.2 ∧ x0.1 = x.1 ∧ x0.2.1 = x.2.1) := fun ⟨p, q, r⟩ => ne (Prod.ext q (Prod.ext r p))
        have b2 := c2.2.2
        have b0 := c2.1
        have b1 := c2.2.1
        have bx2 := bx.2.2
        have bx0 := bx.1
        have bx1 := bx.2.1
        have n1 : (nI x0.2.2 = nI x.2.2) = (x0.2.2 = x.2.2) := propext (nI_eq (by omega) (by omega))
        have n2 : (nI x0.1 = nI x.1) = (x0.1 = x.1) := propext (nI_eq (by omega) (by omega))
        have n3 : (nI x0.2.1 = nI x.2.1) = (x0.2.1 = x.2.1) := propext (nI_eq (by omega) (by omega))
        by_cases r1 : x0.2.2 = x.2.2
        · by_cases r2 : x0.1 = x.1
          · have r3 : ¬ x0.2.1 = x.2.1 := fun r => nn ⟨r1, r2, r⟩
            simp (implicitDefEqProofs := false) only [eX6_make, rX6_make_0, rX6_make_0b, rX6_make_1, rX6_make_4, rX6_make_7, rX6_make_7b, rX6_make_8, rX6_make_11, rX6_make_11b, rX6_make_12, rX6_make_15, rX6_make_18, rX6_make_18b, rX6_make_19, rX6_make_22, rX6_make_22b, rX6_make_23, rX6_make_26, rX6_make_29, rX6_make_29b, rX6_make_30, rX6_make_33, rX6_make_33b, rX6_make_34, rX6_make_37, rX6_make_40, rX6_make_41, rX6_make_41b, rX6_make_42, rX6_make_43, rX6_make_46, rX6_make_46b, rX6_make_47, rX6_make_47b, rX6_make_48, rX6_make_51, rX6_make_54, rX6_make_54b, rX6_make_55, rX6_make_55b, rX6_make_56, rX6_make_59, rX6_make_62, rX6_make_62b, rX6_make_63, rX6_make_63b, rX6_make_64, rX6_make_67, rX6_make_70, rX6_make_70b, rX6_make_71, rX6_make_72, rX6_make_75, rX6_make_75b, rX6_make_76, rX6_make_77, rX6_make_80, rX6_make_80b, rX6_make_81, rX6_make_82, fin_37_0 F, fin_37_1 F, kA_29, kB_29, kA_32, kB_32, kA_37, kB_37, pCX6_make, pSX6_make, pOX6_make, pLX6_make, c1, c3, c4, c5, e0, e1, e2, n1, n2, n3, r1, r2, r3, show ¬ (1 : Int32) = 0 from by decide, kl_I, kl_J, kl_R, kl_T, kl_N, Nat.le_refl, Nat.zero_le, List.map_nil, List.map_cons, List.sum_nil, List.sum_cons, c_I, c_J, c_R, c_T, va_rf, hI_wI, hJ_wJ, hR_wR, hI_J, hI_R, hJ_I, hJ_R, hR_I, hR_J, hN_I, hN_J, hN_R, wI_I, wJ_J, upd_at, updL_at, kR_s, Option.toList, List.append_nil, List.nil_append, List.cons_append, if_true, if_false, reduceIte, Bool.false_eq_true, not_true_eq_false, not_false_eq_true, true_and, and_true, false_and, and_false, true_or, or_true,  Nat.reduceEqDiff, Nat.reduceAdd, Nat.reduceLeDiff]
            exact l1.trans tail
          · simp (implicitDefEqProofs := false) only [eX6_make, rX6_make_0, rX6_make_0b, rX6_make_1, rX6_make_4, rX6_make_7, rX6_make_7b, rX6_make_8, rX6_make_11, rX6_make_11b, rX6_make_12, rX6_make_15, rX6_make_18, rX6_make_18b, rX6_make_19, rX6_make_22, rX6_make_22b, rX6_make_23, rX6_make_26, rX6_make_29, rX6_make_29b, rX6_make_30, rX6_make_33, rX6_make_33b, rX6_make_34, rX6_make_37, rX6_make_40, rX6_make_41, rX6_make_41b, rX6_make_42, rX6_make_43, rX6_make_46, rX6_make_46b, rX6_make_47, rX6_make_47b, rX6_make_48, rX6_make_51, rX6_make_54, rX6_make_54b, rX6_make_55, rX6_make_55b, rX6_make_56, rX6_make_59, rX6_make_62, rX6_make_62b, rX6_make_63, rX6_make_63b, rX6_make_64, rX6_make_67, rX6_make_70, rX6_make_70b, rX6_make_71, rX6_make_72, rX6_make_75, rX6_make_75b, rX6_make_76, rX6_make_77, rX6_make_80, rX6_make_80b, rX6_make_81, rX6_make_82, fin_37_0 F, fin_37_1 F, kA_29, kB_29, kA_32, kB_32, kA_37, kB_37, pCX6_make, pSX6_make, pOX6_make, pLX6_make, c1, c3, c4, c5, e0, e1, e2, n1, n2, n3, r1, r2, show ¬ (1 : Int32) = 0 from by decide, kl_I, kl_J, kl_R, kl_T, kl_N, Nat.le_refl, Nat.zero_le, List.map_nil, List.map_cons, List.sum_nil, List.sum_cons, c_I, c_J, c_R, c_T, va_rf, hI_wI, hJ_wJ, hR_wR, hI_J, hI_R, hJ_I, hJ_R, hR_I, hR_J, hN_I, hN_J, hN_R, wI_I, wJ_J, upd_at, updL_at, kR_s, Option.toList, List.append_nil, List.nil_append, List.cons_append, if_true, if_false, reduceIte, Bool.false_eq_true, not_true_eq_false, not_false_eq_true, true_and, and_true, false_and, and_false, true_or, or_true,  Nat.reduceEqDiff, Nat.reduceAdd, Nat.reduceLeDiff]
            exact l1.trans tail
        · simp (implicitDefEqProofs := false) only [eX6_make, rX6_make_0, rX6_make_0b, rX6_make_1, rX6_make_4, rX6_make_7, rX6_make_7b, rX6_make_8, rX6_make_11, rX6_make_11b, rX6_make_12, rX6_make_15, rX6_make_18, rX6_make_18b, rX6_make_19, rX6_make_22, rX6_make_22b, rX6_make_23, rX6_make_26, rX6_make_29, rX6_make_29b, rX6_make_30, rX6_make_33, rX6_make_33b, rX6_make_34, rX6_make_37, rX6_make_40, rX6_make_41, rX6_make_41b, rX6_make_42, rX6_make_43, rX6_make_46, rX6_make_46b, rX6_make_47, rX6_make_47b, rX6_make_48, rX6_make_51, rX6_make_54, rX6_make_54b, rX6_make_55, rX6_make_55b, rX6_make_56, rX6_make_59, rX6_make_62, rX6_make_62b, rX6_make_63, rX6_make_63b, rX6_make_64, rX6_make_67, rX6_make_70, rX6_make_70b, rX6_make_71, rX6_make_72, rX6_make_75, rX6_make_75b, rX6_make_76, rX6_make_77, rX6_make_80, rX6_make_80b, rX6_make_81, rX6_make_82, fin_37_0 F, fin_37_1 F, kA_29, kB_29, kA_32, kB_32, kA_37, kB_37, pCX6_make, pSX6_make, pOX6_make, pLX6_make, c1, c3, c4, c5, e0, e1, e2, n1, n2, n3, r1, show ¬ (1 : Int32) = 0 from by decide, kl_I, kl_J, kl_R, kl_T, kl_N, Nat.le_refl, Nat.zero_le, List.map_nil, List.map_cons, List.sum_nil, List.sum_cons, c_I, c_J, c_R, c_T, va_rf, hI_wI, hJ_wJ, hR_wR, hI_J, hI_R, hJ_I, hJ_R, hR_I, hR_J, hN_I, hN_J, hN_R, wI_I, wJ_J, upd_at, updL_at, kR_s, Option.toList, List.append_nil, List.nil_append, List.cons_append, if_true, if_false, reduceIte, Bool.false_eq_true, not_true_eq_false, not_false_eq_true, true_and, and_true, false_and, and_false, true_or, or_true,  Nat.reduceEqDiff, Nat.reduceAdd, Nat.reduceLeDiff]
          exact l1.trans tail
    · rw [k2.2.1 6 (by decide) (by decide)]; exact q6
    · rw [k2.2.1 4 (by decide) (by decide)]; exact q4
    · rw [k2.2.1 5 (by decide) (by decide)]; exact q5
    · rw [k2.2.1 2 (by decide) (by decide)]; exact q2
    · rw [k2.2.2.1, Nat.zero_add]; rfl
    · rw [k2.2.1 8 (by decide) (by decide), q8, glL_len]
    · rw [k2.2.2.2.1, Nat.zero_or]; rfl
    · rw [Nat.zero_or] at k3; exact k3
    · intro i hi
      have := k2.2.2.2.2.2 i hi
      rw [Nat.zero_add] at this
      exact this
def rgN (p : Nat × Nat) (k : Nat) : Option Nat := if p.2 / 2 ^ (4 * k) % 16 = 0 then none else some (p.2 / 2 ^ (4 * k) % 16 - 1)
theorem pw_r {p : Nat × Nat} {k : Nat} (h1 : p.1 < 64) (h2 : p.2 < 65536) (hk : k < 4) : (nI (pw p) >>> (4 * nI k &&& 31)) &&& 15 = nI (p.2 / 2 ^ (4 * k) % 16) := by
  have hp : pw p < 2 ^ 31 := by unfold pw; omega
  rw [pk_shrN hp _ (4 * k) (sh4 k hk), pk_andN (n := pw p / 2 ^ (4 * k)) (Nat.lt_of_le_of_lt (Nat.div_le_self _ _) (by omega)) 4 (by decide)]
  congr 1
  unfold pw
  rcases (show k = 0 ∨ k = 1 ∨ k = 2 ∨ k = 3 by omega) with rfl | rfl | rfl | rfl <;> simp <;> omega
theorem c_ringOf {d : Nat} {h : qH} {p : Nat × Nat} {i k : Nat} (F : Fin0 (hR h)) (e : hI h 38 i = nI (pw p)) (hi : i < 1296) (h1 : p.1 < 64) (h2 : p.2 < 65536) (hk : k < 4) : ∀ Q, WM d mX6_ringOf [.ref (37 : Nat), .int (nI i), .int (nI k)] h Q = Q (some (some (.int (oI (rgN p k))))) h := by
  intro Q
  have v : vp_in (nI i) 1296 := nI_vp hi (by decide)
  have cl : (nI i).toNatClampNeg = i := nI_cl (by omega)
  have lt : p.2 / 2 ^ (4 * k) % 16 < 16 := Nat.mod_lt _ (by omega)
  unfold rgN
  by_cases c : p.2 / 2 ^ (4 * k) % 16 = 0
  · simp (implicitDefEqProofs := false) only [eX6_ringOf, rX6_ringOf_0, rX6_ringOf_0b, rX6_ringOf_1, rX6_ringOf_4, rX6_ringOf_5, rX6_ringOf_6, rX6_ringOf_7, rX6_ringOf_8, rX6_ringOf_9, rX6_ringOf_10, rX6_ringOf_12, rX6_ringOf_13, rX6_ringOf_14, rX6_ringOf_15, rX6_ringOf_18, rX6_ringOf_20, rX6_ringOf_23, rX6_ringOf_24, rX6_ringOf_25, rX6_ringOf_26, fin_37_0 F, fin_37_1 F, kA_37, kB_37, kA_38, kB_38, pCX6_ringOf, pSX6_ringOf, pOX6_ringOf, pLX6_ringOf, v, cl, e, pw_r h1 h2 hk, c, nI_0, oI, kl_I, kl_J, kl_R, kl_T, kl_N, Nat.le_refl, Nat.zero_le, List.map_nil, List.map_cons, List.sum_nil, List.sum_cons, c_I, c_J, c_R, c_T, va_rf, hI_wI, hJ_wJ, hR_wR, hI_J, hI_R, hJ_I, hJ_R, hR_I, hR_J, hN_I, hN_J, hN_R, wI_I, wJ_J, upd_at, updL_at, kR_s, Option.toList, List.append_nil, List.nil_append, List.cons_append, if_true, if_false, reduceIte, Bool.false_eq_true, not_true_eq_false, not_false_eq_true, true_and, and_true, false_and, and_false, true_or, or_true,  Nat.reduceEqDiff, Nat.reduceAdd, Nat.reduceLeDiff]
  · have c' : ¬ nI (p.2 / 2 ^ (4 * k) % 16) = 0 := nI_ne0 (by omega) (by omega)
    simp (implicitDefEqProofs := false) only [eX6_ringOf, rX6_ringOf_0, rX6_ringOf_0b, rX6_ringOf_1, rX6_ringOf_4, rX6_ringOf_5, rX6_ringOf_6, rX6_ringOf_7, rX6_ringOf_8, rX6_ringOf_9, rX6_ringOf_10, rX6_ringOf_12, rX6_ringOf_13, rX6_ringOf_14, rX6_ringOf_15, rX6_ringOf_18, rX6_ringOf_20, rX6_ringOf_23, rX6_ringOf_24, rX6_ringOf_25, rX6_ringOf_26, fin_37_0 F, fin_37_1 F, kA_37, kB_37, kA_38, kB_38, pCX6_ringOf, pSX6_ringOf, pOX6_ringOf, pLX6_ringOf, v, cl, e, pw_r h1 h2 hk, c, c', oI, show nI (p.2 / 2 ^ (4 * k) % 16) - 1 = nI (p.2 / 2 ^ (4 * k) % 16 - 1) from pk_sub (b := 1) (by omega), kl_I, kl_J, kl_R, kl_T, kl_N, Nat.le_refl, Nat.zero_le, List.map_nil, List.map_cons, List.sum_nil, List.sum_cons, c_I, c_J, c_R, c_T, va_rf, hI_wI, hJ_wJ, hR_wR, hI_J, hI_R, hJ_I, hJ_R, hR_I, hR_J, hN_I, hN_J, hN_R, wI_I, wJ_J, upd_at, updL_at, kR_s, Option.toList, List.append_nil, List.nil_append, List.cons_append, if_true, if_false, reduceIte, Bool.false_eq_true, not_true_eq_false, not_false_eq_true, true_and, and_true, false_and, and_false, true_or, or_true,  Nat.reduceEqDiff, Nat.reduceAdd, Nat.reduceLeDiff]
theorem c_burntOf {d : Nat} {h : qH} {s : Nat} {a : aS} {p : Nat × Nat} {i : Nat} (F : Fin0 (hR h)) (hf : hR h 32 0 = some s) (w : cS h s a) (b : bT h a) (e : hI h 38 i = nI (pw p)) (hi : i < 1296) (h1 : p.1 < 2 ^ aN a) (h2 : p.2 < 65536) : ∀ Q, WM (d + 2) mX6_burntOf [.ref (37 : Nat), .int (nI i)] h Q = Q (some (some (.int (nI (popc 6 (bbN a p.1 60)))))) h := by
  intro Q
  have v : vp_in (nI i) 1296 := nI_vp hi (by decide)
  have cl : (nI i).toNatClampNeg = i := nI_cl (by omega)
  have t6 := tIx w.2.1 h1
  have hp : pw p < 2 ^ 31 := by unfold pw; omega
  have sh : nI (pw p) >>> ((16 : Int32) &&& 31) = nI p.1 := by
    rw [pk_shrN hp _ 16 (by decide)]
    congr 1
    unfold pw
    omega
  have bb := c_burntBy (d := d) F hf w b h1 (y := 60) (by omega)
  have b6 : bbN a p.1 60 < 64 := Nat.lt_of_lt_of_le (bm_lt _ _) (p6 w.2.1.1)
  simp (implicitDefEqProofs := false) only [eX6_burntOf, rX6_burntOf_0, rX6_burntOf_0b, rX6_burntOf_1, rX6_burntOf_4, rX6_burntOf_4b, rX6_burntOf_5, rX6_burntOf_8, rX6_burntOf_9, rX6_burntOf_10, rX6_burntOf_12, rX6_burntOf_13, rX6_burntOf_15, rX6_burntOf_18, rX6_burntOf_21, fin_37_0 F, fin_37_1 F, kA_32, kB_32, kA_37, kB_37, kA_38, kB_38, pCX6_burntOf, pSX6_burntOf, pOX6_burntOf, pLX6_burntOf, pCX0_burntBy, pSX0_burntBy, pOX0_burntBy, pLX0_burntBy, pCJ6_bitCount_0f7a4, pSJ6_bitCount_0f7a4, pOJ6_bitCount_0f7a4, pLJ6_bitCount_0f7a4, v, cl, e, sh, show (60 : Int32) = nI 60 from rfl, bb, c_bitCount b6, kl_I, kl_J, kl_R, kl_T, kl_N, Nat.le_refl, Nat.zero_le, List.map_nil, List.map_cons, List.sum_nil, List.sum_cons, c_I, c_J, c_R, c_T, va_rf, hI_wI, hJ_wJ, hR_wR, hI_J, hI_R, hJ_I, hJ_R, hR_I, hR_J, hN_I, hN_J, hN_R, wI_I, wJ_J, upd_at, updL_at, kR_s, Option.toList, List.append_nil, List.nil_append, List.cons_append, if_true, if_false, reduceIte, Bool.false_eq_true, not_true_eq_false, not_false_eq_true, true_and, and_true, false_and, and_false, true_or, or_true,  Nat.reduceEqDiff, Nat.reduceAdd, Nat.reduceLeDiff]
