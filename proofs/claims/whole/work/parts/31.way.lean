/-! ===== ways ===== -/
/-- all ways from a ring on: who was told, the rings in fours of bits -/
noncomputable def goN (a : aS) (wi : Nat) : List Nat → Nat → Nat → Nat → List (Nat × Nat)
  | [], _, t, g => [(t, g)]
  | y :: ys, r, t, g => if agN a t wi y = 0 then goN a wi ys (r + 1) t g else (List.range (aN a)).flatMap (fun x => if (agN a t wi y).testBit x = true then goN a wi ys (r + 1) (t ||| 2 ^ x) (g ||| (x + 1) * 2 ^ (4 * r)) else [])
def orL (f : Nat → Nat) : Nat → Nat
  | 0 => 0
  | n + 1 => orL f n ||| f n
/-- for whom it rings by some way -/
noncomputable def rfN (a : aS) (wi : Nat) : List Nat → Nat → Nat
  | [], _ => 0
  | y :: ys, t => if agN a t wi y = 0 then rfN a wi ys t else agN a t wi y ||| orL (fun x => if (agN a t wi y).testBit x = true then rfN a wi ys (t ||| 2 ^ x) else 0) (aN a)
def pw (x : Nat × Nat) : Nat := x.1 * 65536 + x.2
theorem agN_lt {a : aS} (w : aW a) {t wi y : Nat} : agN a t wi y < 64 := Nat.lt_of_lt_of_le (bm_lt _ _) (p6 w.1)
theorem goN_len {a : aS} (w : aW a) {wi : Nat} : ∀ (ys : List Nat) (r t g : Nat), (goN a wi ys r t g).length ≤ 6 ^ ys.length
  | [], _, _, _ => by simp [goN]
  | y :: ys, r, t, g => by
    rw [goN]
    split
    · exact Nat.le_trans (goN_len (wi := wi) w ys (r + 1) t g) (Nat.pow_le_pow_right (by omega) (by simp))
    · have key : ∀ k, ((List.range k).flatMap (fun x => if (agN a t wi y).testBit x = true then goN a wi ys (r + 1) (t ||| 2 ^ x) (g ||| (x + 1) * 2 ^ (4 * r)) else [])).length ≤ k * 6 ^ ys.length := by
        intro k
        induction k with
        | zero => simp
        | succ k ih =>
          rw [List.range_succ, List.flatMap_append, List.length_append]
          have h3 : ((fun x => if (agN a t wi y).testBit x = true then goN a wi ys (r + 1) (t ||| 2 ^ x) (g ||| (x + 1) * 2 ^ (4 * r)) else []) k).length ≤ 6 ^ ys.length := by
            simp only
            split
            · exact goN_len w ys _ _ _
            · simp
          simp only [List.flatMap_cons, List.flatMap_nil, List.append_nil]
          exact Nat.le_trans (Nat.add_le_add ih h3) (Nat.le_of_eq (Nat.succ_mul k (6 ^ ys.length)).symm)
      have h4 : aN a * 6 ^ ys.length ≤ 6 * 6 ^ ys.length := Nat.mul_le_mul_right _ w.1
      rw [List.length_cons, Nat.pow_succ, Nat.mul_comm (6 ^ ys.length)]
      exact Nat.le_trans (key (aN a)) h4
/-- behind a part of the search: the ways found, for whom it rang -/
def gP (h h' : qH) (c f : Nat) (L : List (Nat × Nat)) (rf : Nat) : Prop := sx [37, 38] h h' ∧ (∀ j, j ≠ 7 → j ≠ 9 → hI h' 37 j = hI h 37 j) ∧ hI h' 37 7 = nI (c + L.length) ∧ hI h' 37 9 = nI (f ||| rf) ∧ (∀ i, i < c → hI h' 38 i = hI h 38 i) ∧ ∀ i, i < L.length → hI h' 38 (c + i) = nI (pw (L.getD i (0, 0)))
theorem gP_app {h h1 h2 : qH} {c f : Nat} {L K : List (Nat × Nat)} {r1 r2 : Nat} (p : gP h h1 c f L r1) (q : gP h1 h2 (c + L.length) (f ||| r1) K r2) : gP h h2 c f (L ++ K) (r1 ||| r2) := by
  obtain ⟨p1, p2, p3, p4, p5, p6⟩ := p
  obtain ⟨q1, q2, q3, q4, q5, q6⟩ := q
  refine ⟨sx_trans p1 q1, fun j h1 h2 => (q2 j h1 h2).trans (p2 j h1 h2), ?_, ?_, fun i hi => (q5 i (by omega)).trans (p5 i hi), fun i hi => ?_⟩
  · rw [q3, List.length_append]; congr 1; omega
  · rw [q4, Nat.or_assoc]
  · by_cases hl : i < L.length
    · rw [q5 _ (by omega), p6 i hl]
      simp only [List.getD_eq_getElem?_getD]
      rw [List.getElem?_append_left hl]
    · have := q6 (i - L.length) (by rw [List.length_append] at hi; omega)
      rw [show c + L.length + (i - L.length) = c + i by omega] at this
      rw [this]
      simp only [List.getD_eq_getElem?_getD]
      rw [List.getElem?_append_right (by omega)]
theorem pw_e {t g : Nat} (ht : t < 64) (hg : g < 65536) : nI t <<< ((16 : Int32) &&& 31) ||| nI g = nI (pw (t, g)) := by
  rw [pk_shlN _ 16 (by decide) (by omega), bt_or]
  congr 1
  have e1 : 2 ^ 16 * t + g = 2 ^ 16 * t ||| g := Nat.two_pow_add_eq_or_of_lt (by omega) _
  rw [Nat.mul_comm t (2 ^ 16), ← e1]
  unfold pw
  simp only
  omega
theorem sh4 : ∀ r, r < 4 → (((4 : Int32) * nI r &&& 31).toBitVec.smod 32).toNat = 4 * r := by decide +kernel
theorem p16 {r : Nat} (h : r ≤ 4) : 2 ^ (4 * r) ≤ 65536 := by
  rcases (show r = 0 ∨ r = 1 ∨ r = 2 ∨ r = 3 ∨ r = 4 by omega) with rfl | rfl | rfl | rfl | rfl <;> decide
/-- what a search rests on -/
def gI (h : qH) (s : Nat) (a : aS) (wi fi : Nat) (ys : List Nat) (r : Nat) : Prop := Fin0 (hR h) ∧ hR h 32 0 = some s ∧ cS h s a ∧ bT h a ∧ wi < 64 ∧ hI h 37 2 = nI wi ∧ hI h 37 3 = nI fi ∧ hI h 37 8 = nI (r + ys.length) ∧ fi + r + ys.length ≤ aGl a ∧ ∀ i, i < ys.length → aGd a (fi + r + i) = ys.getD i 0
theorem gI_mv {h h' : qH} {s : Nat} {a : aS} {wi fi : Nat} {ys : List Nat} {r c f rf : Nat} {L : List (Nat × Nat)} (p : gI h s a wi fi ys r) (g : gP h h' c f L rf) : gI h' s a wi fi ys r := by
  obtain ⟨p1, p2, p3, p4, p5, p6, p7, p8, p9, p10⟩ := p
  refine ⟨Fin_sx p1 g.1, by rw [g.1.1]; exact p2, cS_sx p3 g.1 (by simp), ?_, p5, by rw [g.2.1 2 (by omega) (by omega)]; exact p6, by rw [g.2.1 3 (by omega) (by omega)]; exact p7, by rw [g.2.1 8 (by omega) (by omega)]; exact p8, p9, p10⟩
  intro t ht j hj
  rw [g.1.2.2.2 35 (by simp)]
  exact p4 t ht j hj
theorem gI_nx {h : qH} {s : Nat} {a : aS} {wi fi y : Nat} {ys : List Nat} {r : Nat} (p : gI h s a wi fi (y :: ys) r) : gI h s a wi fi ys (r + 1) := by
  obtain ⟨p1, p2, p3, p4, p5, p6, p7, p8, p9, p10⟩ := p
  simp only [List.length_cons] at p8 p9 p10
  refine ⟨p1, p2, p3, p4, p5, p6, p7, by rw [p8]; congr 1; omega, by omega, fun i hi => ?_⟩
  have := p10 (i + 1) (by omega)
  rw [show fi + (r + 1) + i = fi + r + (i + 1) by omega, this]
  rfl
set_option maxHeartbeats 4000000 in
theorem c_go {d : Nat} {s : Nat} {a : aS} {wi fi : Nat} : ∀ (ys : List Nat) (r t g c f : Nat) (h : qH) (_ : gI h s a wi fi ys r) (_ : t < 2 ^ aN a) (_ : g < 2 ^ (4 * r)) (_ : r + ys.length ≤ 4) (_ : c + 6 ^ ys.length ≤ 1296) (_ : f < 64) (_ : hI h 37 7 = nI c) (_ : hI h 37 9 = nI f), ∃ h', (∀ Q, WM (d + ys.length + 3) mX6_go [.ref (37 : Nat), .int (nI r), .int (nI t), .int (nI g)] h Q = Q (some none) h') ∧ gP h h' c f (goN a wi ys r t g) (rfN a wi ys t) ∧ f ||| rfN a wi ys t < 64 := by
  intro ys
  induction ys with
  | nil =>
    intro r t g c f h hI0 ht hg hr hc hf e7 e9
    obtain ⟨F, hf0, w, b, hw, e2, e3, e8, hgl, hgd⟩ := hI0
    simp only [List.length_nil, Nat.add_zero, Nat.pow_zero] at e8 hc hr hgl
    have t6 := tIx w.2.1 ht
    have p16' := p16 hr
    have v : vp_in (nI c) 1296 := nI_vp (by omega) (by decide)
    have cl : (nI c).toNatClampNeg = c := nI_cl (by omega)
    refine ⟨wI (wI h 38 (upd (hI h 38) c (nI (pw (t, g))))) 37 (upd (hI h 37) 7 (nI (c + 1))), fun Q => ?_, ⟨sx_w (sx_w sx_refl (by simp)) (by simp), fun j h1 h2 => ?_, ?_, ?_, fun i hi => ?_, fun i hi => ?_⟩, by simp [rfN]; exact hf⟩
    · simp (implicitDefEqProofs := false) only [eX6_go, rX6_go_0, rX6_go_1, rX6_go_1b, rX6_go_2, rX6_go_5, rX6_go_8, rX6_go_9, rX6_go_10, rX6_go_13, rX6_go_13b, rX6_go_14, rX6_go_17, rX6_go_20, rX6_go_23, rX6_go_23b, rX6_go_24, rX6_go_27, rX6_go_27b, rX6_go_28, rX6_go_31, rX6_go_32, rX6_go_34, rX6_go_35, rX6_go_36, rX6_go_37, rX6_go_38, rX6_go_38b, rX6_go_39, rX6_go_39b, rX6_go_40, rX6_go_43, rX6_go_44, rX6_go_45, rX6_go_48, fin_37_0 F, fin_37_1 F, kA_37, kB_37, kA_38, kB_38, pCX6_go, pSX6_go, pOX6_go, pLX6_go, e8, e7, Int32.le_refl, nge (x := c) (k := 1296) (c := 1296) rfl (by omega) (by omega), show ¬ 1296 ≤ c from by omega, v, cl, pw_e (t := t) (g := g) t6.2 (by omega), nI_1, kl_I, kl_J, kl_R, kl_T, kl_N, Nat.le_refl, Nat.zero_le, List.map_nil, List.map_cons, List.sum_nil, List.sum_cons, c_I, c_J, c_R, c_T, va_rf, hI_wI, hJ_wJ, hR_wR, hI_J, hI_R, hJ_I, hJ_R, hR_I, hR_J, hN_I, hN_J, hN_R, wI_I, wJ_J, upd_at, updL_at, kR_s, Option.toList, List.append_nil, List.nil_append, List.cons_append, if_true, if_false, reduceIte, Bool.false_eq_true, not_true_eq_false, not_false_eq_true, true_and, and_true, false_and, and_false, true_or, or_true,  Nat.reduceEqDiff, Nat.reduceAdd, Nat.reduceLeDiff]
    · simp (implicitDefEqProofs := false) only [hI_wI, upd_at, h1, kl_I, kl_J, kl_R, kl_T, kl_N, Nat.le_refl, Nat.zero_le, List.map_nil, List.map_cons, List.sum_nil, List.sum_cons, c_I, c_J, c_R, c_T, va_rf, hI_wI, hJ_wJ, hR_wR, hI_J, hI_R, hJ_I, hJ_R, hR_I, hR_J, hN_I, hN_J, hN_R, wI_I, wJ_J, upd_at, updL_at, kR_s, Option.toList, List.append_nil, List.nil_append, List.cons_append, if_true, if_false, reduceIte, Bool.false_eq_true, not_true_eq_false, not_false_eq_true, true_and, and_true, false_and, and_false, true_or, or_true,  Nat.reduceEqDiff, Nat.reduceAdd, Nat.reduceLeDiff]
    · simp (implicitDefEqProofs := false) only [hI_wI, upd_at, goN, List.length_cons, List.length_nil, kl_I, kl_J, kl_R, kl_T, kl_N, Nat.le_refl, Nat.zero_le, List.map_nil, List.map_cons, List.sum_nil, List.sum_cons, c_I, c_J, c_R, c_T, va_rf, hI_wI, hJ_wJ, hR_wR, hI_J, hI_R, hJ_I, hJ_R, hR_I, hR_J, hN_I, hN_J, hN_R, wI_I, wJ_J, upd_at, updL_at, kR_s, Option.toList, List.append_nil, List.nil_append, List.cons_append, if_true, if_false, reduceIte, Bool.false_eq_true, not_true_eq_false, not_false_eq_true, true_and, and_true, false_and, and_false, true_or, or_true,  Nat.reduceEqDiff, Nat.reduceAdd, Nat.reduceLeDiff]
    · simp (implicitDefEqProofs := false) only [hI_wI, upd_at, rfN, Nat.or_zero, kl_I, kl_J, kl_R, kl_T, kl_N, Nat.le_refl, Nat.zero_le, List.map_nil, List.map_cons, List.sum_nil, List.sum_cons, c_I, c_J, c_R, c_T, va_rf, hI_wI, hJ_wJ, hR_wR, hI_J, hI_R, hJ_I, hJ_R, hR_I, hR_J, hN_I, hN_J, hN_R, wI_I, wJ_J, upd_at, updL_at, kR_s, Option.toList, List.append_nil, List.nil_append, List.cons_append, if_true, if_false, reduceIte, Bool.false_eq_true, not_true_eq_false, not_false_eq_true, true_and, and_true, false_and, and_false, true_or, or_true,  Nat.reduceEqDiff, Nat.reduceAdd, Nat.reduceLeDiff]
      exact e9
    · simp (implicitDefEqProofs := false) only [hI_wI, upd_at, show ¬ i = c from by omega, kl_I, kl_J, kl_R, kl_T, kl_N, Nat.le_refl, Nat.zero_le, List.map_nil, List.map_cons, List.sum_nil, List.sum_cons, c_I, c_J, c_R, c_T, va_rf, hI_wI, hJ_wJ, hR_wR, hI_J, hI_R, hJ_I, hJ_R, hR_I, hR_J, hN_I, hN_J, hN_R, wI_I, wJ_J, upd_at, updL_at, kR_s, Option.toList, List.append_nil, List.nil_append, List.cons_append, if_true, if_false, reduceIte, Bool.false_eq_true, not_true_eq_false, not_false_eq_true, true_and, and_true, false_and, and_false, true_or, or_true,  Nat.reduceEqDiff, Nat.reduceAdd, Nat.reduceLeDiff]
    · simp only [goN, List.length_cons, List.length_nil] at hi
      obtain rfl : i = 0 := by omega
      simp (implicitDefEqProofs := false) only [hI_wI, upd_at, goN, Nat.add_zero, List.getD_cons_zero, kl_I, kl_J, kl_R, kl_T, kl_N, Nat.le_refl, Nat.zero_le, List.map_nil, List.map_cons, List.sum_nil, List.sum_cons, c_I, c_J, c_R, c_T, va_rf, hI_wI, hJ_wJ, hR_wR, hI_J, hI_R, hJ_I, hJ_R, hR_I, hR_J, hN_I, hN_J, hN_R, wI_I, wJ_J, upd_at, updL_at, kR_s, Option.toList, List.append_nil, List.nil_append, List.cons_append, if_true, if_false, reduceIte, Bool.false_eq_true, not_true_eq_false, not_false_eq_true, true_and, and_true, false_and, and_false, true_or, or_true,  Nat.reduceEqDiff, Nat.reduceAdd, Nat.reduceLeDiff]
  | cons y ys ih =>
    intro r t g c f h hI0 ht hg hr hc hf e7 e9
    have hI1 := gI_nx hI0
    obtain ⟨F, hf0, w, b, hw, e2, e3, e8, hgl, hgd⟩ := hI0
    have hs := w.1
    have ww := w.2.1
    have w3 := w.2.2.1
    have w6 := w.2.2.2.2.2.1
    have h6 := ww.1
    have h4 := ww.2.2.2.2.2.2.2.1
    have t6 := tIx ww ht
    simp only [List.length_cons] at e8 hr hgl hgd hc
    have gd0 := hgd 0 (by omega)
    simp only [Nat.add_zero, List.getD_cons_zero] at gd0
    have y30 : y ≤ 30 := by rw [← gd0]; exact ww.2.2.2.2.2.2.2.2.1 _ (by omega)
    have g1 : ¬ nI (r + (ys.length + 1)) ≤ nI r := nI_ge (by omega) (by omega)
    have v4 : vp_in (nI (fi + r)) 4 := nI_vp (by omega) (by decide)
    have cl4 : (nI (fi + r)).toNatClampNeg = fi + r := nI_cl (by omega)
    have gl := w6 (fi + r) (by omega)
    rw [gd0] at gl
    have ag := c_agreeing (d := d + ys.length + 1) F hf0 w b ht hw (on := y) (by omega)
    have ag6 := agN_lt ww (t := t) (wi := wi) (y := y)
    have hpow : 6 ^ (ys.length + 1) = 6 * 6 ^ ys.length := by rw [Nat.pow_succ, Nat.mul_comm]
    have dd : d + (y :: ys).length + 3 = (d + ys.length + 3) + 1 := by simp only [List.length_cons]; omega
    have pos6 : 0 < 6 ^ ys.length := Nat.pow_pos (by omega)
    have p16' : 2 ^ (4 * (r + 1)) = 2 ^ (4 * r) * 16 := by rw [show 4 * (r + 1) = 4 * r + 4 by omega, Nat.pow_add]
    rw [goN, rfN, dd]
    by_cases c0 : agN a t wi y = 0
    · rw [if_pos c0, if_pos c0]
      obtain ⟨h', k1, k2, k3⟩ := ih (r + 1) t g c f h hI1 ht (by rw [p16']; omega) (by omega) (by omega) hf e7 e9
      refine ⟨h', fun Q => ?_, k2, k3⟩
      rw [← nI_1] at k1
      simp (implicitDefEqProofs := false) only [eX6_go, rX6_go_0, rX6_go_1, rX6_go_1b, rX6_go_2, rX6_go_5, rX6_go_8, rX6_go_9, rX6_go_10, rX6_go_13, rX6_go_13b, rX6_go_14, rX6_go_17, rX6_go_20, rX6_go_23, rX6_go_23b, rX6_go_24, rX6_go_27, rX6_go_27b, rX6_go_28, rX6_go_31, rX6_go_32, rX6_go_34, rX6_go_35, rX6_go_36, rX6_go_37, rX6_go_38, rX6_go_38b, rX6_go_39, rX6_go_39b, rX6_go_40, rX6_go_43, rX6_go_44, rX6_go_45, rX6_go_48, rX6_go_49, rX6_go_49b, rX6_go_50, rX6_go_53, rX6_go_54, rX6_go_54b, rX6_go_55, rX6_go_58, rX6_go_58b, rX6_go_59, rX6_go_62, rX6_go_65, rX6_go_68, rX6_go_68b, rX6_go_69, rX6_go_72, rX6_go_73, rX6_go_74, rX6_go_75, rX6_go_78, rX6_go_80, rX6_go_82, rX6_go_85, rX6_go_85b, rX6_go_86, rX6_go_87, rX6_go_88, rX6_go_89, rX6_go_90, rX6_go_91, rX6_go_94, kS0 hs, kS1 hs, kT1 hs, fS1 hs F, kS2 hs, kT2 hs, fS2 hs F, kS3 hs, kT3 hs, fS3 hs F, kS4 hs, kT4 hs, fS4 hs F, kS5 hs, kT5 hs, fS5 hs F, kS6 hs, kT6 hs, fS6 hs F, kS7 hs, kT7 hs, fS7 hs F, kS8 hs, kT8 hs, fS8 hs F, kS9 hs, kT9 hs, fS9 hs F, kS10 hs, kT10 hs, fS10 hs F, kS11 hs, kT11 hs, fS11 hs F, nS hs, nSs hs, fin_37_0 F, fin_37_1 F, kA_32, kB_32, kA_37, kB_37, kA_38, kB_38, hf0, pCX6_go, pSX6_go, pOX6_go, pLX6_go, pCX0_agreeing, pSX0_agreeing, pOX0_agreeing, pLX0_agreeing, e8, g1, nlt (x := r) (k := 4) (c := 4) rfl (by omega) (by omega), show r < 4 from by omega, e2, e3, nI_add, v4, cl4, gl, ag, c0, show nI 0 = 0 from rfl, k1, kl_I, kl_J, kl_R, kl_T, kl_N, Nat.le_refl, Nat.zero_le, List.map_nil, List.map_cons, List.sum_nil, List.sum_cons, c_I, c_J, c_R, c_T, va_rf, hI_wI, hJ_wJ, hR_wR, hI_J, hI_R, hJ_I, hJ_R, hR_I, hR_J, hN_I, hN_J, hN_R, wI_I, wJ_J, upd_at, updL_at, kR_s, Option.toList, List.append_nil, List.nil_append, List.cons_append, if_true, if_false, reduceIte, Bool.false_eq_true, not_true_eq_false, not_false_eq_true, true_and, and_true, false_and, and_false, true_or, or_true,  Nat.reduceEqDiff, Nat.reduceAdd, Nat.reduceLeDiff]
    · rw [if_neg c0, if_neg c0]
      have loop : ∀ (k i : Nat), i + k = aN a → ∀ (h1 : qH) (L : List (Nat × Nat)) (rf : Nat) (_ : gP h h1 c f L rf) (_ : f ||| rf < 64) (_ : L = (List.range i).flatMap (fun x => if (agN a t wi y).testBit x = true then goN a wi ys (r + 1) (t ||| 2 ^ x) (g ||| (x + 1) * 2 ^ (4 * r)) else [])) (_ : rf = agN a t wi y ||| orL (fun x => if (agN a t wi y).testBit x = true then rfN a wi ys (t ||| 2 ^ x) else 0) i) (_ : L.length ≤ i * 6 ^ ys.length), ∃ h', (∀ Q, WP (d + ys.length + 3 + 1) mX6_go (0, 0) 109 [some (.ref (37 : Nat)), some (.int (nI r)), some (.int (nI t)), some (.int (nI g)), some (.int (nI (agN a t wi y))), some (.int (nI i))] [] h1 Q = Q (some none) h') ∧ gP h h' c f ((List.range (aN a)).flatMap (fun x => if (agN a t wi y).testBit x = true then goN a wi ys (r + 1) (t ||| 2 ^ x) (g ||| (x + 1) * 2 ^ (4 * r)) else [])) (agN a t wi y ||| orL (fun x => if (agN a t wi y).testBit x = true then rfN a wi ys (t ||| 2 ^ x) else 0) (aN a)) ∧ f ||| (agN a t wi y ||| orL (fun x => if (agN a t wi y).testBit x = true then rfN a wi ys (t ||| 2 ^ x) else 0) (aN a)) < 64 := by
        intro k
        induction k with
        | zero =>
          intro i hi h1 L rf p1 p2 p3 p4 p5
          obtain rfl : i = aN a := by omega
          obtain ⟨F1, f1, w1, -⟩ := gI_mv hI1 p1
          subst p3; subst p4
          refine ⟨h1, fun Q => ?_, p1, p2⟩
          simp (implicitDefEqProofs := false) only [rX6_go_109, rX6_go_111, rX6_go_111b, rX6_go_112, rX6_go_115, rX6_go_118, rX6_go_121, rX6_go_124, rX6_go_126, rX6_go_128, rX6_go_129, rX6_go_130, rX6_go_131, rX6_go_132, rX6_go_135, rX6_go_135b, rX6_go_136, rX6_go_137, rX6_go_138, rX6_go_139, rX6_go_140, rX6_go_141, rX6_go_143, rX6_go_144, rX6_go_145, rX6_go_146, rX6_go_148, rX6_go_149, rX6_go_150, rX6_go_151, rX6_go_152, rX6_go_153, rX6_go_154, rX6_go_155, rX6_go_158, rX6_go_164, kS0 hs, kS1 hs, kT1 hs, fS1 hs F1, kS2 hs, kT2 hs, fS2 hs F1, kS3 hs, kT3 hs, fS3 hs F1, kS4 hs, kT4 hs, fS4 hs F1, kS5 hs, kT5 hs, fS5 hs F1, kS6 hs, kT6 hs, fS6 hs F1, kS7 hs, kT7 hs, fS7 hs F1, kS8 hs, kT8 hs, fS8 hs F1, kS9 hs, kT9 hs, fS9 hs F1, kS10 hs, kT10 hs, fS10 hs F1, kS11 hs, kT11 hs, fS11 hs F1, nS hs, nSs hs, fin_37_0 F1, fin_37_1 F1, kA_32, kB_32, kA_37, kB_37, kA_38, kB_38, f1, pCX6_go, pSX6_go, pOX6_go, pLX6_go, w1.2.2.1.2.1, Int32.le_refl, kl_I, kl_J, kl_R, kl_T, kl_N, Nat.le_refl, Nat.zero_le, List.map_nil, List.map_cons, List.sum_nil, List.sum_cons, c_I, c_J, c_R, c_T, va_rf, hI_wI, hJ_wJ, hR_wR, hI_J, hI_R, hJ_I, hJ_R, hR_I, hR_J, hN_I, hN_J, hN_R, wI_I, wJ_J, upd_at, updL_at, kR_s, Option.toList, List.append_nil, List.nil_append, List.cons_append, if_true, if_false, reduceIte, Bool.false_eq_true, not_true_eq_false, not_false_eq_true, true_and, and_true, false_and, and_false, true_or, or_true,  Nat.reduceEqDiff, Nat.reduceAdd, Nat.reduceLeDiff]
        | succ k ihk =>
          intro i hi h1 L rf p1 p2 p3 p4 p5
          have hlt : i < aN a := by omega
          have I1 := gI_mv hI1 p1
          obtain ⟨F1, f1, w1, b1, -, e21, e31, e81, -⟩ := id I1
          have g2 : ¬ nI (aN a) ≤ nI i := nI_ge hlt (by omega)
          have bt := bt_t (t := agN a t wi y) (j := i) (by omega) (by omega)
          by_cases c1 : (agN a t wi y).testBit i = true
          · have gl2 : g ||| (i + 1) * 2 ^ (4 * r) < 2 ^ (4 * (r + 1)) := by
              apply Nat.or_lt_two_pow
              · rw [p16']; omega
              · rw [p16', Nat.mul_comm]
                exact Nat.mul_lt_mul_of_pos_left (by omega) (Nat.pow_pos (by omega))
            have h16 := p16 (r := r) (by omega)
            have le1 : L.length + 6 ^ ys.length ≤ 6 * 6 ^ ys.length := by
              have : (i + 1) * 6 ^ ys.length ≤ 6 * 6 ^ ys.length := Nat.mul_le_mul_right _ (by omega)
              rw [Nat.succ_mul] at this
              omega
            obtain ⟨h2, k1, k2, k3⟩ := ih (r + 1) (t ||| 2 ^ i) (g ||| (i + 1) * 2 ^ (4 * r)) (c + L.length) (f ||| rf) h1 I1 (or_lt ht hlt) gl2 (by omega) (by omega) p2 p1.2.2.1 p1.2.2.2.1
            have p6 := gP_app p1 k2
            have ln := goN_len ww (wi := wi) ys (r + 1) (t ||| 2 ^ i) (g ||| (i + 1) * 2 ^ (4 * r))
            obtain ⟨h', m1, m2, m3⟩ := ihk (i + 1) (by omega) h2 _ _ p6 (by rw [← Nat.or_assoc]; exact k3) (by rw [List.range_succ, List.flatMap_append, p3]; simp [c1]) (by rw [p4, orL, if_pos c1, Nat.or_assoc]) (by rw [List.length_append]; exact Nat.le_trans (Nat.add_le_add p5 ln) (Nat.le_of_eq (Nat.succ_mul i (6 ^ ys.length)).symm))
            refine ⟨h', fun Q => ?_, m2, m3⟩
            have m4 := m1 Q
            rw [← nI_1] at m4
            rw [← nI_1] at k1
            have sh : (nI i + 1) <<< (4 * nI r &&& 31) = nI ((i + 1) * 2 ^ (4 * r)) := by
              rw [nI_1]
              exact pk_shlN _ (4 * r) (sh4 r (by omega)) (by have : (i + 1) * 2 ^ (4 * r) ≤ 6 * 65536 := Nat.mul_le_mul (by omega) h16; omega)
            simp (implicitDefEqProofs := false) only [rX6_go_109, rX6_go_111, rX6_go_111b, rX6_go_112, rX6_go_115, rX6_go_118, rX6_go_121, rX6_go_124, rX6_go_126, rX6_go_128, rX6_go_129, rX6_go_130, rX6_go_131, rX6_go_132, rX6_go_135, rX6_go_135b, rX6_go_136, rX6_go_137, rX6_go_138, rX6_go_139, rX6_go_140, rX6_go_141, rX6_go_143, rX6_go_144, rX6_go_145, rX6_go_146, rX6_go_148, rX6_go_149, rX6_go_150, rX6_go_151, rX6_go_152, rX6_go_153, rX6_go_154, rX6_go_155, rX6_go_158, rX6_go_164, kS0 hs, kS1 hs, kT1 hs, fS1 hs F1, kS2 hs, kT2 hs, fS2 hs F1, kS3 hs, kT3 hs, fS3 hs F1, kS4 hs, kT4 hs, fS4 hs F1, kS5 hs, kT5 hs, fS5 hs F1, kS6 hs, kT6 hs, fS6 hs F1, kS7 hs, kT7 hs, fS7 hs F1, kS8 hs, kT8 hs, fS8 hs F1, kS9 hs, kT9 hs, fS9 hs F1, kS10 hs, kT10 hs, fS10 hs F1, kS11 hs, kT11 hs, fS11 hs F1, nS hs, nSs hs, fin_37_0 F1, fin_37_1 F1, kA_32, kB_32, kA_37, kB_37, kA_38, kB_38, f1, pCX6_go, pSX6_go, pOX6_go, pLX6_go, w1.2.2.1.2.1, g2, bt, c1, bt_shl (j := i) (by omega), bt_or, sh, k1, kl_I, kl_J, kl_R, kl_T, kl_N, Nat.le_refl, Nat.zero_le, List.map_nil, List.map_cons, List.sum_nil, List.sum_cons, c_I, c_J, c_R, c_T, va_rf, hI_wI, hJ_wJ, hR_wR, hI_J, hI_R, hJ_I, hJ_R, hR_I, hR_J, hN_I, hN_J, hN_R, wI_I, wJ_J, upd_at, updL_at, kR_s, Option.toList, List.append_nil, List.nil_append, List.cons_append, if_true, if_false, reduceIte, Bool.false_eq_true, not_true_eq_false, not_false_eq_true, true_and, and_true, false_and, and_false, true_or, or_true,  Nat.reduceEqDiff, Nat.reduceAdd, Nat.reduceLeDiff]
            rw [rX6_go_161]
            exact m4
          · obtain ⟨h', m1, m2, m3⟩ := ihk (i + 1) (by omega) h1 L rf p1 p2 (by rw [List.range_succ, List.flatMap_append, p3]; simp [c1]) (by rw [p4, orL, if_neg c1, Nat.or_zero]) (Nat.le_trans p5 (Nat.mul_le_mul_right _ (Nat.le_succ i)))
            refine ⟨h', fun Q => ?_, m2, m3⟩
            have m4 := m1 Q
            rw [← nI_1] at m4
            simp (implicitDefEqProofs := false) only [rX6_go_109, rX6_go_111, rX6_go_111b, rX6_go_112, rX6_go_115, rX6_go_118, rX6_go_121, rX6_go_124, rX6_go_126, rX6_go_128, rX6_go_129, rX6_go_130, rX6_go_131, rX6_go_132, rX6_go_135, rX6_go_135b, rX6_go_136, rX6_go_137, rX6_go_138, rX6_go_139, rX6_go_140, rX6_go_141, rX6_go_143, rX6_go_144, rX6_go_145, rX6_go_146, rX6_go_148, rX6_go_149, rX6_go_150, rX6_go_151, rX6_go_152, rX6_go_153, rX6_go_154, rX6_go_155, rX6_go_158, rX6_go_164, kS0 hs, kS1 hs, kT1 hs, fS1 hs F1, kS2 hs, kT2 hs, fS2 hs F1, kS3 hs, kT3 hs, fS3 hs F1, kS4 hs, kT4 hs, fS4 hs F1, kS5 hs, kT5 hs, fS5 hs F1, kS6 hs, kT6 hs, fS6 hs F1, kS7 hs, kT7 hs, fS7 hs F1, kS8 hs, kT8 hs, fS8 hs F1, kS9 hs, kT9 hs, fS9 hs F1, kS10 hs, kT10 hs, fS10 hs F1, kS11 hs, kT11 hs, fS11 hs F1, nS hs, nSs hs, fin_37_0 F1, fin_37_1 F1, kA_32, kB_32, kA_37, kB_37, kA_38, kB_38, f1, pCX6_go, pSX6_go, pOX6_go, pLX6_go, w1.2.2.1.2.1, g2, bt, c1, show ¬ (0 : Int32) = 1 from by decide, kl_I, kl_J, kl_R, kl_T, kl_N, Nat.le_refl, Nat.zero_le, List.map_nil, List.map_cons, List.sum_nil, List.sum_cons, c_I, c_J, c_R, c_T, va_rf, hI_wI, hJ_wJ, hR_wR, hI_J, hI_R, hJ_I, hJ_R, hR_I, hR_J, hN_I, hN_J, hN_R, wI_I, wJ_J, upd_at, updL_at, kR_s, Option.toList, List.append_nil, List.nil_append, List.cons_append, if_true, if_false, reduceIte, Bool.false_eq_true, not_true_eq_false, not_false_eq_true, true_and, and_true, false_and, and_false, true_or, or_true,  Nat.reduceEqDiff, Nat.reduceAdd, Nat.reduceLeDiff]
            rw [rX6_go_161]
            exact m4
      have p0 : gP h (wI h 37 (upd (hI h 37) 9 (nI (f ||| agN a t wi y)))) c f [] (agN a t wi y ||| 0) := by
        refine ⟨sx_w sx_refl (by simp), fun j h1 h2 => ?_, ?_, ?_, fun i hi => ?_, fun i hi => by simp at hi⟩
        · simp (implicitDefEqProofs := false) only [hI_wI, upd_at, h2, kl_I, kl_J, kl_R, kl_T, kl_N, Nat.le_refl, Nat.zero_le, List.map_nil, List.map_cons, List.sum_nil, List.sum_cons, c_I, c_J, c_R, c_T, va_rf, hI_wI, hJ_wJ, hR_wR, hI_J, hI_R, hJ_I, hJ_R, hR_I, hR_J, hN_I, hN_J, hN_R, wI_I, wJ_J, upd_at, updL_at, kR_s, Option.toList, List.append_nil, List.nil_append, List.cons_append, if_true, if_false, reduceIte, Bool.false_eq_true, not_true_eq_false, not_false_eq_true, true_and, and_true, false_and, and_false, true_or, or_true,  Nat.reduceEqDiff, Nat.reduceAdd, Nat.reduceLeDiff]
        · simp (implicitDefEqProofs := false) only [hI_wI, upd_at, List.length_nil, Nat.add_zero, kl_I, kl_J, kl_R, kl_T, kl_N, Nat.le_refl, Nat.zero_le, List.map_nil, List.map_cons, List.sum_nil, List.sum_cons, c_I, c_J, c_R, c_T, va_rf, hI_wI, hJ_wJ, hR_wR, hI_J, hI_R, hJ_I, hJ_R, hR_I, hR_J, hN_I, hN_J, hN_R, wI_I, wJ_J, upd_at, updL_at, kR_s, Option.toList, List.append_nil, List.nil_append, List.cons_append, if_true, if_false, reduceIte, Bool.false_eq_true, not_true_eq_false, not_false_eq_true, true_and, and_true, false_and, and_false, true_or, or_true,  Nat.reduceEqDiff, Nat.reduceAdd, Nat.reduceLeDiff]
          exact e7
        · simp (implicitDefEqProofs := false) only [hI_wI, upd_at, Nat.or_zero, kl_I, kl_J, kl_R, kl_T, kl_N, Nat.le_refl, Nat.zero_le, List.map_nil, List.map_cons, List.sum_nil, List.sum_cons, c_I, c_J, c_R, c_T, va_rf, hI_wI, hJ_wJ, hR_wR, hI_J, hI_R, hJ_I, hJ_R, hR_I, hR_J, hN_I, hN_J, hN_R, wI_I, wJ_J, upd_at, updL_at, kR_s, Option.toList, List.append_nil, List.nil_append, List.cons_append, if_true, if_false, reduceIte, Bool.false_eq_true, not_true_eq_false, not_false_eq_true, true_and, and_true, false_and, and_false, true_or, or_true,  Nat.reduceEqDiff, Nat.reduceAdd, Nat.reduceLeDiff]
        · simp (implicitDefEqProofs := false) only [hI_wI, kl_I, kl_J, kl_R, kl_T, kl_N, Nat.le_refl, Nat.zero_le, List.map_nil, List.map_cons, List.sum_nil, List.sum_cons, c_I, c_J, c_R, c_T, va_rf, hI_wI, hJ_wJ, hR_wR, hI_J, hI_R, hJ_I, hJ_R, hR_I, hR_J, hN_I, hN_J, hN_R, wI_I, wJ_J, upd_at, updL_at, kR_s, Option.toList, List.append_nil, List.nil_append, List.cons_append, if_true, if_false, reduceIte, Bool.false_eq_true, not_true_eq_false, not_false_eq_true, true_and, and_true, false_and, and_false, true_or, or_true,  Nat.reduceEqDiff, Nat.reduceAdd, Nat.reduceLeDiff]
      obtain ⟨h', m1, m2, m3⟩ := loop (aN a) 0 (by omega) _ [] (agN a t wi y ||| 0) p0 (by rw [Nat.or_zero]; exact Nat.or_lt_two_pow (n := 6) (by omega) (by omega)) (by simp) rfl (by simp)
      refine ⟨h', fun Q => ?_, m2, m3⟩
      have m4 := m1 Q
      have c0' : ¬ nI (agN a t wi y) = 0 := nI_ne0 (by omega) (by omega)
      simp (implicitDefEqProofs := false) only [eX6_go, rX6_go_0, rX6_go_1, rX6_go_1b, rX6_go_2, rX6_go_5, rX6_go_8, rX6_go_9, rX6_go_10, rX6_go_13, rX6_go_13b, rX6_go_14, rX6_go_17, rX6_go_20, rX6_go_23, rX6_go_23b, rX6_go_24, rX6_go_27, rX6_go_27b, rX6_go_28, rX6_go_31, rX6_go_32, rX6_go_34, rX6_go_35, rX6_go_36, rX6_go_37, rX6_go_38, rX6_go_38b, rX6_go_39, rX6_go_39b, rX6_go_40, rX6_go_43, rX6_go_44, rX6_go_45, rX6_go_48, rX6_go_49, rX6_go_49b, rX6_go_50, rX6_go_53, rX6_go_54, rX6_go_54b, rX6_go_55, rX6_go_58, rX6_go_58b, rX6_go_59, rX6_go_62, rX6_go_65, rX6_go_68, rX6_go_68b, rX6_go_69, rX6_go_72, rX6_go_73, rX6_go_74, rX6_go_75, rX6_go_78, rX6_go_80, rX6_go_82, rX6_go_85, rX6_go_85b, rX6_go_86, rX6_go_87, rX6_go_88, rX6_go_89, rX6_go_90, rX6_go_91, rX6_go_94, rX6_go_95, rX6_go_95b, rX6_go_96, rX6_go_96b, rX6_go_97, rX6_go_100, rX6_go_102, rX6_go_103, rX6_go_106, rX6_go_107, kS0 hs, kS1 hs, kT1 hs, fS1 hs F, kS2 hs, kT2 hs, fS2 hs F, kS3 hs, kT3 hs, fS3 hs F, kS4 hs, kT4 hs, fS4 hs F, kS5 hs, kT5 hs, fS5 hs F, kS6 hs, kT6 hs, fS6 hs F, kS7 hs, kT7 hs, fS7 hs F, kS8 hs, kT8 hs, fS8 hs F, kS9 hs, kT9 hs, fS9 hs F, kS10 hs, kT10 hs, fS10 hs F, kS11 hs, kT11 hs, fS11 hs F, nS hs, nSs hs, fin_37_0 F, fin_37_1 F, kA_32, kB_32, kA_37, kB_37, kA_38, kB_38, hf0, pCX6_go, pSX6_go, pOX6_go, pLX6_go, pCX0_agreeing, pSX0_agreeing, pOX0_agreeing, pLX0_agreeing, e8, g1, nlt (x := r) (k := 4) (c := 4) rfl (by omega) (by omega), show r < 4 from by omega, e2, e3, e9, nI_add, v4, cl4, gl, ag, c0', bt_or, kl_I, kl_J, kl_R, kl_T, kl_N, Nat.le_refl, Nat.zero_le, List.map_nil, List.map_cons, List.sum_nil, List.sum_cons, c_I, c_J, c_R, c_T, va_rf, hI_wI, hJ_wJ, hR_wR, hI_J, hI_R, hJ_I, hJ_R, hR_I, hR_J, hN_I, hN_J, hN_R, wI_I, wJ_J, upd_at, updL_at, kR_s, Option.toList, List.append_nil, List.nil_append, List.cons_append, if_true, if_false, reduceIte, Bool.false_eq_true, not_true_eq_false, not_false_eq_true, true_and, and_true, false_and, and_false, true_or, or_true,  Nat.reduceEqDiff, Nat.reduceAdd, Nat.reduceLeDiff]
      exact m4
