/-! ===== all that fits ===== -/
def gM (h : qH) (a : aS) : Prop := hI h 39 5 = 1 ∧ hI h 39 6 = nI (fiL a).length ∧ gA h a (fiL a) ∧ tyH h (tyN a (fiL a))
def gC (h : qH) (a : aS) : Prop := hI h 39 5 = 0 ∨ gM h a
theorem fiB_in {a : aS} {n g : Nat} (h : g ∈ fiB a n) : g < n := by
  unfold fiB at h
  rw [List.mem_filter, List.mem_range] at h
  exact h.1
theorem fiB_len {a : aS} {n : Nat} : (fiB a n).length ≤ n := by
  have := List.length_filter_le (asRung a) (List.range n)
  rw [List.length_range] at this
  exact this
theorem fiB_s {a : aS} {n : Nat} : fiB a (n + 1) = fiB a n ++ (if asRung a n = true then [n] else []) := by
  unfold fiB
  rw [List.range_succ, List.filter_append]
  congr 1
  by_cases c : asRung a n = true
  · rw [if_pos c]; simp [c]
  · rw [if_neg c]; simp [c]
theorem l_all {d : Nat} {h : qH} {s : Nat} {a : aS} {o3 : Option Value} (F : Fin0 (hR h)) (hf : hR h 32 0 = some s) (w : cS h s a) {Q : Option (Option Value) → qH → Prop} : ∀ (k i : Nat), i + k = aUn a → WP d mX1_make (0, 0) 22 [some (.ref (39 : Nat)), some (.int (nI (11 ^ i))), some (.int (nI i)), o3] [] h Q = WP d mX1_make (0, 0) 47 [some (.ref (39 : Nat)), some (.int (nI (11 ^ aUn a))), some (.int (nI (aUn a))), o3] [] h Q := by
  have hs := w.1
  have h2 := w.2.1.2.2.2.2.2.2.2.2.2.2.1
  intro k
  induction k with
  | zero =>
    intro i hi
    obtain rfl : i = aUn a := by omega
    simp (implicitDefEqProofs := false) only [rX1_make_22, rX1_make_23, rX1_make_23b, rX1_make_24, rX1_make_27, rX1_make_30, rX1_make_33, rX1_make_36, rX1_make_37, rX1_make_39, rX1_make_40, rX1_make_41, kS0 hs, kS1 hs, kT1 hs, fS1 hs F, kS2 hs, kT2 hs, fS2 hs F, kS3 hs, kT3 hs, fS3 hs F, kS4 hs, kT4 hs, fS4 hs F, kS5 hs, kT5 hs, fS5 hs F, kS6 hs, kT6 hs, fS6 hs F, kS7 hs, kT7 hs, fS7 hs F, kS8 hs, kT8 hs, fS8 hs F, kS9 hs, kT9 hs, fS9 hs F, kS10 hs, kT10 hs, fS10 hs F, kS11 hs, kT11 hs, fS11 hs F, nS hs, nSs hs, fin_39_0 F, fin_39_1 F, fin_39_2 F, fin_39_3 F, fin_39_4 F, kA_32, kB_32, kA_39, kB_39, hf, pCX1_make, pSX1_make, pOX1_make, pLX1_make, w.2.2.1.2.2.2.2.2.1, Int32.le_refl, kl_I, kl_J, kl_R, kl_T, kl_N, Nat.le_refl, Nat.zero_le, List.map_nil, List.map_cons, List.sum_nil, List.sum_cons, c_I, c_J, c_R, c_T, va_rf, hI_wI, hJ_wJ, hR_wR, hI_J, hI_R, hJ_I, hJ_R, hR_I, hR_J, hN_I, hN_J, hN_R, wI_I, wJ_J, upd_at, updL_at, kR_s, Option.toList, List.append_nil, List.nil_append, List.cons_append, if_true, if_false, reduceIte, Bool.false_eq_true, not_true_eq_false, not_false_eq_true, true_and, and_true, false_and, and_false, true_or, or_true,  Nat.reduceEqDiff, Nat.reduceAdd, Nat.reduceLeDiff]
  | succ k ih =>
    intro i hi
    have g1 : ¬ nI (aUn a) ≤ nI i := nI_ge (by omega) (by omega)
    simp (implicitDefEqProofs := false) only [rX1_make_22, rX1_make_23, rX1_make_23b, rX1_make_24, rX1_make_27, rX1_make_30, rX1_make_33, rX1_make_36, rX1_make_37, rX1_make_39, rX1_make_40, rX1_make_41, kS0 hs, kS1 hs, kT1 hs, fS1 hs F, kS2 hs, kT2 hs, fS2 hs F, kS3 hs, kT3 hs, fS3 hs F, kS4 hs, kT4 hs, fS4 hs F, kS5 hs, kT5 hs, fS5 hs F, kS6 hs, kT6 hs, fS6 hs F, kS7 hs, kT7 hs, fS7 hs F, kS8 hs, kT8 hs, fS8 hs F, kS9 hs, kT9 hs, fS9 hs F, kS10 hs, kT10 hs, fS10 hs F, kS11 hs, kT11 hs, fS11 hs F, nS hs, nSs hs, fin_39_0 F, fin_39_1 F, fin_39_2 F, fin_39_3 F, fin_39_4 F, kA_32, kB_32, kA_39, kB_39, hf, pCX1_make, pSX1_make, pOX1_make, pLX1_make, w.2.2.1.2.2.2.2.2.1, g1, kl_I, kl_J, kl_R, kl_T, kl_N, Nat.le_refl, Nat.zero_le, List.map_nil, List.map_cons, List.sum_nil, List.sum_cons, c_I, c_J, c_R, c_T, va_rf, hI_wI, hJ_wJ, hR_wR, hI_J, hI_R, hJ_I, hJ_R, hR_I, hR_J, hN_I, hN_J, hN_R, wI_I, wJ_J, upd_at, updL_at, kR_s, Option.toList, List.append_nil, List.nil_append, List.cons_append, if_true, if_false, reduceIte, Bool.false_eq_true, not_true_eq_false, not_false_eq_true, true_and, and_true, false_and, and_false, true_or, or_true,  Nat.reduceEqDiff, Nat.reduceAdd, Nat.reduceLeDiff]
    rw [rX1_make_44, nI_1, show nI (11 ^ i) * 11 = nI (11 ^ (i + 1)) from by rw [show (11 : Int32) = nI 11 from rfl, nI_mul, Nat.pow_succ]]
    exact ih (i + 1) (by omega)
theorem l_gu {d : Nat} {h : qH} {s : Nat} {a : aS} {g : Nat} {al : Int32} (F : Fin0 (hR h)) (hf : hR h 32 0 = some s) (w : cS h s a) (hg : g < 121) {Q : Option (Option Value) → qH → Prop} : ∀ (k i : Nat), i + k = aUn a → WP (d + 1) mX1_make (0, 0) 65 [some (.ref (39 : Nat)), some (.int al), some (.int (nI g)), some (.int (nI i))] [] (wI h 40 (fil i (fun u => oI (gdN a g u)) (hI h 40))) Q = WP (d + 1) mX1_make (0, 0) 97 [some (.ref (39 : Nat)), some (.int al), some (.int (nI g)), some (.int (nI (aUn a)))] [] (wI h 40 (fil (aUn a) (fun u => oI (gdN a g u)) (hI h 40))) Q := by
  have hs := w.1
  have h2 := w.2.1.2.2.2.2.2.2.2.2.2.2.1
  intro k
  induction k with
  | zero =>
    intro i hi
    obtain rfl : i = aUn a := by omega
    simp (implicitDefEqProofs := false) only [rX1_make_65, rX1_make_66, rX1_make_66b, rX1_make_67, rX1_make_70, rX1_make_73, rX1_make_76, rX1_make_79, rX1_make_79b, rX1_make_80, rX1_make_83, rX1_make_84, rX1_make_84b, rX1_make_85, rX1_make_86, rX1_make_87, rX1_make_90, rX1_make_91, kS0 hs, kS1 hs, kT1 hs, fS1 hs F, kS2 hs, kT2 hs, fS2 hs F, kS3 hs, kT3 hs, fS3 hs F, kS4 hs, kT4 hs, fS4 hs F, kS5 hs, kT5 hs, fS5 hs F, kS6 hs, kT6 hs, fS6 hs F, kS7 hs, kT7 hs, fS7 hs F, kS8 hs, kT8 hs, fS8 hs F, kS9 hs, kT9 hs, fS9 hs F, kS10 hs, kT10 hs, fS10 hs F, kS11 hs, kT11 hs, fS11 hs F, nS hs, nSs hs, fin_39_0 F, fin_39_1 F, fin_39_2 F, fin_39_3 F, fin_39_4 F, kA_32, kB_32, kA_39, kB_39, hf, pCX1_make, pSX1_make, pOX1_make, pLX1_make, w.2.2.1.2.2.2.2.2.1, Int32.le_refl, kl_I, kl_J, kl_R, kl_T, kl_N, Nat.le_refl, Nat.zero_le, List.map_nil, List.map_cons, List.sum_nil, List.sum_cons, c_I, c_J, c_R, c_T, va_rf, hI_wI, hJ_wJ, hR_wR, hI_J, hI_R, hJ_I, hJ_R, hR_I, hR_J, hN_I, hN_J, hN_R, wI_I, wJ_J, upd_at, updL_at, kR_s, Option.toList, List.append_nil, List.nil_append, List.cons_append, if_true, if_false, reduceIte, Bool.false_eq_true, not_true_eq_false, not_false_eq_true, true_and, and_true, false_and, and_false, true_or, or_true,  Nat.reduceEqDiff, Nat.reduceAdd, Nat.reduceLeDiff]
  | succ k ih =>
    intro i hi
    have g1 : ¬ nI (aUn a) ≤ nI i := nI_ge (by omega) (by omega)
    have v : vp_in (nI i) 2 := nI_vp (by omega) (by decide)
    have cl : (nI i).toNatClampNeg = i := nI_cl (by omega)
    have gd := c_guessed (d := d) (u := i) (show Fin0 (hR (wI h 40 (fil i (fun u => oI (gdN a g u)) (hI h 40)))) from F) hf (cS_w w (by omega)) hg (by omega)
    simp (implicitDefEqProofs := false) only [rX1_make_65, rX1_make_66, rX1_make_66b, rX1_make_67, rX1_make_70, rX1_make_73, rX1_make_76, rX1_make_79, rX1_make_79b, rX1_make_80, rX1_make_83, rX1_make_84, rX1_make_84b, rX1_make_85, rX1_make_86, rX1_make_87, rX1_make_90, rX1_make_91, kS0 hs, kS1 hs, kT1 hs, fS1 hs F, kS2 hs, kT2 hs, fS2 hs F, kS3 hs, kT3 hs, fS3 hs F, kS4 hs, kT4 hs, fS4 hs F, kS5 hs, kT5 hs, fS5 hs F, kS6 hs, kT6 hs, fS6 hs F, kS7 hs, kT7 hs, fS7 hs F, kS8 hs, kT8 hs, fS8 hs F, kS9 hs, kT9 hs, fS9 hs F, kS10 hs, kT10 hs, fS10 hs F, kS11 hs, kT11 hs, fS11 hs F, nS hs, nSs hs, fin_39_0 F, fin_39_1 F, fin_39_2 F, fin_39_3 F, fin_39_4 F, kA_32, kB_32, kA_39, kB_39, kA_40, kB_40, hf, pCX1_make, pSX1_make, pOX1_make, pLX1_make, pCX1_guessed, pSX1_guessed, pOX1_guessed, pLX1_guessed, w.2.2.1.2.2.2.2.2.1, g1, v, cl, gd, kl_I, kl_J, kl_R, kl_T, kl_N, Nat.le_refl, Nat.zero_le, List.map_nil, List.map_cons, List.sum_nil, List.sum_cons, c_I, c_J, c_R, c_T, va_rf, hI_wI, hJ_wJ, hR_wR, hI_J, hI_R, hJ_I, hJ_R, hR_I, hR_J, hN_I, hN_J, hN_R, wI_I, wJ_J, upd_at, updL_at, kR_s, Option.toList, List.append_nil, List.nil_append, List.cons_append, if_true, if_false, reduceIte, Bool.false_eq_true, not_true_eq_false, not_false_eq_true, true_and, and_true, false_and, and_false, true_or, or_true,  Nat.reduceEqDiff, Nat.reduceAdd, Nat.reduceLeDiff]
    rw [rX1_make_94, nI_1]
    have := ih (i + 1) (by omega)
    rw [← fil_s] at this
    exact this
set_option maxHeartbeats 2000000 in
theorem l_gmk {d : Nat} {s : Nat} {a : aS} : ∀ (k g : Nat), g + k = 11 ^ aUn a → ∀ (h : qH) (o3 : Option Value) (F : Fin0 (hR h)) (hf : hR h 32 0 = some s) (w : cS h s a) (e6 : hI h 39 6 = nI (fiB a g).length) (gA0 : gA h a (fiB a g)), ∃ h' o3', (∀ Q, WP (d + 3) mX1_make (0, 0) 49 [some (.ref (39 : Nat)), some (.int (nI (11 ^ aUn a))), some (.int (nI g)), o3] [] h Q = WP (d + 3) mX1_make (0, 0) 175 [some (.ref (39 : Nat)), some (.int (nI (11 ^ aUn a))), some (.int (nI (11 ^ aUn a))), o3'] [] h' Q) ∧ sx [33, 34, 39, 40, 42, 43] h h' ∧ (∀ j, j ≠ 6 → hI h' 39 j = hI h 39 j) ∧ hI h' 39 6 = nI (fiL a).length ∧ gA h' a (fiL a) := by
  intro k
  induction k with
  | zero =>
    intro g hg h o3 F hf w e6 gA0
    obtain rfl : g = 11 ^ aUn a := by omega
    refine ⟨h, o3, fun Q => ?_, sx_refl, fun _ _ => rfl, e6, gA0⟩
    simp (implicitDefEqProofs := false) only [rX1_make_49, rX1_make_50, rX1_make_51, rX1_make_54, rX1_make_54b, rX1_make_55, rX1_make_58, rX1_make_60, fin_39_0 F, fin_39_1 F, fin_39_2 F, fin_39_3 F, fin_39_4 F, kA_39, kB_39, pCX1_make, pSX1_make, pOX1_make, pLX1_make, Int32.le_refl, kl_I, kl_J, kl_R, kl_T, kl_N, Nat.le_refl, Nat.zero_le, List.map_nil, List.map_cons, List.sum_nil, List.sum_cons, c_I, c_J, c_R, c_T, va_rf, hI_wI, hJ_wJ, hR_wR, hI_J, hI_R, hJ_I, hJ_R, hR_I, hR_J, hN_I, hN_J, hN_R, wI_I, wJ_J, upd_at, updL_at, kR_s, Option.toList, List.append_nil, List.nil_append, List.cons_append, if_true, if_false, reduceIte, Bool.false_eq_true, not_true_eq_false, not_false_eq_true, true_and, and_true, false_and, and_false, true_or, or_true,  Nat.reduceEqDiff, Nat.reduceAdd, Nat.reduceLeDiff]
  | succ k ih =>
    intro g hg h o3 F hf w e6 gA0
    have hs := w.1
    have ww := w.2.1
    have w3 := w.2.2.1
    have n6 := ww.1
    have al := p11 ww
    have gl : g < 121 := by omega
    have len := fiB_len (a := a) (n := g)
    have g1 : ¬ nI (11 ^ aUn a) ≤ nI g := nI_ge (by omega) (by omega)
    have g2 : (121 ≤ nI (fiB a g).length) = (121 ≤ (fiB a g).length) := nge (x := (fiB a g).length) (k := 121) (c := 121) rfl (by omega) (by omega)
    have g3 : ¬ 121 ≤ (fiB a g).length := by omega
    let h1 : qH := wI h 40 (fil (aUn a) (fun u => oI (gdN a g u)) (hI h 40))
    let h2 : qH := wI (wI h1 33 (fil (aN a) (nF (ogN a (gdN a g) (aUn a))) (hI h1 33))) 34 (fil 6 (nF (gRow a g)) (hI h1 34))
    have s2 : sx [33, 34, 40] h h2 := sx_w (sx_w (sx_w sx_refl (by simp)) (by simp)) (by simp)
    have F2 : Fin0 (hR h2) := F
    have hf2 : hR h2 32 0 = some s := hf
    have w2 : cS h2 s a := cS_sx w s2 (by simp)
    have w1 : cS h1 s a := cS_w w (by omega)
    have cg := c_guess (d := d) (g := gdN a g) (show Fin0 (hR h1) from F) (show hR h1 32 0 = some s from hf) w1 (fun u hu => by simp only [h1]; rw [hI_wI, if_pos rfl, fil_at hu]) (fun u hu x hx => gdN_le gl hx)
    have hr2 : ∀ j, j < aN a → hI h2 34 j = nI (gRow a g j) := fun j hj => by simp only [h2]; rw [hI_wI, if_pos rfl, fil_at (by omega)]; rfl
    have ca := c_isAsRung (d := d + 1) (r := gRow a g) F2 hf2 w2 hr2 (gRow_le ww gl)
    have ar : asR a (gRow a g) (aRu a) 0 = asRung a g := rfl
    rw [ar] at ca
    have e62 : hI h2 39 6 = nI (fiB a g).length := by rw [s2.2.2.2 39 (by simp)]; exact e6
    have gA2 : gA h2 a (fiB a g) := gA_sx gA0 s2 (by simp) (by simp)
    have lu := fun Q => l_gu (d := d + 2) (g := g) (al := nI (11 ^ aUn a)) F hf w gl (Q := Q) (aUn a) 0 (by omega)
    simp only [fil_0, wI_same, nI_0] at lu
    have un2 : hI h1 s 13 = nI (aUn a) := w1.2.2.1.2.2.2.2.2.1
    by_cases c : asRung a g = true
    · let h3 : qH := wI (wI (wI h2 43 (upd (hI h2 43) (fiB a g).length (nI g))) 42 (va_cpy (hI h2 34) (hI h2 42) 0 ((fiB a g).length * 6) 6)) 39 (upd (hI h2 39) 6 (nI ((fiB a g).length + 1)))
      have s3 : sx [39, 42, 43] h2 h3 := sx_w (sx_w (sx_w sx_refl (by simp)) (by simp)) (by simp)
      have f1 : fiB a (g + 1) = fiB a g ++ [g] := by rw [fiB_s, if_pos c]
      have lt1 : (fiB a (g + 1)).length = (fiB a g).length + 1 := by rw [f1]; simp
      have v : vp_in (nI (fiB a g).length) 121 := nI_vp (by omega) (by decide)
      have cl : (nI (fiB a g).length).toNatClampNeg = (fiB a g).length := nI_cl (by omega)
      obtain ⟨h', o3', m1, m2, m3, m4, m5⟩ := ih (g + 1) (by omega) h3 (some (.int (nI (aUn a)))) F hf (cS_sx w2 s3 (by simp)) (by
        simp only [h3]; rw [hI_wI, if_pos rfl, upd_at, if_pos rfl, lt1]) (fun i hi => by
        rw [lt1] at hi
        have e43 : hI h3 43 i = if i = (fiB a g).length then nI g else hI h2 43 i := by simp only [h3]; rw [hI_wI, if_neg (by decide), hI_wI, if_neg (by decide), hI_wI, if_pos rfl, upd_at]
        have e42 : ∀ j, j < 6 → hI h3 42 (i * 6 + j) = if i = (fiB a g).length then hI h2 34 j else hI h2 42 (i * 6 + j) := fun j hj => by
          simp only [h3]; rw [hI_wI, if_neg (by decide), hI_wI, if_pos rfl, cpy_row hj]
        have e34 : ∀ j, j < 6 → hI h2 34 j = nI (gRow a g j) := fun j hj => by simp only [h2]; rw [hI_wI, if_pos rfl, fil_at hj]; rfl
        by_cases ci : i = (fiB a g).length
        · have ge : (fiB a (g + 1)).getD i 0 = g := by rw [f1, ci]; simp
          rw [ge, e43, if_pos ci]
          exact ⟨rfl, fun j hj => by rw [e42 j hj, if_pos ci, e34 j hj]⟩
        · have ge : (fiB a (g + 1)).getD i 0 = (fiB a g).getD i 0 := by
            rw [f1]
            simp only [List.getD_eq_getElem?_getD]
            rw [List.getElem?_append_left (by omega)]
          rw [ge, e43, if_neg ci]
          exact ⟨(gA2 i (by omega)).1, fun j hj => by rw [e42 j hj, if_neg ci]; exact (gA2 i (by omega)).2 j hj⟩)
      refine ⟨h', o3', fun Q => ?_, sx_trans (sx_trans (sx_mono s2 (by simp)) (sx_mono s3 (by simp))) m2, fun j hj => ?_, m4, m5⟩
      · have m6 := m1 Q
        have e6' : nI (fiB a g).length * 6 = nI ((fiB a g).length * 6) := by rw [show (6 : Int32) = nI 6 from rfl, nI_mul]
        have l1 : (nI ((fiB a g).length * 6)).toNatClampNeg = (fiB a g).length * 6 := nI_cl (by omega)
        have l2 : (fiB a g).length * 6 + 6 ≤ 726 := by omega
        simp (implicitDefEqProofs := false) only [rX1_make_49, rX1_make_50, rX1_make_51, rX1_make_54, rX1_make_54b, rX1_make_55, rX1_make_58, rX1_make_60, rX1_make_63, rX1_make_64, fin_39_0 F, fin_39_1 F, fin_39_2 F, fin_39_3 F, fin_39_4 F, kA_39, kB_39, pCX1_make, pSX1_make, pOX1_make, pLX1_make, g1, g2, g3, e6, kl_I, kl_J, kl_R, kl_T, kl_N, Nat.le_refl, Nat.zero_le, List.map_nil, List.map_cons, List.sum_nil, List.sum_cons, c_I, c_J, c_R, c_T, va_rf, hI_wI, hJ_wJ, hR_wR, hI_J, hI_R, hJ_I, hJ_R, hR_I, hR_J, hN_I, hN_J, hN_R, wI_I, wJ_J, upd_at, updL_at, kR_s, Option.toList, List.append_nil, List.nil_append, List.cons_append, if_true, if_false, reduceIte, Bool.false_eq_true, not_true_eq_false, not_false_eq_true, true_and, and_true, false_and, and_false, true_or, or_true,  Nat.reduceEqDiff, Nat.reduceAdd, Nat.reduceLeDiff]
        rw [lu]
        have FF : Fin0 (hR h1) := F
        have hff : hR h1 32 0 = some s := hf
        have bt : bI true = 1 := rfl
        rw [c, bt] at ca
        change WP (d + 3) mX1_make (0, 0) 97 _ _ h1 Q = _
        simp (implicitDefEqProofs := false) only [rX1_make_97, rX1_make_97b, rX1_make_98, rX1_make_101, rX1_make_101b, rX1_make_102, rX1_make_105, rX1_make_105b, rX1_make_106, rX1_make_109, rX1_make_112, rX1_make_115, rX1_make_118, rX1_make_118b, rX1_make_119, kS0 hs, kS1 hs, kT1 hs, fS1 hs FF, kS2 hs, kT2 hs, fS2 hs FF, kS3 hs, kT3 hs, fS3 hs FF, kS4 hs, kT4 hs, fS4 hs FF, kS5 hs, kT5 hs, fS5 hs FF, kS6 hs, kT6 hs, fS6 hs FF, kS7 hs, kT7 hs, fS7 hs FF, kS8 hs, kT8 hs, fS8 hs FF, kS9 hs, kT9 hs, fS9 hs FF, kS10 hs, kT10 hs, fS10 hs FF, kS11 hs, kT11 hs, fS11 hs FF, nS hs, nSs hs, fin_39_0 FF, fin_39_1 FF, fin_39_2 FF, fin_39_3 FF, fin_39_4 FF, kA_32, kB_32, kA_39, kB_39, kA_40, kB_40, hff, pCX1_make, pSX1_make, pOX1_make, pLX1_make, pCX0_guess, pSX0_guess, pOX0_guess, pLX0_guess, pCX1_isAsRung, pSX1_isAsRung, pOX1_isAsRung, pLX1_isAsRung, un2, cg, kl_I, kl_J, kl_R, kl_T, kl_N, Nat.le_refl, Nat.zero_le, List.map_nil, List.map_cons, List.sum_nil, List.sum_cons, c_I, c_J, c_R, c_T, va_rf, hI_wI, hJ_wJ, hR_wR, hI_J, hI_R, hJ_I, hJ_R, hR_I, hR_J, hN_I, hN_J, hN_R, wI_I, wJ_J, upd_at, updL_at, kR_s, Option.toList, List.append_nil, List.nil_append, List.cons_append, if_true, if_false, reduceIte, Bool.false_eq_true, not_true_eq_false, not_false_eq_true, true_and, and_true, false_and, and_false, true_or, or_true,  Nat.reduceEqDiff, Nat.reduceAdd, Nat.reduceLeDiff]
        change WM (d + 2) mX1_isAsRung [Value.ref (39 : Nat)] h2 _ = _
        rw [ca]
        simp (implicitDefEqProofs := false) only [rX1_make_119, rX1_make_122, rX1_make_125, rX1_make_125b, rX1_make_126, rX1_make_129, rX1_make_129b, rX1_make_130, rX1_make_133, rX1_make_134, rX1_make_135, rX1_make_135b, rX1_make_136, rX1_make_139, rX1_make_142, rX1_make_143, rX1_make_143b, rX1_make_144, rX1_make_147, rX1_make_147b, rX1_make_148, rX1_make_151, rX1_make_153, rX1_make_154, rX1_make_156, rX1_make_159, rX1_make_159b, rX1_make_160, rX1_make_160b, rX1_make_161, rX1_make_164, rX1_make_165, rX1_make_166, rX1_make_169, fin_32_1 F2, fin_32_2 F2, fin_32_3 F2, fin_32_4 F2, fin_39_0 F2, fin_39_1 F2, fin_39_2 F2, fin_39_3 F2, fin_39_4 F2, kA_32, kB_32, kA_34, kB_34, kA_39, kB_39, kA_42, kB_42, kA_43, kB_43, pCX1_make, pSX1_make, pOX1_make, pLX1_make, show ¬ (1 : Int32) = 0 from by decide, e62, v, cl, e6', nneg (x := (fiB a g).length * 6) (by omega), l1, l2, show (6 : Int32).toNatClampNeg = 6 from rfl, show (0 : Int32).toNatClampNeg = 0 from rfl, show ¬ (0 : Int32) < 0 from by decide, show ¬ (6 : Int32) < 0 from by decide, nI_1, kl_I, kl_J, kl_R, kl_T, kl_N, Nat.le_refl, Nat.zero_le, List.map_nil, List.map_cons, List.sum_nil, List.sum_cons, c_I, c_J, c_R, c_T, va_rf, hI_wI, hJ_wJ, hR_wR, hI_J, hI_R, hJ_I, hJ_R, hR_I, hR_J, hN_I, hN_J, hN_R, wI_I, wJ_J, upd_at, updL_at, kR_s, Option.toList, List.append_nil, List.nil_append, List.cons_append, if_true, if_false, reduceIte, Bool.false_eq_true, not_true_eq_false, not_false_eq_true, true_and, and_true, false_and, and_false, true_or, or_true,  Nat.reduceEqDiff, Nat.reduceAdd, Nat.reduceLeDiff]
        rw [rX1_make_172]
        exact m6
      · rw [m3 j hj]
        simp only [h3]
        rw [hI_wI, if_pos rfl, upd_at, if_neg hj, s2.2.2.2 39 (by simp)]
    · have f1 : fiB a (g + 1) = fiB a g := by rw [fiB_s, if_neg c, List.append_nil]
      obtain ⟨h', o3', m1, m2, m3, m4, m5⟩ := ih (g + 1) (by omega) h2 (some (.int (nI (aUn a)))) F hf w2 (by rw [f1]; exact e62) (by rw [f1]; exact gA2)
      refine ⟨h', o3', fun Q => ?_, sx_trans (sx_mono s2 (by simp)) m2, fun j hj => ?_, m4, m5⟩
      · have m6 := m1 Q
        simp (implicitDefEqProofs := false) only [rX1_make_49, rX1_make_50, rX1_make_51, rX1_make_54, rX1_make_54b, rX1_make_55, rX1_make_58, rX1_make_60, rX1_make_63, rX1_make_64, fin_39_0 F, fin_39_1 F, fin_39_2 F, fin_39_3 F, fin_39_4 F, kA_39, kB_39, pCX1_make, pSX1_make, pOX1_make, pLX1_make, g1, g2, g3, e6, kl_I, kl_J, kl_R, kl_T, kl_N, Nat.le_refl, Nat.zero_le, List.map_nil, List.map_cons, List.sum_nil, List.sum_cons, c_I, c_J, c_R, c_T, va_rf, hI_wI, hJ_wJ, hR_wR, hI_J, hI_R, hJ_I, hJ_R, hR_I, hR_J, hN_I, hN_J, hN_R, wI_I, wJ_J, upd_at, updL_at, kR_s, Option.toList, List.append_nil, List.nil_append, List.cons_append, if_true, if_false, reduceIte, Bool.false_eq_true, not_true_eq_false, not_false_eq_true, true_and, and_true, false_and, and_false, true_or, or_true,  Nat.reduceEqDiff, Nat.reduceAdd, Nat.reduceLeDiff]
        rw [lu]
        have FF : Fin0 (hR h1) := F
        have hff : hR h1 32 0 = some s := hf
        have bt : bI (asRung a g) = 0 := by rw [bI, if_neg c]
        rw [bt] at ca
        change WP (d + 3) mX1_make (0, 0) 97 _ _ h1 Q = _
        simp (implicitDefEqProofs := false) only [rX1_make_97, rX1_make_97b, rX1_make_98, rX1_make_101, rX1_make_101b, rX1_make_102, rX1_make_105, rX1_make_105b, rX1_make_106, rX1_make_109, rX1_make_112, rX1_make_115, rX1_make_118, rX1_make_118b, rX1_make_119, kS0 hs, kS1 hs, kT1 hs, fS1 hs FF, kS2 hs, kT2 hs, fS2 hs FF, kS3 hs, kT3 hs, fS3 hs FF, kS4 hs, kT4 hs, fS4 hs FF, kS5 hs, kT5 hs, fS5 hs FF, kS6 hs, kT6 hs, fS6 hs FF, kS7 hs, kT7 hs, fS7 hs FF, kS8 hs, kT8 hs, fS8 hs FF, kS9 hs, kT9 hs, fS9 hs FF, kS10 hs, kT10 hs, fS10 hs FF, kS11 hs, kT11 hs, fS11 hs FF, nS hs, nSs hs, fin_39_0 FF, fin_39_1 FF, fin_39_2 FF, fin_39_3 FF, fin_39_4 FF, kA_32, kB_32, kA_39, kB_39, kA_40, kB_40, hff, pCX1_make, pSX1_make, pOX1_make, pLX1_make, pCX0_guess, pSX0_guess, pOX0_guess, pLX0_guess, pCX1_isAsRung, pSX1_isAsRung, pOX1_isAsRung, pLX1_isAsRung, un2, cg, kl_I, kl_J, kl_R, kl_T, kl_N, Nat.le_refl, Nat.zero_le, List.map_nil, List.map_cons, List.sum_nil, List.sum_cons, c_I, c_J, c_R, c_T, va_rf, hI_wI, hJ_wJ, hR_wR, hI_J, hI_R, hJ_I, hJ_R, hR_I, hR_J, hN_I, hN_J, hN_R, wI_I, wJ_J, upd_at, updL_at, kR_s, Option.toList, List.append_nil, List.nil_append, List.cons_append, if_true, if_false, reduceIte, Bool.false_eq_true, not_true_eq_false, not_false_eq_true, true_and, and_true, false_and, and_false, true_or, or_true,  Nat.reduceEqDiff, Nat.reduceAdd, Nat.reduceLeDiff]
        change WM (d + 2) mX1_isAsRung [Value.ref (39 : Nat)] h2 _ = _
        rw [ca]
        simp (implicitDefEqProofs := false) only [rX1_make_119, rX1_make_122, rX1_make_125, rX1_make_125b, rX1_make_126, rX1_make_129, rX1_make_129b, rX1_make_130, rX1_make_133, rX1_make_134, rX1_make_135, rX1_make_135b, rX1_make_136, rX1_make_139, rX1_make_142, rX1_make_143, rX1_make_143b, rX1_make_144, rX1_make_147, rX1_make_147b, rX1_make_148, rX1_make_151, rX1_make_153, rX1_make_154, rX1_make_156, rX1_make_159, rX1_make_159b, rX1_make_160, rX1_make_160b, rX1_make_161, rX1_make_164, rX1_make_165, rX1_make_166, rX1_make_169, fin_32_1 F2, fin_32_2 F2, fin_32_3 F2, fin_32_4 F2, fin_39_0 F2, fin_39_1 F2, fin_39_2 F2, fin_39_3 F2, fin_39_4 F2, kA_32, kB_32, kA_34, kB_34, kA_39, kB_39, kA_42, kB_42, kA_43, kB_43, pCX1_make, pSX1_make, pOX1_make, pLX1_make, nI_1, kl_I, kl_J, kl_R, kl_T, kl_N, Nat.le_refl, Nat.zero_le, List.map_nil, List.map_cons, List.sum_nil, List.sum_cons, c_I, c_J, c_R, c_T, va_rf, hI_wI, hJ_wJ, hR_wR, hI_J, hI_R, hJ_I, hJ_R, hR_I, hR_J, hN_I, hN_J, hN_R, wI_I, wJ_J, upd_at, updL_at, kR_s, Option.toList, List.append_nil, List.nil_append, List.cons_append, if_true, if_false, reduceIte, Bool.false_eq_true, not_true_eq_false, not_false_eq_true, true_and, and_true, false_and, and_false, true_or, or_true,  Nat.reduceEqDiff, Nat.reduceAdd, Nat.reduceLeDiff]
        rw [rX1_make_172]
        exact m6
      · rw [m3 j hj, s2.2.2.2 39 (by simp)]
theorem c_gMake {d : Nat} {h : qH} {s : Nat} {a : aS} (F : Fin0 (hR h)) (hf : hR h 32 0 = some s) (w : cS h s a) (k : gC h a) : ∃ h', (∀ Q, WM (d + 4) mX1_make [.ref (39 : Nat)] h Q = Q (some none) h') ∧ sx [33, 34, 39, 40, 41, 42, 43] h h' ∧ gM h' a := by
  by_cases c : hI h 39 5 = 0
  · let h1 : qH := wI h 39 (upd (upd (hI h 39) 5 1) 6 0)
    have s1 : sx [39] h h1 := sx_w sx_refl (by simp)
    have F1 : Fin0 (hR h1) := F
    have w1 : cS h1 s a := cS_sx w s1 (by simp)
    have f0 : fiB a 0 = [] := rfl
    obtain ⟨h2, o3, m1, m2, m3, m4, m5⟩ := l_gmk (d := d + 1) (s := s) (a := a) (11 ^ aUn a) 0 (by omega) h1 none F1 hf w1 (by rw [f0]; simp (implicitDefEqProofs := false) only [h1, hI_wI, upd_at, List.length_nil, nI_0, kl_I, kl_J, kl_R, kl_T, kl_N, Nat.le_refl, Nat.zero_le, List.map_nil, List.map_cons, List.sum_nil, List.sum_cons, c_I, c_J, c_R, c_T, va_rf, hI_wI, hJ_wJ, hR_wR, hI_J, hI_R, hJ_I, hJ_R, hR_I, hR_J, hN_I, hN_J, hN_R, wI_I, wJ_J, upd_at, updL_at, kR_s, Option.toList, List.append_nil, List.nil_append, List.cons_append, if_true, if_false, reduceIte, Bool.false_eq_true, not_true_eq_false, not_false_eq_true, true_and, and_true, false_and, and_false, true_or, or_true,  Nat.reduceEqDiff, Nat.reduceAdd, Nat.reduceLeDiff]) (by rw [f0]; intro i hi; cases hi)
    have hL : ∀ g ∈ fiL a, g < 121 := fun g hg => Nat.lt_of_lt_of_le (fiB_in hg) (p11 w.2.1)
    have hl : (fiL a).length ≤ 121 := Nat.le_trans fiB_len (p11 w.2.1)
    obtain ⟨h3, n1, n2, n3, n4⟩ := c_makeTry (d := d) hL hl (Fin_sx F1 m2) (by rw [m2.1]; exact hf) (cS_sx w1 m2 (by simp)) m5 m4
    refine ⟨h3, fun Q => ?_, sx_trans (sx_mono s1 (by simp)) (sx_trans (sx_mono m2 (by simp)) (sx_mono n2 (by simp))), ?_, ?_, gA_sx m5 n2 (by simp) (by simp), n4⟩
    · have la := l_all (d := d + 4) (a := a) (o3 := none) (Q := Q) F1 hf w1 (aUn a) 0 (by omega)
      simp only [Nat.pow_zero, nI_0] at la
      have m6 := m1 Q
      rw [nI_0] at m6
      have t1 : nI 1 = 1 := rfl
      rw [t1] at la
      simp (implicitDefEqProofs := false) only [eX1_make, rX1_make_0, rX1_make_0b, rX1_make_1, rX1_make_4, rX1_make_7, rX1_make_8, rX1_make_8b, rX1_make_9, rX1_make_10, rX1_make_13, rX1_make_13b, rX1_make_14, rX1_make_15, rX1_make_18, rX1_make_19, rX1_make_20, rX1_make_21, fin_39_0 F, fin_39_1 F, fin_39_2 F, fin_39_3 F, fin_39_4 F, kA_39, kB_39, pCX1_make, pSX1_make, pOX1_make, pLX1_make, c, kl_I, kl_J, kl_R, kl_T, kl_N, Nat.le_refl, Nat.zero_le, List.map_nil, List.map_cons, List.sum_nil, List.sum_cons, c_I, c_J, c_R, c_T, va_rf, hI_wI, hJ_wJ, hR_wR, hI_J, hI_R, hJ_I, hJ_R, hR_I, hR_J, hN_I, hN_J, hN_R, wI_I, wJ_J, upd_at, updL_at, kR_s, Option.toList, List.append_nil, List.nil_append, List.cons_append, if_true, if_false, reduceIte, Bool.false_eq_true, not_true_eq_false, not_false_eq_true, true_and, and_true, false_and, and_false, true_or, or_true,  Nat.reduceEqDiff, Nat.reduceAdd, Nat.reduceLeDiff]
      change WP (d + 4) mX1_make (0, 0) 22 _ _ h1 Q = _
      rw [la]
      simp (implicitDefEqProofs := false) only [rX1_make_47, rX1_make_48, kl_I, kl_J, kl_R, kl_T, kl_N, Nat.le_refl, Nat.zero_le, List.map_nil, List.map_cons, List.sum_nil, List.sum_cons, c_I, c_J, c_R, c_T, va_rf, hI_wI, hJ_wJ, hR_wR, hI_J, hI_R, hJ_I, hJ_R, hR_I, hR_J, hN_I, hN_J, hN_R, wI_I, wJ_J, upd_at, updL_at, kR_s, Option.toList, List.append_nil, List.nil_append, List.cons_append, if_true, if_false, reduceIte, Bool.false_eq_true, not_true_eq_false, not_false_eq_true, true_and, and_true, false_and, and_false, true_or, or_true,  Nat.reduceEqDiff, Nat.reduceAdd, Nat.reduceLeDiff]
      rw [m6]
      simp (implicitDefEqProofs := false) only [rX1_make_175, rX1_make_175b, rX1_make_176, rX1_make_179, kA_39, kB_39, pCX1_make, pSX1_make, pOX1_make, pLX1_make, pCX1_makeTry, pSX1_makeTry, pOX1_makeTry, pLX1_makeTry, n1, kl_I, kl_J, kl_R, kl_T, kl_N, Nat.le_refl, Nat.zero_le, List.map_nil, List.map_cons, List.sum_nil, List.sum_cons, c_I, c_J, c_R, c_T, va_rf, hI_wI, hJ_wJ, hR_wR, hI_J, hI_R, hJ_I, hJ_R, hR_I, hR_J, hN_I, hN_J, hN_R, wI_I, wJ_J, upd_at, updL_at, kR_s, Option.toList, List.append_nil, List.nil_append, List.cons_append, if_true, if_false, reduceIte, Bool.false_eq_true, not_true_eq_false, not_false_eq_true, true_and, and_true, false_and, and_false, true_or, or_true,  Nat.reduceEqDiff, Nat.reduceAdd, Nat.reduceLeDiff]
    · rw [n3 5 (by decide) (by decide), m3 5 (by decide)]
      simp (implicitDefEqProofs := false) only [h1, hI_wI, upd_at, kl_I, kl_J, kl_R, kl_T, kl_N, Nat.le_refl, Nat.zero_le, List.map_nil, List.map_cons, List.sum_nil, List.sum_cons, c_I, c_J, c_R, c_T, va_rf, hI_wI, hJ_wJ, hR_wR, hI_J, hI_R, hJ_I, hJ_R, hR_I, hR_J, hN_I, hN_J, hN_R, wI_I, wJ_J, upd_at, updL_at, kR_s, Option.toList, List.append_nil, List.nil_append, List.cons_append, if_true, if_false, reduceIte, Bool.false_eq_true, not_true_eq_false, not_false_eq_true, true_and, and_true, false_and, and_false, true_or, or_true,  Nat.reduceEqDiff, Nat.reduceAdd, Nat.reduceLeDiff]
    · rw [n3 6 (by decide) (by decide), m4]
  · rcases k with k | k
    · exact absurd k c
    · refine ⟨h, fun Q => ?_, sx_refl, k⟩
      simp (implicitDefEqProofs := false) only [eX1_make, rX1_make_0, rX1_make_0b, rX1_make_1, rX1_make_4, rX1_make_7, fin_39_0 F, fin_39_1 F, fin_39_2 F, fin_39_3 F, fin_39_4 F, kA_39, kB_39, pCX1_make, pSX1_make, pOX1_make, pLX1_make, k.1, show ¬ (1 : Int32) = 0 from by decide, kl_I, kl_J, kl_R, kl_T, kl_N, Nat.le_refl, Nat.zero_le, List.map_nil, List.map_cons, List.sum_nil, List.sum_cons, c_I, c_J, c_R, c_T, va_rf, hI_wI, hJ_wJ, hR_wR, hI_J, hI_R, hJ_I, hJ_R, hR_I, hR_J, hN_I, hN_J, hN_R, wI_I, wJ_J, upd_at, updL_at, kR_s, Option.toList, List.append_nil, List.nil_append, List.cons_append, if_true, if_false, reduceIte, Bool.false_eq_true, not_true_eq_false, not_false_eq_true, true_and, and_true, false_and, and_false, true_or, or_true,  Nat.reduceEqDiff, Nat.reduceAdd, Nat.reduceLeDiff]
