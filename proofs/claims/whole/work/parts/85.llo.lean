/-! ===== the law's loop ===== -/
theorem swT_ex (df : Nat) (x : Int32) : ∀ (ts : List Nat) (k : Int32), ∃ t, (t = df ∨ t ∈ ts) ∧ ∀ f, swT f df x k ts = f t
  | [], k => ⟨df, .inl rfl, fun f => rfl⟩
  | t :: ts, k => by
    by_cases c : x = k
    · exact ⟨t, .inr (.head _), fun f => by rw [swT, if_pos c]⟩
    · obtain ⟨t1, h1, h2⟩ := swT_ex df x ts (k + 1)
      exact ⟨t1, h1.imp id (.tail _), fun f => by rw [swT, if_neg c]; exact h2 f⟩
theorem lw_df {d a b i j L : Nat} {o5 o6 : Option Value} {h : qH} {S : AS} (I : LI h S j L) : LQ d a b 1549 i j L o5 o6 h := ⟨h, S, 0, 0, j, o5, o6, by omega, by omega, by omega, fun _ => rfl, I⟩
theorem lw_any {d a b i j L t : Nat} {o5 o6 : Option Value} {h : qH} {S : AS} (I : LI h S j L) (hi : i + 6 ≤ L) (hL : L ≤ 3072) (ha : a + 13 ≤ 601024) (hb : b + 92 ≤ 7293034) (hj : j < 1000000) (ht : t = 1549 ∨ t ∈ [244, 317, 342, 355, 368, 405, 442, 467, 492, 517, 530, 555, 580, 617, 642, 655, 668, 681, 718, 731, 756, 769, 794, 807, 820, 857, 894, 907, 920, 933, 1030, 1043, 1056, 1122, 1176, 1230, 1279, 1316, 1341, 1366, 1391, 1404, 1417, 1430, 1455, 1511, 1536]) : LQ d a b t i j L o5 o6 h := by
  rcases ht with rfl | ht
  · exact lw_df I
  · simp only [List.mem_cons, List.not_mem_nil, or_false] at ht
    rcases ht with rfl | rfl | rfl | rfl | rfl | rfl | rfl | rfl | rfl | rfl | rfl | rfl | rfl | rfl | rfl | rfl | rfl | rfl | rfl | rfl | rfl | rfl | rfl | rfl | rfl | rfl | rfl | rfl | rfl | rfl | rfl | rfl | rfl | rfl | rfl | rfl | rfl | rfl | rfl | rfl | rfl | rfl | rfl | rfl | rfl | rfl | rfl
    · exact LO_Q (lw_feed I hi hL ha hb)
    · exact lw_street I hi hL ha hb hj
    · exact LO_Q (lw_fault I hi hL ha hb)
    · exact LO_Q (lw_where I hi hL ha hb)
    · exact LO_Q (lw_house I hi hL ha hb)
    · exact LO_Q (lw_spark I hi hL ha hb)
    · exact LO_Q (lw_burns I hi hL ha hb)
    · exact LO_Q (lw_litBy I hi hL ha hb)
    · exact LO_Q (lw_burnt I hi hL ha hb)
    · exact LO_Q (lw_lastDay I hi hL ha hb)
    · exact LO_Q (lw_next I hi hL ha hb)
    · exact LO_Q (lw_agrees I hi hL ha hb)
    · exact LO_Q (lw_burnsIf I hi hL ha hb)
    · exact LO_Q (lw_saves I hi hL ha hb)
    · exact LO_Q (lw_bestTold I hi hL ha hb)
    · exact LO_Q (lw_dumbDay I hi hL ha hb)
    · exact LO_Q (lw_ways I hi hL ha hb)
    · exact LO_Q (lw_wayAt I hi hL ha hb)
    · exact LO_Q (lw_bestWay I hi hL ha hb)
    · exact LO_Q (lw_wayBurnt I hi hL ha hb)
    · exact LO_Q (lw_couldRing I hi hL ha hb)
    · exact LO_Q (lw_safe I hi hL ha hb)
    · exact LO_Q (lw_bestCut I hi hL ha hb)
    · exact LO_Q (lw_fits I hi hL ha hb)
    · exact LO_Q (lw_fitAt I hi hL ha hb)
    · exact LO_Q (lw_nextBy I hi hL ha hb)
    · exact LO_Q (lw_tryDay I hi hL ha hb)
    · exact LO_Q (lw_tryLeaves I hi hL ha hb)
    · exact LO_Q (lw_judge I hi hL ha hb)
    · exact LO_Q (lw_rings I hi hL ha hb)
    · exact LO_Q (lw_rests I hi hL ha hb)
    · exact LO_Q (lw_rest I hi hL ha hb)
    · exact LO_Q (lw_odds I hi hL ha hb)
    · exact LO_Q (lw_quiet I hi hL ha hb)
    · exact LO_Q (lw_mean I hi hL ha hb)
    · exact LO_Q (lw_years I hi hL ha hb)
    · exact LO_Q (lw_worstYear I hi hL ha hb)
    · exact LO_Q (lw_tell I hi hL ha hb)
    · exact LO_Q (lw_pull I hi hL ha hb)
    · exact LO_Q (lw_mend I hi hL ha hb)
    · exact LO_Q (lw_day I hi hL ha hb)
    · exact LO_Q (lw_undo I hi hL ha hb)
    · exact LO_Q (lw_image I hi hL ha hb)
    · exact LO_Q (lw_back I hi hL ha hb)
    · exact lw_led I hi hL ha hb
    · exact LO_Q (lw_size I hi hL ha hb)
    · exact LO_Q (lw_trouble I hi hL ha hb)
theorem lw_gt {i L : Nat} (hi : i ≤ L) (hL : L ≤ 3072) : (nI L - 6 < nI i) = (L < i + 6) := by
  have e : (nI L - 6).toInt = (L : Int) - 6 := pk_sub_toInt (a := L) (b := 6) (by omega) (by omega)
  rw [Int32.lt_iff_toInt_lt, e, nI_toInt (by omega)]
  exact propext ⟨fun q => by omega, fun q => by omega⟩
theorem lw_loop {d L : Nat} (hL : L ≤ 3072) : ∀ (k i a b j : Nat) (o5 o6 : Option Value) (h : qH) (S : AS), LI h S j L → i ≤ L → L < i + 6 * k + 6 → a + 13 * k ≤ 601024 → b + 92 * k ≤ 7293034 → j + k < 1000000 →
    ∃ h', ∀ Q, WP (d + 13) mL_law (a, b) 23 [some (.retAddr (1000 : Nat)), some (.ref (0 : Nat)), some (.ref (44 : Nat)), some (.ref (56 : Nat)), some (.int (nI i)), o5, o6] [] h Q = Q (some (some (.int 1))) h' := by
  intro k
  induction k with
  | zero =>
    intro i a b j o5 o6 h S I hi hk ha hb hj
    have g : (nI L - 6 < nI i) = True := (lw_gt hi hL).trans (eq_true (by omega))
    have eL := I.2.2.2.1
    have ha0 : a ≤ 601024 := by omega
    have hb0 : b ≤ 7293034 := by omega
    exact ⟨h, fun Q => by simp (implicitDefEqProofs := false) only [rL_law_23, rL_law_25, rL_law_25b, rL_law_26, rL_law_27, rL_law_29, rL_law_30, rL_law_1555, rL_law_1556, eL, g, ha0, hb0, (by decide : (1000 : Nat) < 2000), pCL_law, pSL_law, pOL_law, pLL_law, kl_I, kl_J, kl_R, kl_T, kl_N, Nat.le_refl, Nat.zero_le, List.map_nil, List.map_cons, List.sum_nil, List.sum_cons, c_I, c_J, c_R, c_T, va_rf, hI_wI, hJ_wJ, hR_wR, hI_J, hI_R, hJ_I, hJ_R, hR_I, hR_J, hN_I, hN_J, hN_R, wI_I, wJ_J, upd_at, updL_at, kR_s, Option.toList, List.append_nil, List.nil_append, List.cons_append, if_true, if_false, reduceIte, Bool.false_eq_true, not_true_eq_false, not_false_eq_true, true_and, and_true, false_and, and_false, true_or, or_true,  Nat.reduceEqDiff, Nat.reduceAdd, Nat.reduceLeDiff]⟩
  | succ k ih =>
    intro i a b j o5 o6 h S I hi hk ha hb hj
    have eL := I.2.2.2.1
    have ha0 : a ≤ 601024 := by omega
    have hb0 : b ≤ 7293034 := by omega
    by_cases c : L < i + 6
    · have g : (nI L - 6 < nI i) = True := (lw_gt hi hL).trans (eq_true c)
      exact ⟨h, fun Q => by simp (implicitDefEqProofs := false) only [rL_law_23, rL_law_25, rL_law_25b, rL_law_26, rL_law_27, rL_law_29, rL_law_30, rL_law_1555, rL_law_1556, eL, g, ha0, hb0, (by decide : (1000 : Nat) < 2000), pCL_law, pSL_law, pOL_law, pLL_law, kl_I, kl_J, kl_R, kl_T, kl_N, Nat.le_refl, Nat.zero_le, List.map_nil, List.map_cons, List.sum_nil, List.sum_cons, c_I, c_J, c_R, c_T, va_rf, hI_wI, hJ_wJ, hR_wR, hI_J, hI_R, hJ_I, hJ_R, hR_I, hR_J, hN_I, hN_J, hN_R, wI_I, wJ_J, upd_at, updL_at, kR_s, Option.toList, List.append_nil, List.nil_append, List.cons_append, if_true, if_false, reduceIte, Bool.false_eq_true, not_true_eq_false, not_false_eq_true, true_and, and_true, false_and, and_false, true_or, or_true,  Nat.reduceEqDiff, Nat.reduceAdd, Nat.reduceLeDiff]⟩
    · have g : (nI L - 6 < nI i) = False := (lw_gt hi hL).trans (eq_false c)
      have cL : (nI L).toNatClampNeg = L := nI_cl (by omega)
      have w0 : (nI i).toNatClampNeg = i := nI_cl (by omega)
      have v0 : vpB (nI i) L = true := vB (by omega) hL
      obtain ⟨t, ht, et⟩ := swT_ex 1549 (hI h SCR i &&& 63) [244, 317, 342, 355, 368, 405, 442, 467, 492, 517, 530, 555, 580, 617, 642, 655, 668, 681, 718, 731, 756, 769, 794, 807, 820, 857, 894, 907, 920, 933, 1030, 1043, 1056, 1122, 1176, 1230, 1279, 1316, 1341, 1366, 1391, 1404, 1417, 1430, 1455, 1511, 1536] 0
      obtain ⟨h1, S1, x, y, j1, o5', o6', hx, hy, hj1, e1, I1⟩ := lw_any (d := d) (i := i) (a := a) (b := b) (o5 := o5) (o6 := o6) I (by omega) hL (by omega) (by omega) (by omega) ht
      obtain ⟨h2, e2⟩ := ih (i + 6) (a + x) (b + y) j1 o5' o6' h1 S1 I1 (by omega) (by omega) (by omega) (by omega) (by omega)
      refine ⟨h2, fun Q => ?_⟩
      have s1 : WP (d + 13) mL_law (a, b) 23 [some (.retAddr (1000 : Nat)), some (.ref (0 : Nat)), some (.ref (44 : Nat)), some (.ref (56 : Nat)), some (.int (nI i)), o5, o6] [] h Q = WP (d + 13) mL_law (a, b) t [some (.retAddr (1000 : Nat)), some (.ref (0 : Nat)), some (.ref (44 : Nat)), some (.ref (56 : Nat)), some (.int (nI i)), o5, o6] [] h Q := by
        simp (implicitDefEqProofs := false) only [rL_law_23, rL_law_25, rL_law_25b, rL_law_26, rL_law_27, rL_law_29, rL_law_30, rL_law_33, rL_law_33b, rL_law_34, rL_law_36, rL_law_37, rL_law_39, rL_law_40, eL, g, cL, w0, v0, et, ha0, hb0, (by decide : (1000 : Nat) < 2000), pCL_law, pSL_law, pOL_law, pLL_law, kl_I, kl_J, kl_R, kl_T, kl_N, Nat.le_refl, Nat.zero_le, List.map_nil, List.map_cons, List.sum_nil, List.sum_cons, c_I, c_J, c_R, c_T, va_rf, hI_wI, hJ_wJ, hR_wR, hI_J, hI_R, hJ_I, hJ_R, hR_I, hR_J, hN_I, hN_J, hN_R, wI_I, wJ_J, upd_at, updL_at, kR_s, Option.toList, List.append_nil, List.nil_append, List.cons_append, if_true, if_false, reduceIte, Bool.false_eq_true, not_true_eq_false, not_false_eq_true, true_and, and_true, false_and, and_false, true_or, or_true,  Nat.reduceEqDiff, Nat.reduceAdd, Nat.reduceLeDiff]
      rw [s1, e1]
      simp (implicitDefEqProofs := false) only [rL_law_1549, rL_law_1552, nI_p6, kl_I, kl_J, kl_R, kl_T, kl_N, Nat.le_refl, Nat.zero_le, List.map_nil, List.map_cons, List.sum_nil, List.sum_cons, c_I, c_J, c_R, c_T, va_rf, hI_wI, hJ_wJ, hR_wR, hI_J, hI_R, hJ_I, hJ_R, hR_I, hR_J, hN_I, hN_J, hN_R, wI_I, wJ_J, upd_at, updL_at, kR_s, Option.toList, List.append_nil, List.nil_append, List.cons_append, if_true, if_false, reduceIte, Bool.false_eq_true, not_true_eq_false, not_false_eq_true, true_and, and_true, false_and, and_false, true_or, or_true,  Nat.reduceEqDiff, Nat.reduceAdd, Nat.reduceLeDiff]
      exact e2 Q
