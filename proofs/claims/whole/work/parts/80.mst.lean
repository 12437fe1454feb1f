/-! ===== the model: street ===== -/
theorem lc_st {d : Nat} {h : qH} {z1 : Int32} (F : Fin0 (hR h)) {Q : Option (Option Value) → qH → Prop} : ∀ (k i : Nat), i + k = 10 → WP d mX9_street (13, 92) 103 [some (.ref (44 : Nat)), some (.int z1), some (.int (nI i))] [] (wI h 46 (fil i (hI h 47) (hI h 46))) Q = WP d mX9_street (13, 92) 127 [some (.ref (44 : Nat)), some (.int z1), some (.int 10)] [] (wI h 46 (fil 10 (hI h 47) (hI h 46))) Q := by
  intro k
  induction k with
  | zero =>
    intro i hi
    obtain rfl : i = 10 := by omega
    simp (implicitDefEqProofs := false) only [rX9_street_103, rX9_street_104, rX9_street_106, rX9_street_109, rX9_street_109b, rX9_street_110, rX9_street_113, rX9_street_114, rX9_street_114b, rX9_street_115, rX9_street_118, rX9_street_119, rX9_street_120, pCX9_street, pSX9_street, pOX9_street, pLX9_street, show nI 10 = 10 from rfl, Int32.le_refl, kl_I, kl_J, kl_R, kl_T, kl_N, Nat.le_refl, Nat.zero_le, List.map_nil, List.map_cons, List.sum_nil, List.sum_cons, c_I, c_J, c_R, c_T, va_rf, hI_wI, hJ_wJ, hR_wR, hI_J, hI_R, hJ_I, hJ_R, hR_I, hR_J, hN_I, hN_J, hN_R, wI_I, wJ_J, upd_at, updL_at, kR_s, Option.toList, List.append_nil, List.nil_append, List.cons_append, if_true, if_false, reduceIte, Bool.false_eq_true, not_true_eq_false, not_false_eq_true, true_and, and_true, false_and, and_false, true_or, or_true,  Nat.reduceEqDiff, Nat.reduceAdd, Nat.reduceLeDiff]
  | succ k ih =>
    intro i hi
    have v1 : vp_in (nI i) 10 := nI_vp (by omega) (by decide)
    have cl : (nI i).toNatClampNeg = i := nI_cl (by omega)
    have i1 := ih (i + 1) (by omega)
    rw [← fil_s] at i1
    simp (implicitDefEqProofs := false) only [rX9_street_103, rX9_street_104, rX9_street_106, rX9_street_109, rX9_street_109b, rX9_street_110, rX9_street_113, rX9_street_114, rX9_street_114b, rX9_street_115, rX9_street_118, rX9_street_119, rX9_street_120, kA_44, kB_44, kA_46, kB_46, kA_47, kB_47, fin_44_5 F, fin_44_15 F, fin_44_16 F, fin_44_17 F, fin_44_18 F, fin_44_21 F, fin_44_23 F, fin_44_24 F, fin_44_25 F, fin_44_29 F, fin_44_33 F, nge (x := i) (k := 10) (c := 10) rfl (by omega) (by omega), show ¬ 10 ≤ i from by omega, v1, cl, pCX9_street, pSX9_street, pOX9_street, pLX9_street, kl_I, kl_J, kl_R, kl_T, kl_N, Nat.le_refl, Nat.zero_le, List.map_nil, List.map_cons, List.sum_nil, List.sum_cons, c_I, c_J, c_R, c_T, va_rf, hI_wI, hJ_wJ, hR_wR, hI_J, hI_R, hJ_I, hJ_R, hR_I, hR_J, hN_I, hN_J, hN_R, wI_I, wJ_J, upd_at, updL_at, kR_s, Option.toList, List.append_nil, List.nil_append, List.cons_append, if_true, if_false, reduceIte, Bool.false_eq_true, not_true_eq_false, not_false_eq_true, true_and, and_true, false_and, and_false, true_or, or_true,  Nat.reduceEqDiff, Nat.reduceAdd, Nat.reduceLeDiff]
    rw [rX9_street_121, nI_1]
    simp (implicitDefEqProofs := false) only [rX9_street_124, kl_I, kl_J, kl_R, kl_T, kl_N, Nat.le_refl, Nat.zero_le, List.map_nil, List.map_cons, List.sum_nil, List.sum_cons, c_I, c_J, c_R, c_T, va_rf, hI_wI, hJ_wJ, hR_wR, hI_J, hI_R, hJ_I, hJ_R, hR_I, hR_J, hN_I, hN_J, hN_R, wI_I, wJ_J, upd_at, updL_at, kR_s, Option.toList, List.append_nil, List.nil_append, List.cons_append, if_true, if_false, reduceIte, Bool.false_eq_true, not_true_eq_false, not_false_eq_true, true_and, and_true, false_and, and_false, true_or, or_true,  Nat.reduceEqDiff, Nat.reduceAdd, Nat.reduceLeDiff]
    exact i1
theorem finT_57 : ∀ e ∈ finT, e.1 < 57 ∧ ¬ (e.1 = 44 ∧ (e.2.1 = 4 ∨ e.2.1 = 3)) := by decide
theorem c_readAll {d : Nat} {h : qH} {s n : Nat} {tb : Nat → Int32} {st : PS} {t : tK} (r : RM h s n tb st t) : ∃ h', (∀ Q, WM (d + 11) mX9_readAll [.ref (44 : Nat)] h Q = Q (some none) h') ∧ ocA h h' s n tb (prs (bB tb) n 901 st t) := by
  obtain ⟨h', e, o⟩ := l_readAll (d := d) 901 0 (by omega) h st t r (by omega)
  refine ⟨h', fun Q => ?_, o⟩
  simp (implicitDefEqProofs := false) only [eX9_readAll, rX9_readAll_0, rX9_readAll_1, kl_I, kl_J, kl_R, kl_T, kl_N, Nat.le_refl, Nat.zero_le, List.map_nil, List.map_cons, List.sum_nil, List.sum_cons, c_I, c_J, c_R, c_T, va_rf, hI_wI, hJ_wJ, hR_wR, hI_J, hI_R, hJ_I, hJ_R, hR_I, hR_J, hN_I, hN_J, hN_R, wI_I, wJ_J, upd_at, updL_at, kR_s, Option.toList, List.append_nil, List.nil_append, List.cons_append, if_true, if_false, reduceIte, Bool.false_eq_true, not_true_eq_false, not_false_eq_true, true_and, and_true, false_and, and_false, true_or, or_true,  Nat.reduceEqDiff, Nat.reduceAdd, Nat.reduceLeDiff]
  exact e Q
set_option maxHeartbeats 2000000 in
theorem m_street {d : Nat} {h : qH} {S : AS} {y : Int32} (I : MI h S) (hm : mst (hN h)) : ∃ m, (m = 0 ∨ m = 13) ∧ ms m (d + 12) mX9_street [.ref (44 : Nat), .int y] h (sStreet S y).1 (some (.int (sStreet S y).2)) := by
  have E : ∀ Q, WM (d + 12) mX9_street [.ref (44 : Nat), .int y] h Q = WP (d + 12) mX9_street (0, 0) 5 [some (.ref (44 : Nat)), some (.int y), none] [] (th h) Q := fun Q => by simp (implicitDefEqProofs := false) only [eX9_street, rX9_street_0, rX9_street_0b, rX9_street_1, rX9_street_2, kA_44, kB_44, pCX9_street, pSX9_street, pOX9_street, pLX9_street, th, kl_I, kl_J, kl_R, kl_T, kl_N, Nat.le_refl, Nat.zero_le, List.map_nil, List.map_cons, List.sum_nil, List.sum_cons, c_I, c_J, c_R, c_T, va_rf, hI_wI, hJ_wJ, hR_wR, hI_J, hI_R, hJ_I, hJ_R, hR_I, hR_J, hN_I, hN_J, hN_R, wI_I, wJ_J, upd_at, updL_at, kR_s, Option.toList, List.append_nil, List.nil_append, List.cons_append, if_true, if_false, reduceIte, Bool.false_eq_true, not_true_eq_false, not_false_eq_true, true_and, and_true, false_and, and_false, true_or, or_true,  Nat.reduceEqDiff, Nat.reduceAdd, Nat.reduceLeDiff]
  have I1 := MI_th I
  have tp := I1.2.2.2.2.2.2.2.1
  rw [sStreet]
  by_cases c1 : y < 0 ∨ nI (sTl S) < y
  · rw [if_pos c1]
    refine ⟨0, .inl rfl, ?_⟩
    refine ms_of (v := 2) I (by decide) E ?_
    generalize th h = g at tp ⊢
    by_cases c2 : y < 0
    · exact ⟨g, fun Q => by simp (implicitDefEqProofs := false) only [rX9_street_5, rX9_street_6, rX9_street_9, rX9_street_10, rX9_street_10b, rX9_street_11, rX9_street_14, rX9_street_17, rX9_street_17b, rX9_street_18, rX9_street_19, rX9_street_22, kA_44, kB_44, c2, c_mrefused, show nI 2 = 2 from rfl, pCX9_street, pSX9_street, pOX9_street, pLX9_street, pCX9_refused, pSX9_refused, pOX9_refused, pLX9_refused, kl_I, kl_J, kl_R, kl_T, kl_N, Nat.le_refl, Nat.zero_le, List.map_nil, List.map_cons, List.sum_nil, List.sum_cons, c_I, c_J, c_R, c_T, va_rf, hI_wI, hJ_wJ, hR_wR, hI_J, hI_R, hJ_I, hJ_R, hR_I, hR_J, hN_I, hN_J, hN_R, wI_I, wJ_J, upd_at, updL_at, kR_s, Option.toList, List.append_nil, List.nil_append, List.cons_append, if_true, if_false, reduceIte, Bool.false_eq_true, not_true_eq_false, not_false_eq_true, true_and, and_true, false_and, and_false, true_or, or_true,  Nat.reduceEqDiff, Nat.reduceAdd, Nat.reduceLeDiff], kp_refl⟩
    · have c3 : ¬ y ≤ nI (sTl S) := Int32.not_le.mpr (c1.resolve_left c2)
      exact ⟨g, fun Q => by simp (implicitDefEqProofs := false) only [rX9_street_5, rX9_street_6, rX9_street_9, rX9_street_10, rX9_street_10b, rX9_street_11, rX9_street_14, rX9_street_17, rX9_street_17b, rX9_street_18, rX9_street_19, rX9_street_22, kA_44, kB_44, c2, tp.2.1, c3, c_mrefused, show nI 2 = 2 from rfl, pCX9_street, pSX9_street, pOX9_street, pLX9_street, pCX9_refused, pSX9_refused, pOX9_refused, pLX9_refused, kl_I, kl_J, kl_R, kl_T, kl_N, Nat.le_refl, Nat.zero_le, List.map_nil, List.map_cons, List.sum_nil, List.sum_cons, c_I, c_J, c_R, c_T, va_rf, hI_wI, hJ_wJ, hR_wR, hI_J, hI_R, hJ_I, hJ_R, hR_I, hR_J, hN_I, hN_J, hN_R, wI_I, wJ_J, upd_at, updL_at, kR_s, Option.toList, List.append_nil, List.nil_append, List.cons_append, if_true, if_false, reduceIte, Bool.false_eq_true, not_true_eq_false, not_false_eq_true, true_and, and_true, false_and, and_false, true_or, or_true,  Nat.reduceEqDiff, Nat.reduceAdd, Nat.reduceLeDiff], kp_refl⟩
  · rw [if_neg c1]
    refine ⟨13, .inr rfl, ?_⟩
    have y0 : ¬ y < 0 := fun q => c1 (.inl q)
    have y1 : y ≤ nI (sTl S) := Int32.not_lt.mp (fun q => c1 (.inr q))
    obtain ⟨n, hn, rfl⟩ := nI_of2 (n := sTl S) (nI_toInt (by have := tp.1; omega)) y0 y1
    have n9 : n ≤ 900 := Nat.le_trans hn tp.1
    rw [nI_cl (by omega)]
    have hNg : hN (th h) = hN h := rfl
    have kth := kp_th (h := h)
    generalize hg : th h = g at I1 tp E hNg kth ⊢
    -- the fields, the new street
    have hs : mst (hN h) := hm
    generalize es : hN h = s at hs hNg
    have s57 : 57 ≤ s ∧ s + 12 < SCR := by obtain ⟨j, rfl, hj⟩ := hs; unfold SCR; omega
    let g1 : qH := wI g 44 (upd (upd (upd (upd (hI g 44) 7 (nI n)) 6 0) 8 0) 12 0)
    have hN1 : hN g1 = s := hNg
    obtain ⟨H, eH, nH⟩ := c_newS (d := d + 11) (h := g1) (by rw [hN1]; exact hs)
    rw [hN1] at eH nH
    let g2 : qH := wI (wR H 44 (va_up (hR H 44) 4 (some s))) 44 (upd (hI H 44) 9 0)
    have H44 := nH.2.1 44 (by omega)
    have st0 : ∀ Q, WP (d + 12) mX9_street (0, 0) 5 [some (.ref (44 : Nat)), some (.int (nI n)), none] [] g Q = WP (d + 12) mX9_street (13, 92) 59 [some (.ref (44 : Nat)), some (.int (nI n)), none] [] g2 Q := fun Q => by
      simp (implicitDefEqProofs := false) only [rX9_street_5, rX9_street_6, rX9_street_9, rX9_street_10, rX9_street_10b, rX9_street_11, rX9_street_14, rX9_street_17, rX9_street_17b, rX9_street_18, rX9_street_19, rX9_street_22, rX9_street_23, rX9_street_23b, rX9_street_24, rX9_street_25, rX9_street_28, rX9_street_28b, rX9_street_29, rX9_street_30, rX9_street_33, rX9_street_33b, rX9_street_34, rX9_street_35, rX9_street_38, rX9_street_38b, rX9_street_39, rX9_street_40, kA_44, kB_44, y0, tp.2.1, y1, pCX9_street, pSX9_street, pOX9_street, pLX9_street, kl_I, kl_J, kl_R, kl_T, kl_N, Nat.le_refl, Nat.zero_le, List.map_nil, List.map_cons, List.sum_nil, List.sum_cons, c_I, c_J, c_R, c_T, va_rf, hI_wI, hJ_wJ, hR_wR, hI_J, hI_R, hJ_I, hJ_R, hR_I, hR_J, hN_I, hN_J, hN_R, wI_I, wJ_J, upd_at, updL_at, kR_s, Option.toList, List.append_nil, List.nil_append, List.cons_append, if_true, if_false, reduceIte, Bool.false_eq_true, not_true_eq_false, not_false_eq_true, true_and, and_true, false_and, and_false, true_or, or_true,  Nat.reduceEqDiff, Nat.reduceAdd, Nat.reduceLeDiff]
      change WP (d + 12) mX9_street (0, 0) 43 [some (.ref (44 : Nat)), some (.int (nI n)), none] [] g1 Q = _
      simp (implicitDefEqProofs := false) only [rX9_street_43, rX9_street_43b, rX9_street_44, rX9_street_47, rX9_street_47b, rX9_street_48, rX9_street_51, rX9_street_54, rX9_street_54b, rX9_street_55, rX9_street_56, kA_44, kB_44, hN1, kU0 hs, show nFT 8 = 21 from rfl, eH, pOX8_init, pCX8_init, pSX8_init, pLX8_init, pCX9_street, pSX9_street, pOX9_street, pLX9_street, kl_I, kl_J, kl_R, kl_T, kl_N, Nat.le_refl, Nat.zero_le, List.map_nil, List.map_cons, List.sum_nil, List.sum_cons, c_I, c_J, c_R, c_T, va_rf, hI_wI, hJ_wJ, hR_wR, hI_J, hI_R, hJ_I, hJ_R, hR_I, hR_J, hN_I, hN_J, hN_R, wI_I, wJ_J, upd_at, updL_at, kR_s, Option.toList, List.append_nil, List.nil_append, List.cons_append, if_true, if_false, reduceIte, Bool.false_eq_true, not_true_eq_false, not_false_eq_true, true_and, and_true, false_and, and_false, true_or, or_true,  Nat.reduceEqDiff, Nat.reduceAdd, Nat.reduceLeDiff]
      rfl
    have i1 : ∀ b, b ≠ 44 → hI g1 b = hI g b := fun b hb => by show hI (wI g 44 _) b = _; rw [hI_wI, if_neg hb]
    have oth : ∀ b, b ≠ 44 → (b < s ∨ s + 13 ≤ b) → hI g2 b = hI g b ∧ hJ g2 b = hJ g b ∧ hR g2 b = hR g b := fun b hb hc => by
      have q := nH.2.1 b (by omega)
      refine ⟨?_, ?_, ?_⟩
      · show hI (wI _ 44 _) b = _
        rw [hI_wI, if_neg hb, hI_R, q.1, i1 b hb]
      · show hJ H b = _
        rw [q.2.1]; rfl
      · show hR (wR H 44 _) b = _
        rw [hR_wR, if_neg hb, q.2.2]; rfl
    have f44 : ∀ j, hI g2 44 j = if j = 9 then 0 else if j = 12 then 0 else if j = 8 then 0 else if j = 6 then 0 else if j = 7 then nI n else hI g 44 j := fun j => by
      show hI (wI _ 44 _) 44 j = _
      rw [hI_wI, if_pos rfl, upd_at, H44.1]
      show (if j = 9 then 0 else hI (wI g 44 _) 44 j) = _
      rw [hI_wI, if_pos rfl, upd_at, upd_at, upd_at, upd_at]
    have r44 : ∀ j, j ≠ 4 → hR g2 44 j = hR g 44 j := fun j hj => by
      show hR (wR H 44 _) 44 j = _
      rw [hR_wR, if_pos rfl, vup_at, if_neg hj, H44.2.2]; rfl
    have r444 : hR g2 44 4 = some s := by
      show hR (wR H 44 _) 44 4 = _
      rw [hR_wR, if_pos rfl, vup_at, if_pos rfl]
    have F2 : Fin0 (hR g2) := fun e he => by
      obtain ⟨q1, q2⟩ := finT_57 e he
      by_cases c : e.1 = 44
      · rw [c, r44 e.2.1 (fun q => q2 ⟨c, .inl q⟩), ← c]; exact I1.1 e he
      · rw [(oth e.1 c (by omega)).2.2]; exact I1.1 e he
    have tp2 : tpF g2 n (sTb S) := ⟨F2, by rw [f44 7]; rfl, n9, fun i hi => by rw [(oth 45 (by decide) (by omega)).1]; exact tp.2.2 i hi⟩
    have hN2 : hN g2 = s + 13 := by show hN H = _; rw [nH.1]
    have rd2 : mRd g2 s (a0, fun _ => 0, false) := mRd_0 (h := g1) (H := H) hs nH (by show hR (wR H 44 _) s = _; rw [hR_wR, if_neg (by omega)]) (fun k hk => by show hI (wI _ 44 _) (s + k) = _; rw [hI_wI, if_neg (by omega), hI_R])
    obtain ⟨g3, e3, x3, k3⟩ := c_goesOn (d := d + 10) (q := 0) tp2 (by omega) (by rw [f44 8]; rfl) (by rw [f44 9, if_pos rfl]; decide)
    have r3 : RM g3 s n (sTb S) (a0, fun _ => 0, false) (tkN (bB (sTb S)) n 0) := ⟨tpF_gx tp2 x3, by rw [x3.1]; exact r444, mRd_44 rd2 x3.1 x3.2.2.1, k3, (tkN_ok (by omega)).1, by rw [x3.2.2.2 12 (by decide), f44 12]; rfl⟩
    obtain ⟨g4, e4, x4, q4⟩ := c_readAll (d := d) r3
    have x24 : rg9 s g2 g4 := rg_tr (rg_gx x3) x4
    have st1 : ∀ Q, WM (d + 12) mX9_street [.ref (44 : Nat), .int (nI n)] h Q = WP (d + 12) mX9_street (13, 92) 67 [some (.ref (44 : Nat)), some (.int (nI n)), none] [] g4 Q := fun Q => by
      rw [E, st0]
      clear_value g2
      simp (implicitDefEqProofs := false) only [rX9_street_59, rX9_street_59b, rX9_street_60, rX9_street_63, rX9_street_63b, rX9_street_64, kA_44, kB_44, e3, e4, pCX9_street, pSX9_street, pOX9_street, pLX9_street, pCX9_goesOn, pSX9_goesOn, pOX9_goesOn, pLX9_goesOn, pCX9_readAll, pSX9_readAll, pOX9_readAll, pLX9_readAll, kl_I, kl_J, kl_R, kl_T, kl_N, Nat.le_refl, Nat.zero_le, List.map_nil, List.map_cons, List.sum_nil, List.sum_cons, c_I, c_J, c_R, c_T, va_rf, hI_wI, hJ_wJ, hR_wR, hI_J, hI_R, hJ_I, hJ_R, hR_I, hR_J, hN_I, hN_J, hN_R, wI_I, wJ_J, upd_at, updL_at, kR_s, Option.toList, List.append_nil, List.nil_append, List.cons_append, if_true, if_false, reduceIte, Bool.false_eq_true, not_true_eq_false, not_false_eq_true, true_and, and_true, false_and, and_false, true_or, or_true,  Nat.reduceEqDiff, Nat.reduceAdd, Nat.reduceLeDiff]
    clear_value g1 g2
    clear e3 e4 st0 E eH
    -- what the reading leaves of the rest
    have oth4 : ∀ b, b ≠ 44 → (b < s ∨ s + 13 ≤ b) → hI g4 b = hI g b ∧ hJ g4 b = hJ g b ∧ hR g4 b = hR g b := fun b hb hc => by
      have q := x24.2.2.1 b hb (by omega)
      have q2 := oth b hb hc
      exact ⟨q.1.trans q2.1, q.2.trans q2.2.1, by rw [x24.1]; exact q2.2.2⟩
    have f4 : ∀ j, j ∉ [6, 7, 8, 9, 10, 11, 12, 13] → hI g4 44 j = hI g 44 j := fun j hj => by
      simp at hj
      rw [x24.2.2.2 j (by simp; omega), f44 j, if_neg (by omega), if_neg (by omega), if_neg (by omega), if_neg (by omega), if_neg (by omega)]
    have f46 : hI g4 44 6 = 0 := by rw [x24.2.2.2 6 (by decide), f44 6]; rfl
    have F4 : Fin0 (hR g4) := by rw [x24.1]; exact F2
    have rr4 : ∀ j, j ≠ 4 → hR g4 44 j = hR g 44 j := fun j hj => by rw [x24.1]; exact r44 j hj
    have hN4 : hN g4 = s + 13 := by rw [x24.2.1]; exact hN2
    have b56 : ∀ b, (b < 44 ∨ b = 56 ∨ SCR ≤ b) → hI g4 b = hI h b ∧ hJ g4 b = hJ h b ∧ hR g4 b = hR h b := fun b hb => by
      have q1 := oth4 b (by unfold SCR at hb; omega) (by omega)
      have q2 := (kp_mf kth).2 b hb
      exact ⟨q1.1.trans q2.1, q1.2.1.trans q2.2.1, q1.2.2.trans q2.2.2⟩
    obtain ⟨F, bd, stt, v, pa, im, e22, -, en⟩ := I1
    unfold parse
    cases hp : prs (bB (sTb S)) n 901 (a0, fun _ => 0, false) (tkN (bB (sTb S)) n 0) with
    | inl e =>
      rw [hp] at q4
      obtain ⟨st', o⟩ := q4
      have fl := o.2.2.2.2.1
      have wr := o.2.2.2.2.2.1
      have e0 := o.2.2.2.2.2.2
      have ql : (nI e.1 ≤ 0) = (e.1 ≤ 0) := nle (x := e.1) (k := 0) (c := 0) rfl (by omega) (by omega)
      let g5 : qH := wI g4 44 (upd (upd (hI g4 44) 1 4) 2 (nI e.2))
      have oth5 : ∀ b, b ≠ 44 → hI g5 b = hI g4 b := fun b hb => by show hI (wI g4 44 _) b = _; rw [hI_wI, if_neg hb]
      have f5 : ∀ j, j ≠ 1 → j ≠ 2 → hI g5 44 j = hI g4 44 j := fun j h1 h2 => by show hI (wI g4 44 _) 44 j = _; rw [hI_wI, if_pos rfl, upd_at, if_neg h2, upd_at, if_neg h1]
      refine ⟨g5, fun Q => ?_, ⟨by show hN g4 = hN h + 13; omega, fun b hb => ?_⟩, ?_⟩
      · rw [st1]
        simp (implicitDefEqProofs := false) only [rX9_street_67, rX9_street_67b, rX9_street_68, rX9_street_71, rX9_street_74, rX9_street_74b, rX9_street_75, rX9_street_76, rX9_street_79, rX9_street_79b, rX9_street_80, rX9_street_80b, rX9_street_81, rX9_street_84, rX9_street_87, rX9_street_88, kA_44, kB_44, fl, ql, show ¬ e.1 ≤ 0 from by omega, wr, g5, pCX9_street, pSX9_street, pOX9_street, pLX9_street, kl_I, kl_J, kl_R, kl_T, kl_N, Nat.le_refl, Nat.zero_le, List.map_nil, List.map_cons, List.sum_nil, List.sum_cons, c_I, c_J, c_R, c_T, va_rf, hI_wI, hJ_wJ, hR_wR, hI_J, hI_R, hJ_I, hJ_R, hR_I, hR_J, hN_I, hN_J, hN_R, wI_I, wJ_J, upd_at, updL_at, kR_s, Option.toList, List.append_nil, List.nil_append, List.cons_append, if_true, if_false, reduceIte, Bool.false_eq_true, not_true_eq_false, not_false_eq_true, true_and, and_true, false_and, and_false, true_or, or_true,  Nat.reduceEqDiff, Nat.reduceAdd, Nat.reduceLeDiff]
      · have := b56 b hb
        refine ⟨?_, this.2.1, this.2.2⟩
        rw [oth5 b (by unfold SCR at hb; omega)]; exact this.1
      · refine ⟨F4, bd, ?_, ?_, pP_mv pa (by rw [f5 19 (by decide) (by decide), f4 19 (by decide)]) (by rw [oth5 48 (by decide), (oth4 48 (by decide) (by omega)).1]), pI_mv im (by rw [f5 20 (by decide) (by decide), f4 20 (by decide)]) (by rw [oth5 49 (by decide), (oth4 49 (by decide) (by omega)).1]), by rw [f5 22 (by decide) (by decide), f4 22 (by decide)]; exact e22, ⟨Nat.zero_le _, by rw [f5 6 (by decide) (by decide)]; exact f46, fun i hi => by rw [oth5 45 (by decide), (oth4 45 (by decide) (by omega)).1]; exact tp.2.2 i hi⟩, ?_, ?_, ?_⟩
        · rcases stt with ⟨n1, n2, n3⟩ | ⟨n1, s0, n2, n3, n4⟩
          · exact .inl ⟨n1, by show hR g4 44 3 = none; rw [rr4 3 (by decide)]; exact n2, n3⟩
          · have l0 : s0 + 13 ≤ s := by rw [← hNg]; exact n4
            obtain ⟨j0, ej0, -⟩ := id n3.1
            refine .inr ⟨n1, s0, by show hR g4 44 3 = _; rw [rr4 3 (by decide)]; exact n2, mSt_mv n3 (by show hR g4 s0 = _; rw [(oth4 s0 (by omega) (by omega)).2.2]) (fun k hk => by rw [oth5 _ (by omega), (oth4 (s0 + k) (by omega) (by omega)).1]), by show s0 + 13 ≤ hN g4; omega⟩
        · rw [oth5 46 (by decide), (oth4 46 (by decide) (by omega)).1]; exact v
        · rw [f5 12 (by decide) (by decide)]; exact fl
        · show hI (wI g4 44 _) 44 1 = _
          rw [hI_wI, if_pos rfl, upd_at, if_neg (by decide), upd_at, if_pos rfl]; rfl
        · show hI (wI g4 44 _) 44 2 = _
          rw [hI_wI, if_pos rfl, upd_at, if_pos rfl]; rfl
    | inr st =>
      rw [hp] at q4
      obtain ⟨t', r4⟩ := q4
      have h0 := prs_N _ _ _ _ hp
      have w4 := mSt_Rd r4.2.2.1 h0
      have ww := w4.2.2.1
      have h6 := ww.1
      have p64 := p6 h6
      have pu := ww.2.2.2.1
      have e12 := r4.2.2.2.2.2
      have r44' := r4.2.1
      let g5 : qH := wR g4 44 (va_up (hR g4 44) 3 (some s))
      have w5 : mSt g5 s st.1 := mSt_mv w4 (by show hR (wR g4 44 _) s = _; rw [hR_wR, if_neg (by omega)]) (fun k hk => rfl)
      have r53 : hR g5 44 3 = some s := by show hR (wR g4 44 _) 44 3 = _; rw [hR_wR, if_pos rfl, vup_at, if_pos rfl]
      have F5 : Fin0 (hR g5) := fun e he => by
        obtain ⟨q1, q2⟩ := finT_57 e he
        show hR (wR g4 44 _) e.1 e.2.1 = _
        rw [hR_wR]
        by_cases c : e.1 = 44
        · rw [if_pos c, vup_at, if_neg (fun q => q2 ⟨c, .inr q⟩), ← c]; exact F4 e he
        · rw [if_neg c]; exact F4 e he
      obtain ⟨G, e6, vG⟩ := c_asTold (d := d + 11) F5 r53 w5
      have st2 : ∀ Q, WM (d + 12) mX9_street [.ref (44 : Nat), .int (nI n)] h Q = WP (d + 12) mX9_street (13, 92) 103 [some (.ref (44 : Nat)), some (.int (nI n)), some (.int (nI 0))] [] (wI g5 47 G) Q := fun Q => by
        rw [st1]
        simp (implicitDefEqProofs := false) only [rX9_street_67, rX9_street_67b, rX9_street_68, rX9_street_71, rX9_street_74, rX9_street_74b, rX9_street_75, rX9_street_76, rX9_street_79, rX9_street_79b, rX9_street_80, rX9_street_80b, rX9_street_81, rX9_street_84, rX9_street_87, rX9_street_88, rX9_street_89, rX9_street_89b, rX9_street_90, rX9_street_90b, rX9_street_91, rX9_street_94, rX9_street_97, rX9_street_97b, rX9_street_98, rX9_street_101, rX9_street_102, kA_44, kB_44, kU0 hs, e12, r44', pCX9_street, pSX9_street, pOX9_street, pLX9_street, show (0 : Int32) ≤ 0 from by decide, show wR g4 44 (va_up (hR g4 44) 3 (some s)) = g5 from rfl, e6, pCX9_asTold, pSX9_asTold, pOX9_asTold, pLX9_asTold, kl_I, kl_J, kl_R, kl_T, kl_N, Nat.le_refl, Nat.zero_le, List.map_nil, List.map_cons, List.sum_nil, List.sum_cons, c_I, c_J, c_R, c_T, va_rf, hI_wI, hJ_wJ, hR_wR, hI_J, hI_R, hJ_I, hJ_R, hR_I, hR_J, hN_I, hN_J, hN_R, wI_I, wJ_J, upd_at, updL_at, kR_s, Option.toList, List.append_nil, List.nil_append, List.cons_append, if_true, if_false, reduceIte, Bool.false_eq_true, not_true_eq_false, not_false_eq_true, true_and, and_true, false_and, and_false, true_or, or_true,  Nat.reduceEqDiff, Nat.reduceAdd, Nat.reduceLeDiff]
        rfl
      have F6 : Fin0 (hR (wI g5 47 G)) := F5
      have lc := fun Q => lc_st (d := d + 12) (h := wI g5 47 G) (z1 := nI n) (Q := Q) F6 10 0 (by omega)
      rw [fil_0, wI_same] at lc
      let g7 : qH := wI (wI g5 47 G) 46 (fil 10 (hI (wI g5 47 G) 47) (hI (wI g5 47 G) 46))
      let g8 : qH := wI g7 44 (upd (upd (hI g7 44) 19 0) 20 0)
      have o8 : ∀ b, b ≠ 44 → b ≠ 46 → b ≠ 47 → hI g8 b = hI g4 b := fun b h1 h2 h3 => by
        show hI (wI (wI (wI g5 47 G) 46 _) 44 _) b = _
        rw [hI_wI, if_neg h1, hI_wI, if_neg h2, hI_wI, if_neg h3]; rfl
      have f8 : ∀ j, hI g8 44 j = if j = 20 then 0 else if j = 19 then 0 else hI g4 44 j := fun j => by
        show hI (wI g7 44 _) 44 j = _
        have e1 : hI g7 44 = hI g4 44 := by
          show hI (wI (wI g5 47 G) 46 _) 44 = _
          rw [hI_wI, if_neg (by decide), hI_wI, if_neg (by decide)]; rfl
        rw [hI_wI, if_pos rfl, upd_at, upd_at, e1]
      have v8 : vF (hI g8 46) st.1 (0, aPu st.1, 0) := by
        show vF (hI (wI g7 44 _) 46) st.1 _
        rw [hI_wI, if_neg (by decide)]
        show vF (hI (wI (wI g5 47 G) 46 _) 46) st.1 _
        rw [hI_wI, if_pos rfl, hI_wI, if_pos rfl]
        exact vF_fil h6 vG
      have u1 : hI g8 s 1 = nI (aN st.1) := by rw [o8 s (by omega) (by omega) (by omega)]; exact w4.2.2.2.1.2.1
      have r83 : hR g8 44 3 = some s := r53
      refine ⟨tm g8 0, fun Q => ?_, ⟨by show hN g4 = hN h + 13; omega, fun b hb => ?_⟩, ?_⟩
      · rw [st2, lc]
        change WP (d + 12) mX9_street (13, 92) 127 [some (.ref (44 : Nat)), some (.int (nI n)), some (.int 10)] [] g7 Q = _
        simp (implicitDefEqProofs := false) only [rX9_street_127, rX9_street_127b, rX9_street_128, rX9_street_129, rX9_street_132, rX9_street_132b, rX9_street_133, rX9_street_134, kA_44, kB_44, pCX9_street, pSX9_street, pOX9_street, pLX9_street, kl_I, kl_J, kl_R, kl_T, kl_N, Nat.le_refl, Nat.zero_le, List.map_nil, List.map_cons, List.sum_nil, List.sum_cons, c_I, c_J, c_R, c_T, va_rf, hI_wI, hJ_wJ, hR_wR, hI_J, hI_R, hJ_I, hJ_R, hR_I, hR_J, hN_I, hN_J, hN_R, wI_I, wJ_J, upd_at, updL_at, kR_s, Option.toList, List.append_nil, List.nil_append, List.cons_append, if_true, if_false, reduceIte, Bool.false_eq_true, not_true_eq_false, not_false_eq_true, true_and, and_true, false_and, and_false, true_or, or_true,  Nat.reduceEqDiff, Nat.reduceAdd, Nat.reduceLeDiff]
        change WP (d + 12) mX9_street (13, 92) 137 [some (.ref (44 : Nat)), some (.int (nI n)), some (.int 10)] [] g8 Q = _
        clear_value g8
        simp (implicitDefEqProofs := false) only [rX9_street_137, rX9_street_137b, rX9_street_138, rX9_street_138b, rX9_street_139, rX9_street_142, rX9_street_145, rX9_street_148, kA_44, kB_44, kU0 hs, r83, u1, c_mgood, pCX9_street, pSX9_street, pOX9_street, pLX9_street, pCX9_good, pSX9_good, pOX9_good, pLX9_good, kl_I, kl_J, kl_R, kl_T, kl_N, Nat.le_refl, Nat.zero_le, List.map_nil, List.map_cons, List.sum_nil, List.sum_cons, c_I, c_J, c_R, c_T, va_rf, hI_wI, hJ_wJ, hR_wR, hI_J, hI_R, hJ_I, hJ_R, hR_I, hR_J, hN_I, hN_J, hN_R, wI_I, wJ_J, upd_at, updL_at, kR_s, Option.toList, List.append_nil, List.nil_append, List.cons_append, if_true, if_false, reduceIte, Bool.false_eq_true, not_true_eq_false, not_false_eq_true, true_and, and_true, false_and, and_false, true_or, or_true,  Nat.reduceEqDiff, Nat.reduceAdd, Nat.reduceLeDiff]
      · have := b56 b hb
        have nb : b ≠ 44 ∧ b ≠ 46 ∧ b ≠ 47 := by unfold SCR at hb; omega
        refine ⟨?_, this.2.1, ?_⟩
        · rw [tm_b nb.1, o8 b nb.1 nb.2.1 nb.2.2]; exact this.1
        · show hR (wR g4 44 _) b = _
          rw [hR_wR, if_neg nb.1]; exact this.2.2
      · have t8 : ∀ j, j ≠ 1 → j ≠ 2 → hI (tm g8 0) 44 j = hI g8 44 j := fun j h1 h2 => tm_at (by omega)
        refine ⟨F5, ⟨ww, ⟨⟨show (0 : Nat) < 64 by decide, show aPu st.1 < 64 by omega, show (0 : Nat) ≤ 90 by decide⟩, show 0 < 2 ^ aN st.1 from Nat.pow_pos (by omega), pu⟩, (fun p hp => by cases hp), (fun p hp => by cases hp)⟩, .inr ⟨h0, s, r53, mSt_mv w5 rfl (fun k hk => ?_), by show s + 13 ≤ hN g4; omega⟩, by rw [tm_b (by decide)]; exact v8, ⟨?_, show (0 : Nat) ≤ 16 by decide, fun i hi => absurd hi (Nat.not_lt_zero i)⟩, ⟨?_, show (0 : Nat) ≤ 3 by decide, fun i hi => absurd hi (Nat.not_lt_zero i)⟩, ?_, ⟨Nat.zero_le _, ?_, fun i hi => ?_⟩, ?_, ?_, ?_⟩
        · rw [tm_b (by omega), o8 _ (by omega) (by omega) (by omega)]; rfl
        · rw [t8 19 (by decide) (by decide), f8 19]; rfl
        · rw [t8 20 (by decide) (by decide), f8 20]; rfl
        · rw [t8 22 (by decide) (by decide), f8 22, if_neg (by decide), if_neg (by decide), f4 22 (by decide)]; exact e22
        · rw [t8 6 (by decide) (by decide), f8 6, if_neg (by decide), if_neg (by decide)]; exact f46
        · rw [tm_b (by decide), o8 45 (by decide) (by decide) (by decide), (oth4 45 (by decide) (by omega)).1]; exact tp.2.2 i hi
        · rw [t8 12 (by decide) (by decide), f8 12, if_neg (by decide), if_neg (by decide)]; exact e12
        · unfold tm; rw [hI_wI, if_pos rfl, upd_at, if_neg (by decide), upd_at, if_pos rfl]; rfl
        · unfold tm; rw [hI_wI, if_pos rfl, upd_at, if_pos rfl]; rfl
