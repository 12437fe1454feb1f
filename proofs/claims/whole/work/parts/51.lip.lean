/-! ===== the class's reader: glass, rung, spark, any line ===== -/
theorem c_glassLine {d : Nat} {h : qH} {s n : Nat} {tb : Nat → Int32} {st : PS} {t : tK} (r : RS h s n tb st t) (h4 : aGl st.1 < 4) : rb (d + 6) mX2_glassLine [.ref (27 : Nat)] h s n tb (lGlass (bB tb) n st t) := by
  have hs := r.2.2.1.1
  have F := r.1
  have r2 := r.2.1
  have w := r.2.2.1
  have u11 := w.2.2.1.2.2.2.2.1
  have lo31 : (if aGl st.1 = 0 then 0 else aGd st.1 (aGl st.1 - 1) + 1) ≤ 31 := by
    split
    · omega
    · have := w.2.1.2.2.2.2.2.2.2.2.1 (aGl st.1 - 1) (by omega); omega
  have pre : ∀ Q, WM (d + 6) mX2_glassLine [.ref (27 : Nat)] h Q = WP (d + 6) mX2_glassLine (0, 0) 34 [some (.ref (27 : Nat)), some (.int (nI (if aGl st.1 = 0 then 0 else aGd st.1 (aGl st.1 - 1) + 1)))] [] h Q := fun Q => by
    by_cases c : aGl st.1 = 0
    · rw [if_pos c]
      have u11' : hI h s 11 = 0 := by rw [u11, c]; rfl
      simp (implicitDefEqProofs := false) only [eX2_glassLine, rX2_glassLine_0, rX2_glassLine_0b, rX2_glassLine_1, rX2_glassLine_4, rX2_glassLine_7, rX2_glassLine_10, rX2_glassLine_10b, rX2_glassLine_11, rX2_glassLine_14, rX2_glassLine_17, rX2_glassLine_17b, rX2_glassLine_18, rX2_glassLine_21, rX2_glassLine_24, rX2_glassLine_25, rX2_glassLine_26, rX2_glassLine_27, rX2_glassLine_28, rX2_glassLine_29, rX2_glassLine_32, rX2_glassLine_33, kS0 hs, nS hs, nSs hs, kA_27, kB_27, r2, pCX2_glassLine, pSX2_glassLine, pOX2_glassLine, pLX2_glassLine, u11', Int32.le_refl, nI_0, kl_I, kl_J, kl_R, kl_T, kl_N, Nat.le_refl, Nat.zero_le, List.map_nil, List.map_cons, List.sum_nil, List.sum_cons, c_I, c_J, c_R, c_T, va_rf, hI_wI, hJ_wJ, hR_wR, hI_J, hI_R, hJ_I, hJ_R, hR_I, hR_J, hN_I, hN_J, hN_R, wI_I, wJ_J, upd_at, updL_at, kR_s, Option.toList, List.append_nil, List.nil_append, List.cons_append, if_true, if_false, reduceIte, Bool.false_eq_true, not_true_eq_false, not_false_eq_true, true_and, and_true, false_and, and_false, true_or, or_true,  Nat.reduceEqDiff, Nat.reduceAdd, Nat.reduceLeDiff]
    · rw [if_neg c]
      have g0 : ¬ nI (aGl st.1) ≤ 0 := nI_nle (by omega) (by omega)
      have v4 : vp_in (nI (aGl st.1 - 1)) 4 := nI_vp (by omega) (by decide)
      have cl : (nI (aGl st.1 - 1)).toNatClampNeg = aGl st.1 - 1 := nI_cl (by omega)
      have e8 := w.2.2.2.2.2.1 (aGl st.1 - 1) (by omega)
      have sb : nI (aGl st.1) - 1 = nI (aGl st.1 - 1) := pk_sub (b := 1) (by omega)
      simp (implicitDefEqProofs := false) only [eX2_glassLine, rX2_glassLine_0, rX2_glassLine_0b, rX2_glassLine_1, rX2_glassLine_4, rX2_glassLine_7, rX2_glassLine_10, rX2_glassLine_10b, rX2_glassLine_11, rX2_glassLine_14, rX2_glassLine_17, rX2_glassLine_17b, rX2_glassLine_18, rX2_glassLine_21, rX2_glassLine_24, rX2_glassLine_25, rX2_glassLine_26, rX2_glassLine_27, rX2_glassLine_28, rX2_glassLine_29, rX2_glassLine_32, rX2_glassLine_33, kS0 hs, nS hs, nSs hs, kS8 hs, kT8 hs, fS8 hs F, kA_27, kB_27, r2, pCX2_glassLine, pSX2_glassLine, pOX2_glassLine, pLX2_glassLine, u11, g0, sb, v4, cl, e8, nI_1, kl_I, kl_J, kl_R, kl_T, kl_N, Nat.le_refl, Nat.zero_le, List.map_nil, List.map_cons, List.sum_nil, List.sum_cons, c_I, c_J, c_R, c_T, va_rf, hI_wI, hJ_wJ, hR_wR, hI_J, hI_R, hJ_I, hJ_R, hR_I, hR_J, hN_I, hN_J, hN_R, wI_I, wJ_J, upd_at, updL_at, kR_s, Option.toList, List.append_nil, List.nil_append, List.cons_append, if_true, if_false, reduceIte, Bool.false_eq_true, not_true_eq_false, not_false_eq_true, true_and, and_true, false_and, and_false, true_or, or_true,  Nat.reduceEqDiff, Nat.reduceAdd, Nat.reduceLeDiff]
  have tw := c_takeWord (d := d) 15 r (by omega)
  unfold lGlass
  cases hw : tW (bB tb) n 15 t with
  | inl e =>
    rw [hw] at tw
    obtain ⟨h', k1, k2, k3, k4⟩ := tw
    refine ⟨h', fun Q => ?_, k2, k3, k4⟩
    rw [pre]
    simp (implicitDefEqProofs := false) only [rX2_glassLine_34, rX2_glassLine_34b, rX2_glassLine_35, rX2_glassLine_37, rX2_glassLine_40, rX2_glassLine_43, rX2_glassLine_43b, rX2_glassLine_44, rX2_glassLine_45, rX2_glassLine_47, rX2_glassLine_50, rX2_glassLine_53, rX2_glassLine_54, rX2_glassLine_55, rX2_glassLine_55b, rX2_glassLine_56, rX2_glassLine_59, rX2_glassLine_62, rX2_glassLine_62b, rX2_glassLine_63, rX2_glassLine_66, rX2_glassLine_69, rX2_glassLine_69b, rX2_glassLine_70, rX2_glassLine_73, rX2_glassLine_74, rX2_glassLine_74b, rX2_glassLine_75, rX2_glassLine_78, rX2_glassLine_78b, rX2_glassLine_79, rX2_glassLine_82, rX2_glassLine_83, rX2_glassLine_84, rX2_glassLine_87, rX2_glassLine_88, kA_27, kB_27, pCX2_glassLine, pSX2_glassLine, pOX2_glassLine, pLX2_glassLine, pCX2_takeWord, pSX2_takeWord, pOX2_takeWord, pLX2_takeWord, k1, show ¬ (1 : Int32) = 0 from by decide, bI_t, bI_f, kl_I, kl_J, kl_R, kl_T, kl_N, Nat.le_refl, Nat.zero_le, List.map_nil, List.map_cons, List.sum_nil, List.sum_cons, c_I, c_J, c_R, c_T, va_rf, hI_wI, hJ_wJ, hR_wR, hI_J, hI_R, hJ_I, hJ_R, hR_I, hR_J, hN_I, hN_J, hN_R, wI_I, wJ_J, upd_at, updL_at, kR_s, Option.toList, List.append_nil, List.nil_append, List.cons_append, if_true, if_false, reduceIte, Bool.false_eq_true, not_true_eq_false, not_false_eq_true, true_and, and_true, false_and, and_false, true_or, or_true,  Nat.reduceEqDiff, Nat.reduceAdd, Nat.reduceLeDiff]
  | inr t1 =>
    rw [hw] at tw
    obtain ⟨h2, k1, k2, k3⟩ := tw
    have tn := c_takeWhole (d := d + 3) (if aGl st.1 = 0 then 0 else aGd st.1 (aGl st.1 - 1) + 1) 30 k3 (by omega) (by omega)
    show rb _ _ _ _ _ _ _ (bd (tN (bB tb) n (if aGl st.1 = 0 then 0 else aGd st.1 (aGl st.1 - 1) + 1) 30 t1) _)
    cases hn : tN (bB tb) n (if aGl st.1 = 0 then 0 else aGd st.1 (aGl st.1 - 1) + 1) 30 t1 with
    | inl e =>
      rw [hn] at tn
      obtain ⟨h', m1, m2, m3, m4⟩ := tn
      rw [show nI 30 = 30 from rfl] at m1
      refine ⟨h', fun Q => ?_, rx_trans k2 m2, m3, m4⟩
      rw [pre]
      simp (implicitDefEqProofs := false) only [rX2_glassLine_34, rX2_glassLine_34b, rX2_glassLine_35, rX2_glassLine_37, rX2_glassLine_40, rX2_glassLine_43, rX2_glassLine_43b, rX2_glassLine_44, rX2_glassLine_45, rX2_glassLine_47, rX2_glassLine_50, rX2_glassLine_53, rX2_glassLine_54, rX2_glassLine_55, rX2_glassLine_55b, rX2_glassLine_56, rX2_glassLine_59, rX2_glassLine_62, rX2_glassLine_62b, rX2_glassLine_63, rX2_glassLine_66, rX2_glassLine_69, rX2_glassLine_69b, rX2_glassLine_70, rX2_glassLine_73, rX2_glassLine_74, rX2_glassLine_74b, rX2_glassLine_75, rX2_glassLine_78, rX2_glassLine_78b, rX2_glassLine_79, rX2_glassLine_82, rX2_glassLine_83, rX2_glassLine_84, rX2_glassLine_87, rX2_glassLine_88, kA_27, kB_27, pCX2_glassLine, pSX2_glassLine, pOX2_glassLine, pLX2_glassLine, pCX2_takeWord, pSX2_takeWord, pOX2_takeWord, pLX2_takeWord, pCX2_takeWhole, pSX2_takeWhole, pOX2_takeWhole, pLX2_takeWhole, k1, m1, show ¬ (1 : Int32) = 0 from by decide, bI_t, bI_f, kl_I, kl_J, kl_R, kl_T, kl_N, Nat.le_refl, Nat.zero_le, List.map_nil, List.map_cons, List.sum_nil, List.sum_cons, c_I, c_J, c_R, c_T, va_rf, hI_wI, hJ_wJ, hR_wR, hI_J, hI_R, hJ_I, hJ_R, hR_I, hR_J, hN_I, hN_J, hN_R, wI_I, wJ_J, upd_at, updL_at, kR_s, Option.toList, List.append_nil, List.nil_append, List.cons_append, if_true, if_false, reduceIte, Bool.false_eq_true, not_true_eq_false, not_false_eq_true, true_and, and_true, false_and, and_false, true_or, or_true,  Nat.reduceEqDiff, Nat.reduceAdd, Nat.reduceLeDiff]
    | inr p =>
      rw [hn] at tn
      obtain ⟨h3, m1, m2, m3, m4, m5, m6⟩ := tn
      rw [show nI 30 = 30 from rfl] at m1
      have F3 := m3.1
      have r3 := m3.2.1
      have w3 := m3.2.2.1
      have u3 := w3.2.2.1.2.2.2.2.1
      have tb2 := tN_b hn
      have v4 : vp_in (nI (aGl st.1)) 4 := nI_vp h4 (by decide)
      have cl : (nI (aGl st.1)).toNatClampNeg = aGl st.1 := nI_cl (by omega)
      refine ⟨wI (wI h3 (s + 8) (upd (hI h3 (s + 8)) (aGl st.1) (nI p.1))) s (upd (hI h3 s) 11 (nI (aGl st.1 + 1))), fun Q => ?_, rx_w (rx_w (rx_trans k2 m2) (by omega)) (by omega), RS_st (a' := aGlS st.1 p.1) m3 rfl rfl (by rw [hI_wI, if_neg (z27 hs).1, hI_wI, if_neg (s27 hs 8 (by omega)).1]) (by rw [hI_wI, if_neg (z27 hs).2, hI_wI, if_neg (s27 hs 8 (by omega)).2]) rfl (cS_gl w3 h4 tb2.2 ?_)⟩
      · rw [pre]
        simp (implicitDefEqProofs := false) only [rX2_glassLine_34, rX2_glassLine_34b, rX2_glassLine_35, rX2_glassLine_37, rX2_glassLine_40, rX2_glassLine_43, rX2_glassLine_43b, rX2_glassLine_44, rX2_glassLine_45, rX2_glassLine_47, rX2_glassLine_50, rX2_glassLine_53, rX2_glassLine_54, rX2_glassLine_55, rX2_glassLine_55b, rX2_glassLine_56, rX2_glassLine_59, rX2_glassLine_62, rX2_glassLine_62b, rX2_glassLine_63, rX2_glassLine_66, rX2_glassLine_69, rX2_glassLine_69b, rX2_glassLine_70, rX2_glassLine_73, rX2_glassLine_74, rX2_glassLine_74b, rX2_glassLine_75, rX2_glassLine_78, rX2_glassLine_78b, rX2_glassLine_79, rX2_glassLine_82, rX2_glassLine_83, rX2_glassLine_84, rX2_glassLine_87, rX2_glassLine_88, kS0 hs, nS hs, nSs hs, kS8 hs, kT8 hs, fS8 hs F3, kA_27, kB_27, r3, pCX2_glassLine, pSX2_glassLine, pOX2_glassLine, pLX2_glassLine, pCX2_takeWord, pSX2_takeWord, pOX2_takeWord, pLX2_takeWord, pCX2_takeWhole, pSX2_takeWhole, pOX2_takeWhole, pLX2_takeWhole, k1, m1, m4, u3, v4, cl, hWa, hWb, hWc, hWd, nI_1, show ¬ (1 : Int32) = 0 from by decide, bI_t, bI_f, kl_I, kl_J, kl_R, kl_T, kl_N, Nat.le_refl, Nat.zero_le, List.map_nil, List.map_cons, List.sum_nil, List.sum_cons, c_I, c_J, c_R, c_T, va_rf, hI_wI, hJ_wJ, hR_wR, hI_J, hI_R, hJ_I, hJ_R, hR_I, hR_J, hN_I, hN_J, hN_R, wI_I, wJ_J, upd_at, updL_at, kR_s, Option.toList, List.append_nil, List.nil_append, List.cons_append, if_true, if_false, reduceIte, Bool.false_eq_true, not_true_eq_false, not_false_eq_true, true_and, and_true, false_and, and_false, true_or, or_true,  Nat.reduceEqDiff, Nat.reduceAdd, Nat.reduceLeDiff]
      · by_cases c : aGl st.1 = 0
        · exact .inl c
        · have := tb2.1
          rw [if_neg c] at this
          exact .inr (by show aGd st.1 (aGl st.1 - 1) < p.1; omega)
theorem c_rungLine {d : Nat} {h : qH} {s n : Nat} {tb : Nat → Int32} {st : PS} {t : tK} (r : RS h s n tb st t) (h4 : aRu st.1 < 4) : rb (d + 7) mX2_rungLine [.ref (27 : Nat)] h s n tb (lRung (bB tb) n st t) := by
  have hs := r.2.2.1.1
  have tw := c_takeWord (d := d + 1) 15 r (by omega)
  unfold lRung
  cases hw : tW (bB tb) n 15 t with
  | inl e =>
    rw [hw] at tw
    obtain ⟨h', k1, k2, k3, k4⟩ := tw
    refine ⟨h', fun Q => ?_, k2, k3, k4⟩
    simp (implicitDefEqProofs := false) only [eX2_rungLine, rX2_rungLine_0, rX2_rungLine_0b, rX2_rungLine_1, rX2_rungLine_3, rX2_rungLine_6, rX2_rungLine_9, rX2_rungLine_9b, rX2_rungLine_10, rX2_rungLine_11, rX2_rungLine_13, rX2_rungLine_16, rX2_rungLine_19, rX2_rungLine_20, kA_27, kB_27, pCX2_rungLine, pSX2_rungLine, pOX2_rungLine, pLX2_rungLine, pCX2_takeWord, pSX2_takeWord, pOX2_takeWord, pLX2_takeWord, k1, show ¬ (1 : Int32) = 0 from by decide, bI_t, bI_f, kl_I, kl_J, kl_R, kl_T, kl_N, Nat.le_refl, Nat.zero_le, List.map_nil, List.map_cons, List.sum_nil, List.sum_cons, c_I, c_J, c_R, c_T, va_rf, hI_wI, hJ_wJ, hR_wR, hI_J, hI_R, hJ_I, hJ_R, hR_I, hR_J, hN_I, hN_J, hN_R, wI_I, wJ_J, upd_at, updL_at, kR_s, Option.toList, List.append_nil, List.nil_append, List.cons_append, if_true, if_false, reduceIte, Bool.false_eq_true, not_true_eq_false, not_false_eq_true, true_and, and_true, false_and, and_false, true_or, or_true,  Nat.reduceEqDiff, Nat.reduceAdd, Nat.reduceLeDiff]
  | inr t1 =>
    rw [hw] at tw
    obtain ⟨h2, k1, k2, k3⟩ := tw
    have tn := c_takeWhole (d := d + 4) 0 30 k3 (by omega) (by omega)
    show rb _ _ _ _ _ _ _ (bd (tN (bB tb) n 0 30 t1) _)
    cases hn : tN (bB tb) n 0 30 t1 with
    | inl e =>
      rw [hn] at tn
      obtain ⟨h', m1, m2, m3, m4⟩ := tn
      rw [nI_0, show nI 30 = 30 from rfl] at m1
      refine ⟨h', fun Q => ?_, rx_trans k2 m2, m3, m4⟩
      simp (implicitDefEqProofs := false) only [eX2_rungLine, rX2_rungLine_0, rX2_rungLine_0b, rX2_rungLine_1, rX2_rungLine_3, rX2_rungLine_6, rX2_rungLine_9, rX2_rungLine_9b, rX2_rungLine_10, rX2_rungLine_11, rX2_rungLine_13, rX2_rungLine_16, rX2_rungLine_19, rX2_rungLine_20, kA_27, kB_27, pCX2_rungLine, pSX2_rungLine, pOX2_rungLine, pLX2_rungLine, pCX2_takeWord, pSX2_takeWord, pOX2_takeWord, pLX2_takeWord, pCX2_takeWhole, pSX2_takeWhole, pOX2_takeWhole, pLX2_takeWhole, k1, m1, show ¬ (1 : Int32) = 0 from by decide, bI_t, bI_f, kl_I, kl_J, kl_R, kl_T, kl_N, Nat.le_refl, Nat.zero_le, List.map_nil, List.map_cons, List.sum_nil, List.sum_cons, c_I, c_J, c_R, c_T, va_rf, hI_wI, hJ_wJ, hR_wR, hI_J, hI_R, hJ_I, hJ_R, hR_I, hR_J, hN_I, hN_J, hN_R, wI_I, wJ_J, upd_at, updL_at, kR_s, Option.toList, List.append_nil, List.nil_append, List.cons_append, if_true, if_false, reduceIte, Bool.false_eq_true, not_true_eq_false, not_false_eq_true, true_and, and_true, false_and, and_false, true_or, or_true,  Nat.reduceEqDiff, Nat.reduceAdd, Nat.reduceLeDiff]
    | inr p =>
      rw [hn] at tn
      obtain ⟨h3, m1, m2, m3, m4, m5, m6⟩ := tn
      rw [nI_0, show nI 30 = 30 from rfl] at m1
      have x3 := rx_trans k2 m2
      have cw := c_isWord (d := d + 2) 8 m3 (by omega)
      have w3 := m3.2.2.1
      have n6 : aN st.1 ≤ 6 := r.2.2.1.2.1.1
      obtain ⟨h5, a1, a2, a3, a4⟩ := c_step (d := d + 5) m3
      have F5 := a4.1
      have r5 := a4.2.1
      have w5 := a4.2.2.1
      have u5 := w5.2.2.1.2.2.2.2.2.2
      have e8 : hI h5 27 8 = nI p.1 := by rw [a3 8 (by decide) (by decide) (by decide)]; exact m4
      have v4 : vp_in (nI (aRu st.1)) 4 := nI_vp h4 (by decide)
      have cl : (nI (aRu st.1)).toNatClampNeg = aRu st.1 := nI_cl (by omega)
      have fin : ∀ (q : Option Nat), (∀ x, q = some x → x < aN st.1) → RS (wI (wI (wI h5 (s + 10) (upd (hI h5 (s + 10)) (aRu st.1) (nI p.1))) (s + 11) (upd (hI h5 (s + 11)) (aRu st.1) (oI q))) s (upd (hI h5 s) 15 (nI (aRu st.1 + 1)))) s n tb (aRuS st.1 p.1 q, st.2) (tkN (bB tb) n p.2.2.2) := fun q hq => RS_st a4 rfl rfl (by rw [hI_wI, if_neg (z27 hs).1, hI_wI, if_neg (s27 hs 11 (by omega)).1, hI_wI, if_neg (s27 hs 10 (by omega)).1]) (by rw [hI_wI, if_neg (z27 hs).2, hI_wI, if_neg (s27 hs 11 (by omega)).2, hI_wI, if_neg (s27 hs 10 (by omega)).2]) rfl (cS_ru w5 h4 (tN_b hn).2 hq)
      have xf : ∀ (q : Option Nat), rx s h (wI (wI (wI h5 (s + 10) (upd (hI h5 (s + 10)) (aRu st.1) (nI p.1))) (s + 11) (upd (hI h5 (s + 11)) (aRu st.1) (oI q))) s (upd (hI h5 s) 15 (nI (aRu st.1 + 1)))) := fun q => rx_w (rx_w (rx_w (rx_trans x3 (rx_sx a2)) (by omega)) (by omega)) (by omega)
      have post : ∀ (q : Option Nat) Q, WP (d + 7) mX2_rungLine (0, 0) 49 [some (.ref (27 : Nat)), some (.int (oI q))] [] h5 Q = Q (some (some (.int 1))) (wI (wI (wI h5 (s + 10) (upd (hI h5 (s + 10)) (aRu st.1) (nI p.1))) (s + 11) (upd (hI h5 (s + 11)) (aRu st.1) (oI q))) s (upd (hI h5 s) 15 (nI (aRu st.1 + 1)))) := fun q Q => by
        simp (implicitDefEqProofs := false) only [rX2_rungLine_49, rX2_rungLine_49b, rX2_rungLine_50, rX2_rungLine_53, rX2_rungLine_56, rX2_rungLine_56b, rX2_rungLine_57, rX2_rungLine_60, rX2_rungLine_63, rX2_rungLine_63b, rX2_rungLine_64, rX2_rungLine_67, rX2_rungLine_68, rX2_rungLine_68b, rX2_rungLine_69, rX2_rungLine_72, rX2_rungLine_75, rX2_rungLine_75b, rX2_rungLine_76, rX2_rungLine_79, rX2_rungLine_82, rX2_rungLine_83, rX2_rungLine_84, rX2_rungLine_84b, rX2_rungLine_85, rX2_rungLine_88, rX2_rungLine_88b, rX2_rungLine_89, rX2_rungLine_92, rX2_rungLine_93, rX2_rungLine_94, rX2_rungLine_97, rX2_rungLine_98, kS0 hs, kS1 hs, kT1 hs, fS1 hs F5, kS2 hs, kT2 hs, fS2 hs F5, kS3 hs, kT3 hs, fS3 hs F5, kS4 hs, kT4 hs, fS4 hs F5, kS5 hs, kT5 hs, fS5 hs F5, kS6 hs, kT6 hs, fS6 hs F5, kS7 hs, kT7 hs, fS7 hs F5, kS8 hs, kT8 hs, fS8 hs F5, kS9 hs, kT9 hs, fS9 hs F5, kS10 hs, kT10 hs, fS10 hs F5, kS11 hs, kT11 hs, fS11 hs F5, nS hs, nSs hs, kA_27, kB_27, r5, pCX2_rungLine, pSX2_rungLine, pOX2_rungLine, pLX2_rungLine, e8, u5, v4, cl, hWa, hWb, hWc, hWd, nI_1, kl_I, kl_J, kl_R, kl_T, kl_N, Nat.le_refl, Nat.zero_le, List.map_nil, List.map_cons, List.sum_nil, List.sum_cons, c_I, c_J, c_R, c_T, va_rf, hI_wI, hJ_wJ, hR_wR, hI_J, hI_R, hJ_I, hJ_R, hR_I, hR_J, hN_I, hN_J, hN_R, wI_I, wJ_J, upd_at, updL_at, kR_s, Option.toList, List.append_nil, List.nil_append, List.cons_append, if_true, if_false, reduceIte, Bool.false_eq_true, not_true_eq_false, not_false_eq_true, true_and, and_true, false_and, and_false, true_or, or_true,  Nat.reduceEqDiff, Nat.reduceAdd, Nat.reduceLeDiff]
      show rb _ _ _ _ _ _ _ (if isW (bB tb) p.2 8 = true then _ else _)
      by_cases c4 : isW (bB tb) p.2 8 = true
      · rw [if_pos c4]
        refine ⟨_, fun Q => ?_, xf none, fin none (by simp)⟩
        rw [← post none Q, oI_no]
        conv => lhs; simp (implicitDefEqProofs := false) only [eX2_rungLine, rX2_rungLine_0, rX2_rungLine_0b, rX2_rungLine_1, rX2_rungLine_3, rX2_rungLine_6, rX2_rungLine_9, rX2_rungLine_9b, rX2_rungLine_10, rX2_rungLine_11, rX2_rungLine_13, rX2_rungLine_16, rX2_rungLine_19, rX2_rungLine_20, rX2_rungLine_21, rX2_rungLine_23, rX2_rungLine_24, rX2_rungLine_24b, rX2_rungLine_25, rX2_rungLine_27, rX2_rungLine_30, rX2_rungLine_33, rX2_rungLine_33b, rX2_rungLine_34, rX2_rungLine_37, rX2_rungLine_38, rX2_rungLine_39, rX2_rungLine_40, rX2_rungLine_43, rX2_rungLine_44, rX2_rungLine_45, rX2_rungLine_45b, rX2_rungLine_46, kA_27, kB_27, pCX2_rungLine, pSX2_rungLine, pOX2_rungLine, pLX2_rungLine, pCX2_takeWord, pSX2_takeWord, pOX2_takeWord, pLX2_takeWord, pCX2_takeWhole, pSX2_takeWhole, pOX2_takeWhole, pLX2_takeWhole, pCX2_isWord, pSX2_isWord, pOX2_isWord, pLX2_isWord, pCX2_step, pSX2_step, pOX2_step, pLX2_step, k1, m1, cw, c4, a1, show ¬ (1 : Int32) = 0 from by decide, bI_t, bI_f, kl_I, kl_J, kl_R, kl_T, kl_N, Nat.le_refl, Nat.zero_le, List.map_nil, List.map_cons, List.sum_nil, List.sum_cons, c_I, c_J, c_R, c_T, va_rf, hI_wI, hJ_wJ, hR_wR, hI_J, hI_R, hJ_I, hJ_R, hR_I, hR_J, hN_I, hN_J, hN_R, wI_I, wJ_J, upd_at, updL_at, kR_s, Option.toList, List.append_nil, List.nil_append, List.cons_append, if_true, if_false, reduceIte, Bool.false_eq_true, not_true_eq_false, not_false_eq_true, true_and, and_true, false_and, and_false, true_or, or_true,  Nat.reduceEqDiff, Nat.reduceAdd, Nat.reduceLeDiff]
      · rw [if_neg c4]
        have c4' : isW (bB tb) p.2 8 = false := by simpa using c4
        have hh := c_houseHere (d := d) m3
        cases hx : hH (bB tb) st p.2 with
        | inl e =>
          rw [hx] at hh
          obtain ⟨h', b1, b2, b3, b4⟩ := hh
          refine ⟨h', fun Q => ?_, rx_trans x3 b2, b3, b4⟩
          simp (implicitDefEqProofs := false) only [eX2_rungLine, rX2_rungLine_0, rX2_rungLine_0b, rX2_rungLine_1, rX2_rungLine_3, rX2_rungLine_6, rX2_rungLine_9, rX2_rungLine_9b, rX2_rungLine_10, rX2_rungLine_11, rX2_rungLine_13, rX2_rungLine_16, rX2_rungLine_19, rX2_rungLine_20, rX2_rungLine_21, rX2_rungLine_23, rX2_rungLine_24, rX2_rungLine_24b, rX2_rungLine_25, rX2_rungLine_27, rX2_rungLine_30, rX2_rungLine_33, rX2_rungLine_33b, rX2_rungLine_34, rX2_rungLine_37, rX2_rungLine_38, rX2_rungLine_39, rX2_rungLine_40, rX2_rungLine_43, rX2_rungLine_44, rX2_rungLine_45, rX2_rungLine_45b, rX2_rungLine_46, kA_27, kB_27, pCX2_rungLine, pSX2_rungLine, pOX2_rungLine, pLX2_rungLine, pCX2_takeWord, pSX2_takeWord, pOX2_takeWord, pLX2_takeWord, pCX2_takeWhole, pSX2_takeWhole, pOX2_takeWhole, pLX2_takeWhole, pCX2_isWord, pSX2_isWord, pOX2_isWord, pLX2_isWord, pCX2_houseHere, pSX2_houseHere, pOX2_houseHere, pLX2_houseHere, k1, m1, cw, c4', b1, show ¬ (1 : Int32) = 0 from by decide, bI_t, bI_f, kl_I, kl_J, kl_R, kl_T, kl_N, Nat.le_refl, Nat.zero_le, List.map_nil, List.map_cons, List.sum_nil, List.sum_cons, c_I, c_J, c_R, c_T, va_rf, hI_wI, hJ_wJ, hR_wR, hI_J, hI_R, hJ_I, hJ_R, hR_I, hR_J, hN_I, hN_J, hN_R, wI_I, wJ_J, upd_at, updL_at, kR_s, Option.toList, List.append_nil, List.nil_append, List.cons_append, if_true, if_false, reduceIte, Bool.false_eq_true, not_true_eq_false, not_false_eq_true, true_and, and_true, false_and, and_false, true_or, or_true,  Nat.reduceEqDiff, Nat.reduceAdd, Nat.reduceLeDiff]
        | inr x =>
          rw [hx] at hh
          have hh : ∀ Q, WM (d + 6) mX2_houseHere [.ref (27 : Nat)] h3 Q = Q (some (some (.int (nI x)))) h3 := hh
          have xl := hH_lt hx
          have nqx := ne_m1 (x := x) (by omega)
          refine ⟨_, fun Q => ?_, xf (some x), fin (some x) (fun y hy => by simp only [Option.some.injEq] at hy; rw [← hy]; exact xl)⟩
          rw [← post (some x) Q, oI_so]
          conv => lhs; simp (implicitDefEqProofs := false) only [eX2_rungLine, rX2_rungLine_0, rX2_rungLine_0b, rX2_rungLine_1, rX2_rungLine_3, rX2_rungLine_6, rX2_rungLine_9, rX2_rungLine_9b, rX2_rungLine_10, rX2_rungLine_11, rX2_rungLine_13, rX2_rungLine_16, rX2_rungLine_19, rX2_rungLine_20, rX2_rungLine_21, rX2_rungLine_23, rX2_rungLine_24, rX2_rungLine_24b, rX2_rungLine_25, rX2_rungLine_27, rX2_rungLine_30, rX2_rungLine_33, rX2_rungLine_33b, rX2_rungLine_34, rX2_rungLine_37, rX2_rungLine_38, rX2_rungLine_39, rX2_rungLine_40, rX2_rungLine_43, rX2_rungLine_44, rX2_rungLine_45, rX2_rungLine_45b, rX2_rungLine_46, kA_27, kB_27, pCX2_rungLine, pSX2_rungLine, pOX2_rungLine, pLX2_rungLine, pCX2_takeWord, pSX2_takeWord, pOX2_takeWord, pLX2_takeWord, pCX2_takeWhole, pSX2_takeWhole, pOX2_takeWhole, pLX2_takeWhole, pCX2_isWord, pSX2_isWord, pOX2_isWord, pLX2_isWord, pCX2_houseHere, pSX2_houseHere, pOX2_houseHere, pLX2_houseHere, pCX2_step, pSX2_step, pOX2_step, pLX2_step, k1, m1, cw, c4', hh, nqx, a1, show ¬ (1 : Int32) = 0 from by decide, bI_t, bI_f, kl_I, kl_J, kl_R, kl_T, kl_N, Nat.le_refl, Nat.zero_le, List.map_nil, List.map_cons, List.sum_nil, List.sum_cons, c_I, c_J, c_R, c_T, va_rf, hI_wI, hJ_wJ, hR_wR, hI_J, hI_R, hJ_I, hJ_R, hR_I, hR_J, hN_I, hN_J, hN_R, wI_I, wJ_J, upd_at, updL_at, kR_s, Option.toList, List.append_nil, List.nil_append, List.cons_append, if_true, if_false, reduceIte, Bool.false_eq_true, not_true_eq_false, not_false_eq_true, true_and, and_true, false_and, and_false, true_or, or_true,  Nat.reduceEqDiff, Nat.reduceAdd, Nat.reduceLeDiff]
theorem c_sparkLine {d : Nat} {h : qH} {s n : Nat} {tb : Nat → Int32} {st : PS} {t : tK} (r : RS h s n tb st t) (h9 : aSp st.1 < 9) : rb (d + 7) mX2_sparkLine [.ref (27 : Nat)] h s n tb (lSpark (bB tb) n st t) := by
  have hs := r.2.2.1.1
  have n6 := r.2.2.1.2.1.1
  have hh := c_houseHere (d := d) r
  obtain ⟨h1, a1, a2, a3, a4⟩ := c_step (d := d + 5) r
  have F1 := a4.1
  have r21 := a4.2.1
  have e6' := a4.2.2.2.2.2.1.2.2.1
  unfold lSpark
  cases hx : hH (bB tb) st t with
  | inl e =>
    rw [hx] at hh
    obtain ⟨h', k1, k2, k3, k4⟩ := hh
    refine ⟨h', fun Q => ?_, k2, k3, k4⟩
    simp (implicitDefEqProofs := false) only [eX2_sparkLine, rX2_sparkLine_0, rX2_sparkLine_0b, rX2_sparkLine_1, rX2_sparkLine_4, rX2_sparkLine_5, rX2_sparkLine_6, rX2_sparkLine_7, rX2_sparkLine_10, rX2_sparkLine_11, rX2_sparkLine_12, rX2_sparkLine_12b, rX2_sparkLine_13, rX2_sparkLine_16, rX2_sparkLine_16b, rX2_sparkLine_17, rX2_sparkLine_20, rX2_sparkLine_21, rX2_sparkLine_22, rX2_sparkLine_23, rX2_sparkLine_26, rX2_sparkLine_27, rX2_sparkLine_28, rX2_sparkLine_29, rX2_sparkLine_30, rX2_sparkLine_33, rX2_sparkLine_33b, rX2_sparkLine_34, rX2_sparkLine_37, rX2_sparkLine_38, rX2_sparkLine_39, rX2_sparkLine_42, rX2_sparkLine_43, rX2_sparkLine_46, rX2_sparkLine_46b, rX2_sparkLine_47, rX2_sparkLine_48, rX2_sparkLine_51, rX2_sparkLine_52, rX2_sparkLine_52b, rX2_sparkLine_53, rX2_sparkLine_56, rX2_sparkLine_56b, rX2_sparkLine_57, rX2_sparkLine_59, rX2_sparkLine_62, rX2_sparkLine_65, rX2_sparkLine_65b, rX2_sparkLine_66, rX2_sparkLine_67, rX2_sparkLine_69, rX2_sparkLine_72, rX2_sparkLine_75, rX2_sparkLine_76, kS0 hs, nS hs, nSs hs, kA_27, kB_27, r21, pCX2_sparkLine, pSX2_sparkLine, pOX2_sparkLine, pLX2_sparkLine, pCX2_houseHere, pSX2_houseHere, pOX2_houseHere, pLX2_houseHere, pCX2_step, pSX2_step, pOX2_step, pLX2_step, pCX4_sparkOf, pSX4_sparkOf, pOX4_sparkOf, pLX4_sparkOf, pCX2_fail, pSX2_fail, pOX2_fail, pLX2_fail, pCX2_takeWord, pSX2_takeWord, pOX2_takeWord, pLX2_takeWord, pCX2_takeWhole, pSX2_takeWhole, pOX2_takeWhole, pLX2_takeWhole, k1, kl_I, kl_J, kl_R, kl_T, kl_N, Nat.le_refl, Nat.zero_le, List.map_nil, List.map_cons, List.sum_nil, List.sum_cons, c_I, c_J, c_R, c_T, va_rf, hI_wI, hJ_wJ, hR_wR, hI_J, hI_R, hJ_I, hJ_R, hR_I, hR_J, hN_I, hN_J, hN_R, wI_I, wJ_J, upd_at, updL_at, kR_s, Option.toList, List.append_nil, List.nil_append, List.cons_append, if_true, if_false, reduceIte, Bool.false_eq_true, not_true_eq_false, not_false_eq_true, true_and, and_true, false_and, and_false, true_or, or_true,  Nat.reduceEqDiff, Nat.reduceAdd, Nat.reduceLeDiff]
  | inr x =>
    rw [hx] at hh
    have hh : ∀ Q, WM (d + 6) mX2_houseHere [.ref (27 : Nat)] h Q = Q (some (some (.int (nI x)))) h := hh
    have xl := hH_lt hx
    have nx := ne_m1 (x := x) (by omega)
    have hh2 := c_houseHere (d := d) a4
    show rb _ _ _ _ _ _ _ (bd (hH (bB tb) st (tkN (bB tb) n t.2.2)) _)
    cases hy : hH (bB tb) st (tkN (bB tb) n t.2.2) with
    | inl e =>
      rw [hy] at hh2
      obtain ⟨h', k1, k2, k3, k4⟩ := hh2
      refine ⟨h', fun Q => ?_, rx_trans (rx_sx a2) k2, k3, k4⟩
      simp (implicitDefEqProofs := false) only [eX2_sparkLine, rX2_sparkLine_0, rX2_sparkLine_0b, rX2_sparkLine_1, rX2_sparkLine_4, rX2_sparkLine_5, rX2_sparkLine_6, rX2_sparkLine_7, rX2_sparkLine_10, rX2_sparkLine_11, rX2_sparkLine_12, rX2_sparkLine_12b, rX2_sparkLine_13, rX2_sparkLine_16, rX2_sparkLine_16b, rX2_sparkLine_17, rX2_sparkLine_20, rX2_sparkLine_21, rX2_sparkLine_22, rX2_sparkLine_23, rX2_sparkLine_26, rX2_sparkLine_27, rX2_sparkLine_28, rX2_sparkLine_29, rX2_sparkLine_30, rX2_sparkLine_33, rX2_sparkLine_33b, rX2_sparkLine_34, rX2_sparkLine_37, rX2_sparkLine_38, rX2_sparkLine_39, rX2_sparkLine_42, rX2_sparkLine_43, rX2_sparkLine_46, rX2_sparkLine_46b, rX2_sparkLine_47, rX2_sparkLine_48, rX2_sparkLine_51, rX2_sparkLine_52, rX2_sparkLine_52b, rX2_sparkLine_53, rX2_sparkLine_56, rX2_sparkLine_56b, rX2_sparkLine_57, rX2_sparkLine_59, rX2_sparkLine_62, rX2_sparkLine_65, rX2_sparkLine_65b, rX2_sparkLine_66, rX2_sparkLine_67, rX2_sparkLine_69, rX2_sparkLine_72, rX2_sparkLine_75, rX2_sparkLine_76, kS0 hs, nS hs, nSs hs, kA_27, kB_27, r21, pCX2_sparkLine, pSX2_sparkLine, pOX2_sparkLine, pLX2_sparkLine, pCX2_houseHere, pSX2_houseHere, pOX2_houseHere, pLX2_houseHere, pCX2_step, pSX2_step, pOX2_step, pLX2_step, pCX4_sparkOf, pSX4_sparkOf, pOX4_sparkOf, pLX4_sparkOf, pCX2_fail, pSX2_fail, pOX2_fail, pLX2_fail, pCX2_takeWord, pSX2_takeWord, pOX2_takeWord, pLX2_takeWord, pCX2_takeWhole, pSX2_takeWhole, pOX2_takeWhole, pLX2_takeWhole, hh, nx, a1, k1, kl_I, kl_J, kl_R, kl_T, kl_N, Nat.le_refl, Nat.zero_le, List.map_nil, List.map_cons, List.sum_nil, List.sum_cons, c_I, c_J, c_R, c_T, va_rf, hI_wI, hJ_wJ, hR_wR, hI_J, hI_R, hJ_I, hJ_R, hR_I, hR_J, hN_I, hN_J, hN_R, wI_I, wJ_J, upd_at, updL_at, kR_s, Option.toList, List.append_nil, List.nil_append, List.cons_append, if_true, if_false, reduceIte, Bool.false_eq_true, not_true_eq_false, not_false_eq_true, true_and, and_true, false_and, and_false, true_or, or_true,  Nat.reduceEqDiff, Nat.reduceAdd, Nat.reduceLeDiff]
    | inr y =>
      rw [hy] at hh2
      have hh2 : ∀ Q, WM (d + 6) mX2_houseHere [.ref (27 : Nat)] h1 Q = Q (some (some (.int (nI y)))) h1 := hh2
      have yl := hH_lt hy
      have ny := ne_m1 (x := y) (by omega)
      have sp := c_sparkOf (d := d + 6) (x := x) (y := y) F1 a4.2.2.1 (by omega) (by omega)
      have s9 := a4.2.2.1.2.1.2.2.2.2.1
      have qs := mI_1 (x := spkN st.1 x y) (fun z hz => by have := spkL_lt hz; omega)
      have qe : (nI y = nI x) = (y = x) := propext (nI_eq (by omega) (by omega))
      show rb _ _ _ _ _ _ _ (if y = x ∨ ¬ spkN st.1 x y = none then _ else _)
      by_cases c1 : y = x
      · rw [if_pos (.inl c1)]
        have qe' : (nI y = nI x) = True := by rw [qe]; exact eq_true c1
        refine ⟨fl' h1 3, fun Q => ?_, rx_trans (rx_sx a2) (rx_sx fl_sx), fl_9, fl_10.trans e6'⟩
        simp (implicitDefEqProofs := false) only [eX2_sparkLine, rX2_sparkLine_0, rX2_sparkLine_0b, rX2_sparkLine_1, rX2_sparkLine_4, rX2_sparkLine_5, rX2_sparkLine_6, rX2_sparkLine_7, rX2_sparkLine_10, rX2_sparkLine_11, rX2_sparkLine_12, rX2_sparkLine_12b, rX2_sparkLine_13, rX2_sparkLine_16, rX2_sparkLine_16b, rX2_sparkLine_17, rX2_sparkLine_20, rX2_sparkLine_21, rX2_sparkLine_22, rX2_sparkLine_23, rX2_sparkLine_26, rX2_sparkLine_27, rX2_sparkLine_28, rX2_sparkLine_29, rX2_sparkLine_30, rX2_sparkLine_33, rX2_sparkLine_33b, rX2_sparkLine_34, rX2_sparkLine_37, rX2_sparkLine_38, rX2_sparkLine_39, rX2_sparkLine_42, rX2_sparkLine_43, rX2_sparkLine_46, rX2_sparkLine_46b, rX2_sparkLine_47, rX2_sparkLine_48, rX2_sparkLine_51, rX2_sparkLine_52, rX2_sparkLine_52b, rX2_sparkLine_53, rX2_sparkLine_56, rX2_sparkLine_56b, rX2_sparkLine_57, rX2_sparkLine_59, rX2_sparkLine_62, rX2_sparkLine_65, rX2_sparkLine_65b, rX2_sparkLine_66, rX2_sparkLine_67, rX2_sparkLine_69, rX2_sparkLine_72, rX2_sparkLine_75, rX2_sparkLine_76, kS0 hs, nS hs, nSs hs, kA_27, kB_27, r21, pCX2_sparkLine, pSX2_sparkLine, pOX2_sparkLine, pLX2_sparkLine, pCX2_houseHere, pSX2_houseHere, pOX2_houseHere, pLX2_houseHere, pCX2_step, pSX2_step, pOX2_step, pLX2_step, pCX4_sparkOf, pSX4_sparkOf, pOX4_sparkOf, pLX4_sparkOf, pCX2_fail, pSX2_fail, pOX2_fail, pLX2_fail, pCX2_takeWord, pSX2_takeWord, pOX2_takeWord, pLX2_takeWord, pCX2_takeWhole, pSX2_takeWhole, pOX2_takeWhole, pLX2_takeWhole, hh, nx, a1, hh2, ny, qe', c_fail, kl_I, kl_J, kl_R, kl_T, kl_N, Nat.le_refl, Nat.zero_le, List.map_nil, List.map_cons, List.sum_nil, List.sum_cons, c_I, c_J, c_R, c_T, va_rf, hI_wI, hJ_wJ, hR_wR, hI_J, hI_R, hJ_I, hJ_R, hR_I, hR_J, hN_I, hN_J, hN_R, wI_I, wJ_J, upd_at, updL_at, kR_s, Option.toList, List.append_nil, List.nil_append, List.cons_append, if_true, if_false, reduceIte, Bool.false_eq_true, not_true_eq_false, not_false_eq_true, true_and, and_true, false_and, and_false, true_or, or_true,  Nat.reduceEqDiff, Nat.reduceAdd, Nat.reduceLeDiff]
      · have qe' : (nI y = nI x) = False := by rw [qe]; exact eq_false c1
        by_cases c2 : spkN st.1 x y = none
        · have qs' : (mI (spkN st.1 x y) = -1) = True := by rw [qs]; exact eq_true c2
          rw [if_neg (by rintro (q | q); exact c1 q; exact q c2)]
          obtain ⟨h2, b1, b2, b3, b4⟩ := c_step (d := d + 5) a4
          have x2 := rx_trans (rx_sx (s := s) a2) (rx_sx b2)
          have tw := c_takeWord (d := d + 1) 17 b4 (by omega)
          cases hw : tW (bB tb) n 17 (tkN (bB tb) n (tkN (bB tb) n t.2.2).2.2) with
          | inl e =>
            rw [hw] at tw
            obtain ⟨h', k1, k2, k3, k4⟩ := tw
            refine ⟨h', fun Q => ?_, rx_trans x2 k2, k3, k4⟩
            simp (implicitDefEqProofs := false) only [eX2_sparkLine, rX2_sparkLine_0, rX2_sparkLine_0b, rX2_sparkLine_1, rX2_sparkLine_4, rX2_sparkLine_5, rX2_sparkLine_6, rX2_sparkLine_7, rX2_sparkLine_10, rX2_sparkLine_11, rX2_sparkLine_12, rX2_sparkLine_12b, rX2_sparkLine_13, rX2_sparkLine_16, rX2_sparkLine_16b, rX2_sparkLine_17, rX2_sparkLine_20, rX2_sparkLine_21, rX2_sparkLine_22, rX2_sparkLine_23, rX2_sparkLine_26, rX2_sparkLine_27, rX2_sparkLine_28, rX2_sparkLine_29, rX2_sparkLine_30, rX2_sparkLine_33, rX2_sparkLine_33b, rX2_sparkLine_34, rX2_sparkLine_37, rX2_sparkLine_38, rX2_sparkLine_39, rX2_sparkLine_42, rX2_sparkLine_43, rX2_sparkLine_46, rX2_sparkLine_46b, rX2_sparkLine_47, rX2_sparkLine_48, rX2_sparkLine_51, rX2_sparkLine_52, rX2_sparkLine_52b, rX2_sparkLine_53, rX2_sparkLine_56, rX2_sparkLine_56b, rX2_sparkLine_57, rX2_sparkLine_59, rX2_sparkLine_62, rX2_sparkLine_65, rX2_sparkLine_65b, rX2_sparkLine_66, rX2_sparkLine_67, rX2_sparkLine_69, rX2_sparkLine_72, rX2_sparkLine_75, rX2_sparkLine_76, kS0 hs, nS hs, nSs hs, kA_27, kB_27, r21, pCX2_sparkLine, pSX2_sparkLine, pOX2_sparkLine, pLX2_sparkLine, pCX2_houseHere, pSX2_houseHere, pOX2_houseHere, pLX2_houseHere, pCX2_step, pSX2_step, pOX2_step, pLX2_step, pCX4_sparkOf, pSX4_sparkOf, pOX4_sparkOf, pLX4_sparkOf, pCX2_fail, pSX2_fail, pOX2_fail, pLX2_fail, pCX2_takeWord, pSX2_takeWord, pOX2_takeWord, pLX2_takeWord, pCX2_takeWhole, pSX2_takeWhole, pOX2_takeWhole, pLX2_takeWhole, hh, nx, a1, hh2, ny, qe', sp, qs', b1, k1, show ¬ (1 : Int32) = 0 from by decide, bI_t, bI_f, kl_I, kl_J, kl_R, kl_T, kl_N, Nat.le_refl, Nat.zero_le, List.map_nil, List.map_cons, List.sum_nil, List.sum_cons, c_I, c_J, c_R, c_T, va_rf, hI_wI, hJ_wJ, hR_wR, hI_J, hI_R, hJ_I, hJ_R, hR_I, hR_J, hN_I, hN_J, hN_R, wI_I, wJ_J, upd_at, updL_at, kR_s, Option.toList, List.append_nil, List.nil_append, List.cons_append, if_true, if_false, reduceIte, Bool.false_eq_true, not_true_eq_false, not_false_eq_true, true_and, and_true, false_and, and_false, true_or, or_true,  Nat.reduceEqDiff, Nat.reduceAdd, Nat.reduceLeDiff]
          | inr t3 =>
            rw [hw] at tw
            obtain ⟨h3, d1, d2, d3⟩ := tw
            have tn := c_takeWhole (d := d + 4) 0 9 d3 (by omega) (by omega)
            show rb _ _ _ _ _ _ _ (bd (tN (bB tb) n 0 9 t3) _)
            cases hn : tN (bB tb) n 0 9 t3 with
            | inl e =>
              rw [hn] at tn
              obtain ⟨h', m1, m2, m3, m4⟩ := tn
              rw [nI_0, show nI 9 = 9 from rfl] at m1
              refine ⟨h', fun Q => ?_, rx_trans (rx_trans x2 d2) m2, m3, m4⟩
              simp (implicitDefEqProofs := false) only [eX2_sparkLine, rX2_sparkLine_0, rX2_sparkLine_0b, rX2_sparkLine_1, rX2_sparkLine_4, rX2_sparkLine_5, rX2_sparkLine_6, rX2_sparkLine_7, rX2_sparkLine_10, rX2_sparkLine_11, rX2_sparkLine_12, rX2_sparkLine_12b, rX2_sparkLine_13, rX2_sparkLine_16, rX2_sparkLine_16b, rX2_sparkLine_17, rX2_sparkLine_20, rX2_sparkLine_21, rX2_sparkLine_22, rX2_sparkLine_23, rX2_sparkLine_26, rX2_sparkLine_27, rX2_sparkLine_28, rX2_sparkLine_29, rX2_sparkLine_30, rX2_sparkLine_33, rX2_sparkLine_33b, rX2_sparkLine_34, rX2_sparkLine_37, rX2_sparkLine_38, rX2_sparkLine_39, rX2_sparkLine_42, rX2_sparkLine_43, rX2_sparkLine_46, rX2_sparkLine_46b, rX2_sparkLine_47, rX2_sparkLine_48, rX2_sparkLine_51, rX2_sparkLine_52, rX2_sparkLine_52b, rX2_sparkLine_53, rX2_sparkLine_56, rX2_sparkLine_56b, rX2_sparkLine_57, rX2_sparkLine_59, rX2_sparkLine_62, rX2_sparkLine_65, rX2_sparkLine_65b, rX2_sparkLine_66, rX2_sparkLine_67, rX2_sparkLine_69, rX2_sparkLine_72, rX2_sparkLine_75, rX2_sparkLine_76, kS0 hs, nS hs, nSs hs, kA_27, kB_27, r21, pCX2_sparkLine, pSX2_sparkLine, pOX2_sparkLine, pLX2_sparkLine, pCX2_houseHere, pSX2_houseHere, pOX2_houseHere, pLX2_houseHere, pCX2_step, pSX2_step, pOX2_step, pLX2_step, pCX4_sparkOf, pSX4_sparkOf, pOX4_sparkOf, pLX4_sparkOf, pCX2_fail, pSX2_fail, pOX2_fail, pLX2_fail, pCX2_takeWord, pSX2_takeWord, pOX2_takeWord, pLX2_takeWord, pCX2_takeWhole, pSX2_takeWhole, pOX2_takeWhole, pLX2_takeWhole, hh, nx, a1, hh2, ny, qe', sp, qs', b1, d1, m1, show ¬ (1 : Int32) = 0 from by decide, bI_t, bI_f, kl_I, kl_J, kl_R, kl_T, kl_N, Nat.le_refl, Nat.zero_le, List.map_nil, List.map_cons, List.sum_nil, List.sum_cons, c_I, c_J, c_R, c_T, va_rf, hI_wI, hJ_wJ, hR_wR, hI_J, hI_R, hJ_I, hJ_R, hR_I, hR_J, hN_I, hN_J, hN_R, wI_I, wJ_J, upd_at, updL_at, kR_s, Option.toList, List.append_nil, List.nil_append, List.cons_append, if_true, if_false, reduceIte, Bool.false_eq_true, not_true_eq_false, not_false_eq_true, true_and, and_true, false_and, and_false, true_or, or_true,  Nat.reduceEqDiff, Nat.reduceAdd, Nat.reduceLeDiff]
            | inr p =>
              rw [hn] at tn
              obtain ⟨h4, m1, m2, m3, m4, m5, m6⟩ := tn
              rw [nI_0, show nI 9 = 9 from rfl] at m1
              have F4 := m3.1
              have r4 := m3.2.1
              have w4 := m3.2.2.1
              have u7 := w4.2.2.1.2.2.2.1
              have p9 := (tN_b hn).2
              have v9 : vp_in (nI (aSp st.1)) 9 := nI_vp h9 (by decide)
              have cl : (nI (aSp st.1)).toNatClampNeg = aSp st.1 := nI_cl (by omega)
              have v6 : vp_in (nI y) 6 := nI_vp (by omega) (by decide)
              have cly : (nI y).toNatClampNeg = y := nI_cl (by omega)
              have ky := (w4.2.2.2.1 y yl).1
              have k4 := (w4.2.1.2.2.1 y yl).1
              have lg : (if aKi st.1 y = 0 then p.1 + 1 else if aKi st.1 y = 1 then p.1 - 1 else if aKi st.1 y = 2 then p.1 else 1000) = lagN (aSpk st.1 x y p.1) (aSp st.1) := by
                have e1 : aTo (aSpk st.1 x y p.1) (aSp st.1) = y := by rw [aTo_aSpk, vup_at, if_pos rfl]
                have e2 : aDy (aSpk st.1 x y p.1) (aSp st.1) = p.1 := by rw [aDy_aSpk, vup_at, if_pos rfl]
                unfold lagN
                rw [e1, e2, aKi_aSpk]
              refine ⟨wI (wI (wI (wI h4 (s + 5) (upd (hI h4 (s + 5)) (aSp st.1) (nI x))) (s + 6) (upd (hI h4 (s + 6)) (aSp st.1) (nI y))) (s + 7) (upd (hI h4 (s + 7)) (aSp st.1) (nI (lagN (aSpk st.1 x y p.1) (aSp st.1))))) s (upd (hI h4 s) 7 (nI (aSp st.1 + 1))), fun Q => ?_, rx_w (rx_w (rx_w (rx_w (rx_trans (rx_trans x2 d2) m2) (by omega)) (by omega)) (by omega)) (by omega), RS_st (a' := aSpk st.1 x y p.1) m3 rfl rfl (by rw [hI_wI, if_neg (z27 hs).1, hI_wI, if_neg (s27 hs 7 (by omega)).1, hI_wI, if_neg (s27 hs 6 (by omega)).1, hI_wI, if_neg (s27 hs 5 (by omega)).1]) (by rw [hI_wI, if_neg (z27 hs).2, hI_wI, if_neg (s27 hs 7 (by omega)).2, hI_wI, if_neg (s27 hs 6 (by omega)).2, hI_wI, if_neg (s27 hs 5 (by omega)).2]) rfl (cS_spk w4 h9 xl yl c1 c2 p9)⟩
              have lt := fun hq => c_lagTo (d := d + 6) (h := hq) (k := aKi st.1 y) (x := p.1) k4 p9
              rw [lg] at lt
              have n27a : ¬ 27 = s + 5 := (s27 hs 5 (by omega)).1
              have n27b : ¬ 27 = s + 6 := (s27 hs 6 (by omega)).1
              have n27c : ¬ 27 = s + 7 := (s27 hs 7 (by omega)).1
              simp (implicitDefEqProofs := false) only [eX2_sparkLine, rX2_sparkLine_0, rX2_sparkLine_0b, rX2_sparkLine_1, rX2_sparkLine_4, rX2_sparkLine_5, rX2_sparkLine_6, rX2_sparkLine_7, rX2_sparkLine_10, rX2_sparkLine_11, rX2_sparkLine_12, rX2_sparkLine_12b, rX2_sparkLine_13, rX2_sparkLine_16, rX2_sparkLine_16b, rX2_sparkLine_17, rX2_sparkLine_20, rX2_sparkLine_21, rX2_sparkLine_22, rX2_sparkLine_23, rX2_sparkLine_26, rX2_sparkLine_27, rX2_sparkLine_28, rX2_sparkLine_29, rX2_sparkLine_30, rX2_sparkLine_33, rX2_sparkLine_33b, rX2_sparkLine_34, rX2_sparkLine_37, rX2_sparkLine_38, rX2_sparkLine_39, rX2_sparkLine_42, rX2_sparkLine_43, rX2_sparkLine_46, rX2_sparkLine_46b, rX2_sparkLine_47, rX2_sparkLine_48, rX2_sparkLine_51, rX2_sparkLine_52, rX2_sparkLine_52b, rX2_sparkLine_53, rX2_sparkLine_56, rX2_sparkLine_56b, rX2_sparkLine_57, rX2_sparkLine_59, rX2_sparkLine_62, rX2_sparkLine_65, rX2_sparkLine_65b, rX2_sparkLine_66, rX2_sparkLine_67, rX2_sparkLine_69, rX2_sparkLine_72, rX2_sparkLine_75, rX2_sparkLine_76, kS0 hs, nS hs, nSs hs, kA_27, kB_27, r21, pCX2_sparkLine, pSX2_sparkLine, pOX2_sparkLine, pLX2_sparkLine, pCX2_houseHere, pSX2_houseHere, pOX2_houseHere, pLX2_houseHere, pCX2_step, pSX2_step, pOX2_step, pLX2_step, pCX4_sparkOf, pSX4_sparkOf, pOX4_sparkOf, pLX4_sparkOf, pCX2_fail, pSX2_fail, pOX2_fail, pLX2_fail, pCX2_takeWord, pSX2_takeWord, pOX2_takeWord, pLX2_takeWord, pCX2_takeWhole, pSX2_takeWhole, pOX2_takeWhole, pLX2_takeWhole, hh, nx, a1, hh2, ny, qe', sp, qs', b1, d1, m1, show ¬ (1 : Int32) = 0 from by decide, bI_t, bI_f, kl_I, kl_J, kl_R, kl_T, kl_N, Nat.le_refl, Nat.zero_le, List.map_nil, List.map_cons, List.sum_nil, List.sum_cons, c_I, c_J, c_R, c_T, va_rf, hI_wI, hJ_wJ, hR_wR, hI_J, hI_R, hJ_I, hJ_R, hR_I, hR_J, hN_I, hN_J, hN_R, wI_I, wJ_J, upd_at, updL_at, kR_s, Option.toList, List.append_nil, List.nil_append, List.cons_append, if_true, if_false, reduceIte, Bool.false_eq_true, not_true_eq_false, not_false_eq_true, true_and, and_true, false_and, and_false, true_or, or_true,  Nat.reduceEqDiff, Nat.reduceAdd, Nat.reduceLeDiff]
              simp (implicitDefEqProofs := false) only [rX2_sparkLine_77, rX2_sparkLine_77b, rX2_sparkLine_78, rX2_sparkLine_81, rX2_sparkLine_84, rX2_sparkLine_85, rX2_sparkLine_85b, rX2_sparkLine_86, rX2_sparkLine_89, rX2_sparkLine_92, rX2_sparkLine_93, rX2_sparkLine_94, rX2_sparkLine_95, rX2_sparkLine_95b, rX2_sparkLine_96, rX2_sparkLine_99, rX2_sparkLine_102, rX2_sparkLine_103, rX2_sparkLine_104, rX2_sparkLine_105, rX2_sparkLine_105b, rX2_sparkLine_106, rX2_sparkLine_109, rX2_sparkLine_112, rX2_sparkLine_113, rX2_sparkLine_113b, rX2_sparkLine_114, rX2_sparkLine_117, rX2_sparkLine_120, rX2_sparkLine_121, rX2_sparkLine_122, rX2_sparkLine_122b, rX2_sparkLine_123, rX2_sparkLine_126, rX2_sparkLine_129, rX2_sparkLine_130, rX2_sparkLine_130b, rX2_sparkLine_131, rX2_sparkLine_134, rX2_sparkLine_135, rX2_sparkLine_136, rX2_sparkLine_137, rX2_sparkLine_140, rX2_sparkLine_141, kS0 hs, kS1 hs, kT1 hs, fS1 hs F4, kS2 hs, kT2 hs, fS2 hs F4, kS3 hs, kT3 hs, fS3 hs F4, kS4 hs, kT4 hs, fS4 hs F4, kS5 hs, kT5 hs, fS5 hs F4, kS6 hs, kT6 hs, fS6 hs F4, kS7 hs, kT7 hs, fS7 hs F4, kS8 hs, kT8 hs, fS8 hs F4, kS9 hs, kT9 hs, fS9 hs F4, kS10 hs, kT10 hs, fS10 hs F4, kS11 hs, kT11 hs, fS11 hs F4, nS hs, nSs hs, kA_27, kB_27, r4, pCX2_sparkLine, pSX2_sparkLine, pOX2_sparkLine, pLX2_sparkLine, pCX2_lagTo, pSX2_lagTo, pOX2_lagTo, pLX2_lagTo, u7, v9, cl, v6, cly, ky, m4, lt, n27a, n27b, n27c, hWa, hWb, hWc, hWd, nI_1, kl_I, kl_J, kl_R, kl_T, kl_N, Nat.le_refl, Nat.zero_le, List.map_nil, List.map_cons, List.sum_nil, List.sum_cons, c_I, c_J, c_R, c_T, va_rf, hI_wI, hJ_wJ, hR_wR, hI_J, hI_R, hJ_I, hJ_R, hR_I, hR_J, hN_I, hN_J, hN_R, wI_I, wJ_J, upd_at, updL_at, kR_s, Option.toList, List.append_nil, List.nil_append, List.cons_append, if_true, if_false, reduceIte, Bool.false_eq_true, not_true_eq_false, not_false_eq_true, true_and, and_true, false_and, and_false, true_or, or_true,  Nat.reduceEqDiff, Nat.reduceAdd, Nat.reduceLeDiff]
        · have qs' : (mI (spkN st.1 x y) = -1) = False := by rw [qs]; exact eq_false c2
          rw [if_pos (.inr c2)]
          refine ⟨fl' h1 3, fun Q => ?_, rx_trans (rx_sx a2) (rx_sx fl_sx), fl_9, fl_10.trans e6'⟩
          simp (implicitDefEqProofs := false) only [eX2_sparkLine, rX2_sparkLine_0, rX2_sparkLine_0b, rX2_sparkLine_1, rX2_sparkLine_4, rX2_sparkLine_5, rX2_sparkLine_6, rX2_sparkLine_7, rX2_sparkLine_10, rX2_sparkLine_11, rX2_sparkLine_12, rX2_sparkLine_12b, rX2_sparkLine_13, rX2_sparkLine_16, rX2_sparkLine_16b, rX2_sparkLine_17, rX2_sparkLine_20, rX2_sparkLine_21, rX2_sparkLine_22, rX2_sparkLine_23, rX2_sparkLine_26, rX2_sparkLine_27, rX2_sparkLine_28, rX2_sparkLine_29, rX2_sparkLine_30, rX2_sparkLine_33, rX2_sparkLine_33b, rX2_sparkLine_34, rX2_sparkLine_37, rX2_sparkLine_38, rX2_sparkLine_39, rX2_sparkLine_42, rX2_sparkLine_43, rX2_sparkLine_46, rX2_sparkLine_46b, rX2_sparkLine_47, rX2_sparkLine_48, rX2_sparkLine_51, rX2_sparkLine_52, rX2_sparkLine_52b, rX2_sparkLine_53, rX2_sparkLine_56, rX2_sparkLine_56b, rX2_sparkLine_57, rX2_sparkLine_59, rX2_sparkLine_62, rX2_sparkLine_65, rX2_sparkLine_65b, rX2_sparkLine_66, rX2_sparkLine_67, rX2_sparkLine_69, rX2_sparkLine_72, rX2_sparkLine_75, rX2_sparkLine_76, kS0 hs, nS hs, nSs hs, kA_27, kB_27, r21, pCX2_sparkLine, pSX2_sparkLine, pOX2_sparkLine, pLX2_sparkLine, pCX2_houseHere, pSX2_houseHere, pOX2_houseHere, pLX2_houseHere, pCX2_step, pSX2_step, pOX2_step, pLX2_step, pCX4_sparkOf, pSX4_sparkOf, pOX4_sparkOf, pLX4_sparkOf, pCX2_fail, pSX2_fail, pOX2_fail, pLX2_fail, pCX2_takeWord, pSX2_takeWord, pOX2_takeWord, pLX2_takeWord, pCX2_takeWhole, pSX2_takeWhole, pOX2_takeWhole, pLX2_takeWhole, hh, nx, a1, hh2, ny, qe', sp, qs', c_fail, kl_I, kl_J, kl_R, kl_T, kl_N, Nat.le_refl, Nat.zero_le, List.map_nil, List.map_cons, List.sum_nil, List.sum_cons, c_I, c_J, c_R, c_T, va_rf, hI_wI, hJ_wJ, hR_wR, hI_J, hI_R, hJ_I, hJ_R, hR_I, hR_J, hN_I, hN_J, hN_R, wI_I, wJ_J, upd_at, updL_at, kR_s, Option.toList, List.append_nil, List.nil_append, List.cons_append, if_true, if_false, reduceIte, Bool.false_eq_true, not_true_eq_false, not_false_eq_true, true_and, and_true, false_and, and_false, true_or, or_true,  Nat.reduceEqDiff, Nat.reduceAdd, Nat.reduceLeDiff]
