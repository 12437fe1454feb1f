/-! ===== the model: years ===== -/
set_option maxHeartbeats 1000000 in
theorem l_y3 {d : Nat} {h : qH} {s n q : Nat} {a : aS} {x : sT} {y : Int32} (k : mK h s a) (v : vF (hI h 46) a x) : ∀ (m i : Nat), i + m = aN a → ∀ (c sd : Nat) (G : Nat → Int32), c < 2 ^ i → sd < 65537 → xcF G a x.1 c i → ∃ G', xcF G' a x.1 (drL a x.1 m i c sd).1 (aN a) ∧ ∀ o6 Q, WP (d + 1) mX9_yearsAll (0, 0) 47 [some (.ref (44 : Nat)), some (.int y), some (.int (nI n)), some (.int (nI sd)), some (.int (nI q)), some (.int (nI i)), o6] [] (wI h 47 G) Q = WP (d + 1) mX9_yearsAll (0, 0) 122 [some (.ref (44 : Nat)), some (.int y), some (.int (nI n)), some (.int (nI (drL a x.1 m i c sd).2)), some (.int (nI q)), some (.int (nI (aN a))), o6] [] (wI h 47 G') Q := by
  have hs := k.2.2.1.1
  have f := k.2.2.1.2.1
  have ww := k.2.2.1.2.2.1
  have h6 := ww.1
  have F := k.1
  have e1 := k.2.2.1.2.2.2.1.2.1
  intro m
  induction m with
  | zero =>
    intro i hi c sd G hc hsd hG
    obtain rfl : i = aN a := by omega
    refine ⟨G, hG, fun o6 Q => ?_⟩
    simp (implicitDefEqProofs := false) only [rX9_yearsAll_47, rX9_yearsAll_49, rX9_yearsAll_49b, rX9_yearsAll_50, rX9_yearsAll_53, rX9_yearsAll_56, rX9_yearsAll_59, rX9_yearsAll_59b, rX9_yearsAll_60, rX9_yearsAll_63, rX9_yearsAll_65, rX9_yearsAll_66, rX9_yearsAll_68, rX9_yearsAll_71, rX9_yearsAll_74, rX9_yearsAll_77, rX9_yearsAll_78, rX9_yearsAll_79, rX9_yearsAll_80, rX9_yearsAll_83, rX9_yearsAll_84, rX9_yearsAll_87, rX9_yearsAll_88, rX9_yearsAll_89, rX9_yearsAll_90, rX9_yearsAll_91, rX9_yearsAll_93, rX9_yearsAll_94, rX9_yearsAll_94b, rX9_yearsAll_95, rX9_yearsAll_98, rX9_yearsAll_101, rX9_yearsAll_103, rX9_yearsAll_104, rX9_yearsAll_107, rX9_yearsAll_107b, rX9_yearsAll_108, rX9_yearsAll_111, rX9_yearsAll_113, rX9_yearsAll_115, kA_44, kB_44, kA_47, kB_47, kU0 hs, nU hs, k.2.1, e1, drL, pCX9_yearsAll, pSX9_yearsAll, pOX9_yearsAll, pLX9_yearsAll, Int32.le_refl, kl_I, kl_J, kl_R, kl_T, kl_N, Nat.le_refl, Nat.zero_le, List.map_nil, List.map_cons, List.sum_nil, List.sum_cons, c_I, c_J, c_R, c_T, va_rf, hI_wI, hJ_wJ, hR_wR, hI_J, hI_R, hJ_I, hJ_R, hR_I, hR_J, hN_I, hN_J, hN_R, wI_I, wJ_J, upd_at, updL_at, kR_s, Option.toList, List.append_nil, List.nil_append, List.cons_append, if_true, if_false, reduceIte, Bool.false_eq_true, not_true_eq_false, not_false_eq_true, true_and, and_true, false_and, and_false, true_or, or_true,  Nat.reduceEqDiff, Nat.reduceAdd, Nat.reduceLeDiff]
  | succ m ih =>
    intro i hi c sd G hc hsd hG
    have hlt : i < aN a := by omega
    have g1 : ¬ nI (aN a) ≤ nI i := nI_ge hlt (by omega)
    have v10 : vp_in (nI i) 10 := nI_vp (by omega) (by decide)
    have v6 : vp_in (nI i) 6 := nI_vp (by omega) (by decide)
    have cl : (nI i).toNatClampNeg = i := nI_cl (by omega)
    have vi := v.1 i hlt
    have q1 := oI_none (o := causeN a x.1 i) (fun z hz => by have := causeN_le ww hlt hz; omega)
    have e3 := (k.2.2.1.2.2.2.2.1 i hlt).2.2.1
    have k3 := (ww.2.2.1 i hlt).2.2.1
    have cb : ∀ j, i ≤ j → c.testBit j = false := fun j hj => Nat.testBit_lt_two_pow (Nat.lt_of_lt_of_le hc (Nat.pow_le_pow_right (by omega) hj))
    have c2i : c < 2 ^ (i + 1) := Nat.lt_of_lt_of_le hc (Nat.pow_le_pow_right (by omega) (by omega))
    have m1 : (nI sd).toInt64 = lN sd := nI_l (by omega)
    have rm := pk_lRem (a := 75 * sd + 74) (b := 65537) (by omega) (by omega) (by omega)
    have sl := sdN_lt sd
    have li : (lN ((75 * sd + 74) % 65537)).toInt32 = nI (sdN sd) := lN_i _
    have q2 : (nI (sdN sd % 100) < nI (aBy a i)) = (sdN sd % 100 < aBy a i) := propext (nI_ltI (by omega) (by omega))
    rw [drL]
    by_cases c1 : causeN a x.1 i = none
    · rw [if_pos c1]
      obtain ⟨G', h1, h2⟩ := ih (i + 1) (by omega) c sd G c2i hsd ⟨fun j hj => by
        rw [hG.1 j hj]
        by_cases e : j = i
        · subst e; rw [if_neg (by omega), if_pos ⟨by omega, cb j (Nat.le_refl _)⟩, c1]
        · by_cases q : j < i ∧ c.testBit j = false
          · rw [if_pos q, if_pos ⟨by omega, q.2⟩]
          · rw [if_neg q, if_neg (fun z => q ⟨by omega, z.2⟩)], hG.2⟩
      refine ⟨G', h1, fun o6 Q => ?_⟩
      have h2 := h2 o6 Q
      simp (implicitDefEqProofs := false) only [rX9_yearsAll_47, rX9_yearsAll_49, rX9_yearsAll_49b, rX9_yearsAll_50, rX9_yearsAll_53, rX9_yearsAll_56, rX9_yearsAll_59, rX9_yearsAll_59b, rX9_yearsAll_60, rX9_yearsAll_63, rX9_yearsAll_65, rX9_yearsAll_66, rX9_yearsAll_68, rX9_yearsAll_71, kA_44, kB_44, kA_46, kB_46, kA_47, kB_47, fin_44_5 F, fin_44_15 F, fin_44_16 F, fin_44_17 F, fin_44_18 F, fin_44_21 F, fin_44_23 F, fin_44_24 F, fin_44_25 F, fin_44_29 F, fin_44_33 F, kU0 hs, kU1 hs, kV1 hs, fU1 f, kU2 hs, kV2 hs, fU2 f, kU3 hs, kV3 hs, fU3 f, kU4 hs, kV4 hs, fU4 f, kU5 hs, kV5 hs, fU5 f, kU6 hs, kV6 hs, fU6 f, kU7 hs, kV7 hs, fU7 f, kU8 hs, kV8 hs, fU8 f, kU9 hs, kV9 hs, fU9 f, kU10 hs, kV10 hs, fU10 f, kU11 hs, kV11 hs, fU11 f, kU12 hs, kV12 hs, fU12 f, nU hs, nUk hs, k.2.1, e1, g1, v10, cl, vi, q1.trans (eq_true c1), pCX9_yearsAll, pSX9_yearsAll, pOX9_yearsAll, pLX9_yearsAll, kl_I, kl_J, kl_R, kl_T, kl_N, Nat.le_refl, Nat.zero_le, List.map_nil, List.map_cons, List.sum_nil, List.sum_cons, c_I, c_J, c_R, c_T, va_rf, hI_wI, hJ_wJ, hR_wR, hI_J, hI_R, hJ_I, hJ_R, hR_I, hR_J, hN_I, hN_J, hN_R, wI_I, wJ_J, upd_at, updL_at, kR_s, Option.toList, List.append_nil, List.nil_append, List.cons_append, if_true, if_false, reduceIte, Bool.false_eq_true, not_true_eq_false, not_false_eq_true, true_and, and_true, false_and, and_false, true_or, or_true,  Nat.reduceEqDiff, Nat.reduceAdd, Nat.reduceLeDiff]
      rw [rX9_yearsAll_116, nI_1]
      simp (implicitDefEqProofs := false) only [rX9_yearsAll_119, kl_I, kl_J, kl_R, kl_T, kl_N, Nat.le_refl, Nat.zero_le, List.map_nil, List.map_cons, List.sum_nil, List.sum_cons, c_I, c_J, c_R, c_T, va_rf, hI_wI, hJ_wJ, hR_wR, hI_J, hI_R, hJ_I, hJ_R, hR_I, hR_J, hN_I, hN_J, hN_R, wI_I, wJ_J, upd_at, updL_at, kR_s, Option.toList, List.append_nil, List.nil_append, List.cons_append, if_true, if_false, reduceIte, Bool.false_eq_true, not_true_eq_false, not_false_eq_true, true_and, and_true, false_and, and_false, true_or, or_true,  Nat.reduceEqDiff, Nat.reduceAdd, Nat.reduceLeDiff]
      exact h2
    · rw [if_neg c1]
      by_cases c3 : sdN sd % 100 < aBy a i
      · rw [if_pos c3]
        obtain ⟨G', h1, h2⟩ := ih (i + 1) (by omega) (c ||| 2 ^ i) (sdN sd) G (Nat.or_lt_two_pow c2i (Nat.pow_lt_pow_right (by omega) (by omega))) sl ⟨fun j hj => by
          rw [hG.1 j hj]
          by_cases e : j = i
          · subst e; rw [if_neg (by omega), if_neg (by rw [or_bit]; simp)]
          · have eb : (c ||| 2 ^ i).testBit j = c.testBit j := by rw [or_bit]; simp; omega
            rw [eb]
            by_cases q : j < i ∧ c.testBit j = false
            · rw [if_pos q, if_pos ⟨by omega, q.2⟩]
            · rw [if_neg q, if_neg (fun z => q ⟨by omega, z.2⟩)], hG.2⟩
        refine ⟨G', h1, fun o6 Q => ?_⟩
        have h2 := h2 o6 Q
        simp (implicitDefEqProofs := false) only [rX9_yearsAll_47, rX9_yearsAll_49, rX9_yearsAll_49b, rX9_yearsAll_50, rX9_yearsAll_53, rX9_yearsAll_56, rX9_yearsAll_59, rX9_yearsAll_59b, rX9_yearsAll_60, rX9_yearsAll_63, rX9_yearsAll_65, rX9_yearsAll_66, rX9_yearsAll_68, rX9_yearsAll_71, rX9_yearsAll_74, rX9_yearsAll_77, rX9_yearsAll_78, rX9_yearsAll_79, rX9_yearsAll_80, rX9_yearsAll_83, rX9_yearsAll_84, rX9_yearsAll_87, rX9_yearsAll_88, rX9_yearsAll_89, rX9_yearsAll_90, rX9_yearsAll_91, rX9_yearsAll_93, rX9_yearsAll_94, rX9_yearsAll_94b, rX9_yearsAll_95, rX9_yearsAll_98, rX9_yearsAll_101, rX9_yearsAll_103, rX9_yearsAll_104, rX9_yearsAll_107, rX9_yearsAll_107b, rX9_yearsAll_108, rX9_yearsAll_111, rX9_yearsAll_113, rX9_yearsAll_115, kA_44, kB_44, kA_46, kB_46, kA_47, kB_47, fin_44_5 F, fin_44_15 F, fin_44_16 F, fin_44_17 F, fin_44_18 F, fin_44_21 F, fin_44_23 F, fin_44_24 F, fin_44_25 F, fin_44_29 F, fin_44_33 F, kU0 hs, kU1 hs, kV1 hs, fU1 f, kU2 hs, kV2 hs, fU2 f, kU3 hs, kV3 hs, fU3 f, kU4 hs, kV4 hs, fU4 f, kU5 hs, kV5 hs, fU5 f, kU6 hs, kV6 hs, fU6 f, kU7 hs, kV7 hs, fU7 f, kU8 hs, kV8 hs, fU8 f, kU9 hs, kV9 hs, fU9 f, kU10 hs, kV10 hs, fU10 f, kU11 hs, kV11 hs, fU11 f, kU12 hs, kV12 hs, fU12 f, nU hs, nUk hs, k.2.1, e1, g1, v10, v6, cl, vi, q1, c1, show (75 : Int64) = lN 75 from rfl, show (74 : Int64) = lN 74 from rfl, show (65537 : Int64) = lN 65537 from rfl, m1, lN_mul, lN_add, show ¬ lN 65537 = 0 from by decide, rm, li, show ¬ (100 : Int32) = 0 from by decide, sd_h sl, e3, q2, c3, pCX9_yearsAll, pSX9_yearsAll, pOX9_yearsAll, pLX9_yearsAll, kl_I, kl_J, kl_R, kl_T, kl_N, Nat.le_refl, Nat.zero_le, List.map_nil, List.map_cons, List.sum_nil, List.sum_cons, c_I, c_J, c_R, c_T, va_rf, hI_wI, hJ_wJ, hR_wR, hI_J, hI_R, hJ_I, hJ_R, hR_I, hR_J, hN_I, hN_J, hN_R, wI_I, wJ_J, upd_at, updL_at, kR_s, Option.toList, List.append_nil, List.nil_append, List.cons_append, if_true, if_false, reduceIte, Bool.false_eq_true, not_true_eq_false, not_false_eq_true, true_and, and_true, false_and, and_false, true_or, or_true,  Nat.reduceEqDiff, Nat.reduceAdd, Nat.reduceLeDiff]
        rw [rX9_yearsAll_116, nI_1]
        simp (implicitDefEqProofs := false) only [rX9_yearsAll_119, kl_I, kl_J, kl_R, kl_T, kl_N, Nat.le_refl, Nat.zero_le, List.map_nil, List.map_cons, List.sum_nil, List.sum_cons, c_I, c_J, c_R, c_T, va_rf, hI_wI, hJ_wJ, hR_wR, hI_J, hI_R, hJ_I, hJ_R, hR_I, hR_J, hN_I, hN_J, hN_R, wI_I, wJ_J, upd_at, updL_at, kR_s, Option.toList, List.append_nil, List.nil_append, List.cons_append, if_true, if_false, reduceIte, Bool.false_eq_true, not_true_eq_false, not_false_eq_true, true_and, and_true, false_and, and_false, true_or, or_true,  Nat.reduceEqDiff, Nat.reduceAdd, Nat.reduceLeDiff]
        exact h2
      · rw [if_neg c3]
        obtain ⟨G', h1, h2⟩ := ih (i + 1) (by omega) c (sdN sd) (upd G i (-2)) c2i sl ⟨fun j hj => by
          rw [upd_at]
          by_cases e : j = i
          · subst e; rw [if_pos rfl, if_pos ⟨by omega, cb j (Nat.le_refl _)⟩]; rfl
          · rw [if_neg e, hG.1 j hj]
            by_cases q : j < i ∧ c.testBit j = false
            · rw [if_pos q, if_pos ⟨by omega, q.2⟩]
            · rw [if_neg q, if_neg (fun z => q ⟨by omega, z.2⟩)], by rw [upd_at, if_neg (by omega)]; exact hG.2⟩
        refine ⟨G', h1, fun o6 Q => ?_⟩
        have h2 := h2 o6 Q
        simp (implicitDefEqProofs := false) only [rX9_yearsAll_47, rX9_yearsAll_49, rX9_yearsAll_49b, rX9_yearsAll_50, rX9_yearsAll_53, rX9_yearsAll_56, rX9_yearsAll_59, rX9_yearsAll_59b, rX9_yearsAll_60, rX9_yearsAll_63, rX9_yearsAll_65, rX9_yearsAll_66, rX9_yearsAll_68, rX9_yearsAll_71, rX9_yearsAll_74, rX9_yearsAll_77, rX9_yearsAll_78, rX9_yearsAll_79, rX9_yearsAll_80, rX9_yearsAll_83, rX9_yearsAll_84, rX9_yearsAll_87, rX9_yearsAll_88, rX9_yearsAll_89, rX9_yearsAll_90, rX9_yearsAll_91, rX9_yearsAll_93, rX9_yearsAll_94, rX9_yearsAll_94b, rX9_yearsAll_95, rX9_yearsAll_98, rX9_yearsAll_101, rX9_yearsAll_103, rX9_yearsAll_104, rX9_yearsAll_107, rX9_yearsAll_107b, rX9_yearsAll_108, rX9_yearsAll_111, rX9_yearsAll_113, rX9_yearsAll_115, kA_44, kB_44, kA_46, kB_46, kA_47, kB_47, fin_44_5 F, fin_44_15 F, fin_44_16 F, fin_44_17 F, fin_44_18 F, fin_44_21 F, fin_44_23 F, fin_44_24 F, fin_44_25 F, fin_44_29 F, fin_44_33 F, kU0 hs, kU1 hs, kV1 hs, fU1 f, kU2 hs, kV2 hs, fU2 f, kU3 hs, kV3 hs, fU3 f, kU4 hs, kV4 hs, fU4 f, kU5 hs, kV5 hs, fU5 f, kU6 hs, kV6 hs, fU6 f, kU7 hs, kV7 hs, fU7 f, kU8 hs, kV8 hs, fU8 f, kU9 hs, kV9 hs, fU9 f, kU10 hs, kV10 hs, fU10 f, kU11 hs, kV11 hs, fU11 f, kU12 hs, kV12 hs, fU12 f, nU hs, nUk hs, k.2.1, e1, g1, v10, v6, cl, vi, q1, c1, show (75 : Int64) = lN 75 from rfl, show (74 : Int64) = lN 74 from rfl, show (65537 : Int64) = lN 65537 from rfl, m1, lN_mul, lN_add, show ¬ lN 65537 = 0 from by decide, rm, li, show ¬ (100 : Int32) = 0 from by decide, sd_h sl, e3, q2, c3, pCX9_yearsAll, pSX9_yearsAll, pOX9_yearsAll, pLX9_yearsAll, kl_I, kl_J, kl_R, kl_T, kl_N, Nat.le_refl, Nat.zero_le, List.map_nil, List.map_cons, List.sum_nil, List.sum_cons, c_I, c_J, c_R, c_T, va_rf, hI_wI, hJ_wJ, hR_wR, hI_J, hI_R, hJ_I, hJ_R, hR_I, hR_J, hN_I, hN_J, hN_R, wI_I, wJ_J, upd_at, updL_at, kR_s, Option.toList, List.append_nil, List.nil_append, List.cons_append, if_true, if_false, reduceIte, Bool.false_eq_true, not_true_eq_false, not_false_eq_true, true_and, and_true, false_and, and_false, true_or, or_true,  Nat.reduceEqDiff, Nat.reduceAdd, Nat.reduceLeDiff]
        rw [rX9_yearsAll_116, nI_1]
        simp (implicitDefEqProofs := false) only [rX9_yearsAll_119, kl_I, kl_J, kl_R, kl_T, kl_N, Nat.le_refl, Nat.zero_le, List.map_nil, List.map_cons, List.sum_nil, List.sum_cons, c_I, c_J, c_R, c_T, va_rf, hI_wI, hJ_wJ, hR_wR, hI_J, hI_R, hJ_I, hJ_R, hR_I, hR_J, hN_I, hN_J, hN_R, wI_I, wJ_J, upd_at, updL_at, kR_s, Option.toList, List.append_nil, List.nil_append, List.cons_append, if_true, if_false, reduceIte, Bool.false_eq_true, not_true_eq_false, not_false_eq_true, true_and, and_true, false_and, and_false, true_or, or_true,  Nat.reduceEqDiff, Nat.reduceAdd, Nat.reduceLeDiff]
        exact h2
theorem l_y4 {d : Nat} {h : qH} {s B : Nat} {a : aS} {y z2 z3 z4 : Int32} (k : mK h s a) (hB : B < 64) (O : Nat → Nat) : ∀ (m i : Nat), i + m = aN a → ∀ (G : Nat → Int32), (∀ j, j < aN a → G j = nI (O j + (if j < i ∧ B.testBit j = true then 1 else 0))) → ∃ G', (∀ j, j < aN a → G' j = nI (O j + (if B.testBit j = true then 1 else 0))) ∧ ∀ Q, WP (d + 1) mX9_yearsAll (0, 0) 158 [some (.ref (44 : Nat)), some (.int y), some (.int z2), some (.int z3), some (.int z4), some (.int (nI B)), some (.int (nI i))] [] (wI h 55 G) Q = WP (d + 1) mX9_yearsAll (0, 0) 201 [some (.ref (44 : Nat)), some (.int y), some (.int z2), some (.int z3), some (.int z4), some (.int (nI B)), some (.int (nI (aN a)))] [] (wI h 55 G') Q := by
  have hs := k.2.2.1.1
  have ww := k.2.2.1.2.2.1
  have h6 := ww.1
  have F := k.1
  have e1 := k.2.2.1.2.2.2.1.2.1
  intro m
  induction m with
  | zero =>
    intro i hi G hG
    obtain rfl : i = aN a := by omega
    refine ⟨G, fun j hj => ?_, fun Q => ?_⟩
    · rw [hG j hj]
      congr 2
      by_cases q : B.testBit j = true
      · rw [if_pos ⟨hj, q⟩, if_pos q]
      · rw [if_neg (fun z => q z.2), if_neg q]
    · simp (implicitDefEqProofs := false) only [rX9_yearsAll_158, rX9_yearsAll_160, rX9_yearsAll_160b, rX9_yearsAll_161, rX9_yearsAll_164, rX9_yearsAll_167, rX9_yearsAll_170, rX9_yearsAll_170b, rX9_yearsAll_171, rX9_yearsAll_174, rX9_yearsAll_176, rX9_yearsAll_177, rX9_yearsAll_178, rX9_yearsAll_180, rX9_yearsAll_182, rX9_yearsAll_185, rX9_yearsAll_188, rX9_yearsAll_189, rX9_yearsAll_192, rX9_yearsAll_193, rX9_yearsAll_194, kA_44, kB_44, kA_55, kB_55, kU0 hs, nU hs, k.2.1, e1, pCX9_yearsAll, pSX9_yearsAll, pOX9_yearsAll, pLX9_yearsAll, Int32.le_refl, kl_I, kl_J, kl_R, kl_T, kl_N, Nat.le_refl, Nat.zero_le, List.map_nil, List.map_cons, List.sum_nil, List.sum_cons, c_I, c_J, c_R, c_T, va_rf, hI_wI, hJ_wJ, hR_wR, hI_J, hI_R, hJ_I, hJ_R, hR_I, hR_J, hN_I, hN_J, hN_R, wI_I, wJ_J, upd_at, updL_at, kR_s, Option.toList, List.append_nil, List.nil_append, List.cons_append, if_true, if_false, reduceIte, Bool.false_eq_true, not_true_eq_false, not_false_eq_true, true_and, and_true, false_and, and_false, true_or, or_true,  Nat.reduceEqDiff, Nat.reduceAdd, Nat.reduceLeDiff]
  | succ m ih =>
    intro i hi G hG
    have hlt : i < aN a := by omega
    have g1 : ¬ nI (aN a) ≤ nI i := nI_ge hlt (by omega)
    have v6 : vp_in (nI i) 6 := nI_vp (by omega) (by decide)
    have cl : (nI i).toNatClampNeg = i := nI_cl (by omega)
    have bt := c_mbit (d := d) (h := wI h 55 G) (t := B) (j := i) (by omega) (by omega)
    have gi := hG i hlt
    rw [if_neg (by omega), Nat.add_zero] at gi
    have hG' : ∀ j, j < aN a → upd G i (nI (O i + (if B.testBit i = true then 1 else 0))) j = nI (O j + (if j < i + 1 ∧ B.testBit j = true then 1 else 0)) := fun j hj => by
      rw [upd_at]
      by_cases e : j = i
      · subst e
        rw [if_pos rfl]
        by_cases q : B.testBit j = true
        · rw [if_pos q, if_pos ⟨by omega, q⟩]
        · rw [if_neg q, if_neg (fun z => q z.2)]
      · rw [if_neg e, hG j hj]
        by_cases q : j < i ∧ B.testBit j = true
        · rw [if_pos q, if_pos ⟨by omega, q.2⟩]
        · rw [if_neg q, if_neg (fun z => q ⟨by omega, z.2⟩)]
    obtain ⟨G', h1, h2⟩ := ih (i + 1) (by omega) _ hG'
    refine ⟨G', h1, fun Q => ?_⟩
    have h2 := h2 Q
    cases hb : B.testBit i with
    | true =>
      rw [hb] at bt h2
      rw [if_pos rfl] at h2
      simp (implicitDefEqProofs := false) only [rX9_yearsAll_158, rX9_yearsAll_160, rX9_yearsAll_160b, rX9_yearsAll_161, rX9_yearsAll_164, rX9_yearsAll_167, rX9_yearsAll_170, rX9_yearsAll_170b, rX9_yearsAll_171, rX9_yearsAll_174, rX9_yearsAll_176, rX9_yearsAll_177, rX9_yearsAll_178, rX9_yearsAll_180, rX9_yearsAll_182, rX9_yearsAll_185, rX9_yearsAll_188, rX9_yearsAll_189, rX9_yearsAll_192, rX9_yearsAll_193, rX9_yearsAll_194, kA_44, kB_44, kA_55, kB_55, fin_44_5 F, fin_44_15 F, fin_44_16 F, fin_44_17 F, fin_44_18 F, fin_44_21 F, fin_44_23 F, fin_44_24 F, fin_44_25 F, fin_44_29 F, fin_44_33 F, kU0 hs, nU hs, k.2.1, e1, g1, v6, cl, gi, bt, bI_t, show ¬ (1 : Int32) = 0 from by decide, nI_1, pCX9_yearsAll, pSX9_yearsAll, pOX9_yearsAll, pLX9_yearsAll, pCX9_bit, pSX9_bit, pOX9_bit, pLX9_bit, kl_I, kl_J, kl_R, kl_T, kl_N, Nat.le_refl, Nat.zero_le, List.map_nil, List.map_cons, List.sum_nil, List.sum_cons, c_I, c_J, c_R, c_T, va_rf, hI_wI, hJ_wJ, hR_wR, hI_J, hI_R, hJ_I, hJ_R, hR_I, hR_J, hN_I, hN_J, hN_R, wI_I, wJ_J, upd_at, updL_at, kR_s, Option.toList, List.append_nil, List.nil_append, List.cons_append, if_true, if_false, reduceIte, Bool.false_eq_true, not_true_eq_false, not_false_eq_true, true_and, and_true, false_and, and_false, true_or, or_true,  Nat.reduceEqDiff, Nat.reduceAdd, Nat.reduceLeDiff]
      rw [rX9_yearsAll_195, nI_1]
      simp (implicitDefEqProofs := false) only [rX9_yearsAll_198, kl_I, kl_J, kl_R, kl_T, kl_N, Nat.le_refl, Nat.zero_le, List.map_nil, List.map_cons, List.sum_nil, List.sum_cons, c_I, c_J, c_R, c_T, va_rf, hI_wI, hJ_wJ, hR_wR, hI_J, hI_R, hJ_I, hJ_R, hR_I, hR_J, hN_I, hN_J, hN_R, wI_I, wJ_J, upd_at, updL_at, kR_s, Option.toList, List.append_nil, List.nil_append, List.cons_append, if_true, if_false, reduceIte, Bool.false_eq_true, not_true_eq_false, not_false_eq_true, true_and, and_true, false_and, and_false, true_or, or_true,  Nat.reduceEqDiff, Nat.reduceAdd, Nat.reduceLeDiff]
      exact h2
    | false =>
      rw [hb] at bt h2
      rw [if_neg (by simp)] at h2
      simp (implicitDefEqProofs := false) only [rX9_yearsAll_158, rX9_yearsAll_160, rX9_yearsAll_160b, rX9_yearsAll_161, rX9_yearsAll_164, rX9_yearsAll_167, rX9_yearsAll_170, rX9_yearsAll_170b, rX9_yearsAll_171, rX9_yearsAll_174, rX9_yearsAll_176, rX9_yearsAll_177, rX9_yearsAll_178, rX9_yearsAll_180, rX9_yearsAll_182, rX9_yearsAll_185, rX9_yearsAll_188, rX9_yearsAll_189, rX9_yearsAll_192, rX9_yearsAll_193, rX9_yearsAll_194, kA_44, kB_44, kA_55, kB_55, fin_44_5 F, fin_44_15 F, fin_44_16 F, fin_44_17 F, fin_44_18 F, fin_44_21 F, fin_44_23 F, fin_44_24 F, fin_44_25 F, fin_44_29 F, fin_44_33 F, kU0 hs, nU hs, k.2.1, e1, g1, v6, cl, gi, bt, bI_f, show (0 : Int32) = nI 0 from rfl, nI_add, pCX9_yearsAll, pSX9_yearsAll, pOX9_yearsAll, pLX9_yearsAll, pCX9_bit, pSX9_bit, pOX9_bit, pLX9_bit, kl_I, kl_J, kl_R, kl_T, kl_N, Nat.le_refl, Nat.zero_le, List.map_nil, List.map_cons, List.sum_nil, List.sum_cons, c_I, c_J, c_R, c_T, va_rf, hI_wI, hJ_wJ, hR_wR, hI_J, hI_R, hJ_I, hJ_R, hR_I, hR_J, hN_I, hN_J, hN_R, wI_I, wJ_J, upd_at, updL_at, kR_s, Option.toList, List.append_nil, List.nil_append, List.cons_append, if_true, if_false, reduceIte, Bool.false_eq_true, not_true_eq_false, not_false_eq_true, true_and, and_true, false_and, and_false, true_or, or_true,  Nat.reduceEqDiff, Nat.reduceAdd, Nat.reduceLeDiff]
      rw [rX9_yearsAll_195, nI_1]
      simp (implicitDefEqProofs := false) only [rX9_yearsAll_198, kl_I, kl_J, kl_R, kl_T, kl_N, Nat.le_refl, Nat.zero_le, List.map_nil, List.map_cons, List.sum_nil, List.sum_cons, c_I, c_J, c_R, c_T, va_rf, hI_wI, hJ_wJ, hR_wR, hI_J, hI_R, hJ_I, hJ_R, hR_I, hR_J, hN_I, hN_J, hN_R, wI_I, wJ_J, upd_at, updL_at, kR_s, Option.toList, List.append_nil, List.nil_append, List.cons_append, if_true, if_false, reduceIte, Bool.false_eq_true, not_true_eq_false, not_false_eq_true, true_and, and_true, false_and, and_false, true_or, or_true,  Nat.reduceEqDiff, Nat.reduceAdd, Nat.reduceLeDiff]
      exact h2
def YI (h : qH) (a : aS) (A : Nat → Nat) (W : Nat) : Prop := hI h 44 34 = nI W ∧ ∀ j, j < aN a → hI h 55 j = nI (A j)
set_option maxHeartbeats 1000000 in
theorem l_ym {d : Nat} {s n : Nat} {a : aS} {x : sT} {y : Int32} (hn : n ≤ 60) : ∀ (m i : Nat), i + m = n → ∀ (h : qH) (sd : Nat) (A : Nat → Nat) (W : Nat), mK h s a → vF (hI h 46) a x → YI h a A W → sd < 65537 → W ≤ 6 → ∃ h', (∀ o5 o6 Q, WP (d + 3) mX9_yearsAll (0, 0) 34 [some (.ref (44 : Nat)), some (.int y), some (.int (nI n)), some (.int (nI sd)), some (.int (nI i)), o5, o6] [] h Q = Q (some none) h') ∧ kp h h' ∧ YI h' a (fun j => yrS a x.1 (yfA j) m sd (A j)) (yrS a x.1 yfM m sd W) := by
  intro m
  induction m with
  | zero =>
    intro i hi h sd A W k v o hsd hW
    obtain rfl : i = n := by omega
    refine ⟨h, fun o5 o6 Q => ?_, kp_refl, o⟩
    simp (implicitDefEqProofs := false) only [rX9_yearsAll_34, rX9_yearsAll_36, rX9_yearsAll_37, rX9_yearsAll_40, rX9_yearsAll_40b, rX9_yearsAll_41, rX9_yearsAll_44, rX9_yearsAll_45, rX9_yearsAll_207, kA_44, kB_44, pCX9_yearsAll, pSX9_yearsAll, pOX9_yearsAll, pLX9_yearsAll, Int32.le_refl, kl_I, kl_J, kl_R, kl_T, kl_N, Nat.le_refl, Nat.zero_le, List.map_nil, List.map_cons, List.sum_nil, List.sum_cons, c_I, c_J, c_R, c_T, va_rf, hI_wI, hJ_wJ, hR_wR, hI_J, hI_R, hJ_I, hJ_R, hR_I, hR_J, hN_I, hN_J, hN_R, wI_I, wJ_J, upd_at, updL_at, kR_s, Option.toList, List.append_nil, List.nil_append, List.cons_append, if_true, if_false, reduceIte, Bool.false_eq_true, not_true_eq_false, not_false_eq_true, true_and, and_true, false_and, and_false, true_or, or_true,  Nat.reduceEqDiff, Nat.reduceAdd, Nat.reduceLeDiff]
  | succ m ih =>
    intro i hi h sd A W k v o hsd hW
    have hs := k.2.2.1.1
    have ww := k.2.2.1.2.2.1
    have h6 := ww.1
    have g1 : ¬ nI n ≤ nI i := nI_ge (by omega) (by omega)
    have vf := vF_fil (g := hI h 47) h6 v
    obtain ⟨G', xc, e3⟩ := l_y3 (d := d + 2) (n := n) (q := i) (y := y) k v (aN a) 0 (by omega) 0 sd (fil 10 (hI h 46) (hI h 47)) (by decide) hsd ⟨fun j hj => by rw [if_neg (by omega)]; exact vf.1 j hj, vf.2.1⟩
    rw [show drL a x.1 (aN a) 0 0 sd = drN a x.1 sd from rfl] at xc e3
    have dl := drN_lt (a := a) (t := x.1) hsd
    have wk := c_works (d := d + 2) k.1
    have x1 : sx [47] h (wI h 47 G') := sx_w sx_refl (by simp)
    have k1 := mK_sx k x1 (by decide)
    have v1 : vF (hI (wI h 47 G') 46) a x := by rw [hI_wI, if_neg (by decide)]; exact v
    generalize hD : drN a x.1 sd = D at xc e3 dl
    have cb := c_burnsAll (d := d) (h := wI h 47 G') (cut := cutN a x.1) (wo := none) (own := ownN a x.1 D.1) k1.1 k1.2.1 k1.2.2.1 (cutN_lt ww x.1) (fun y hy => by cases hy) (fun j hj => by rw [hI_wI, if_pos rfl, xc.1 j hj]; exact xc_own ww hj) (own_6 ww) (by rw [hI_wI, if_pos rfl]; exact xc.2) k1.2.2.2
    have at2 := at_mk (h := wI h 47 G') (cut := cutN a x.1) (wo := none) (own := ownN a x.1 D.1) ww (own_6 ww)
    have x2 : sx [50] (wI h 47 G') (wI (wI h 47 G') 50 (fil (aN a) (f9 (sprN a (cutN a x.1) none (ownN a x.1 D.1))) (hI (wI h 47 G') 50))) := sx_w sx_refl (by simp)
    generalize wI (wI h 47 G') 50 (fil (aN a) (f9 (sprN a (cutN a x.1) none (ownN a x.1 D.1))) (hI (wI h 47 G') 50)) = h2 at cb at2 x2
    have k2 := mK_sx k1 x2 (by decide)
    have F2 := k2.1
    have bb : ∀ Q, WM (d + 2) mX9_burntBy [.ref (44 : Nat), .int (nI 90)] h2 Q = Q (some (some (.int (nI (biN a x.1 D.1 90))))) h2 := c_mbb (d := d + 2) (y := 90) k2.1 k2.2.1 k2.2.2.1 at2 (by omega)
    have b64 := biN_lt ww (t := x.1) (c := D.1) (y := 90)
    have bc := fun h => c_mbits (d := d + 2) (h := h) (x := biN a x.1 D.1 90) b64
    have pl := popc_le 6 (biN a x.1 D.1 90)
    have c44 : hI h2 44 = hI h 44 := by rw [x2.2.2.2 44 (by decide), x1.2.2.2 44 (by decide)]
    have c55 : hI h2 55 = hI h 55 := by rw [x2.2.2.2 55 (by decide), x1.2.2.2 55 (by decide)]
    have r34 : hI h2 44 34 = nI W := by rw [c44]; exact o.1
    have qw : (nI (popc 6 (biN a x.1 D.1 90)) ≤ nI W) = (popc 6 (biN a x.1 D.1 90) ≤ W) := propext (nI_leI (by omega) (by omega))
    have hst : ∃ B, (B 34 = nI (yfM W (biN a x.1 D.1 90)) ∧ ∀ j, j ≠ 34 → B j = hI h2 44 j) ∧ ∀ o5 o6 Q X, WP (d + 3) mX9_yearsAll (0, 0) 158 [some (.ref (44 : Nat)), some (.int y), some (.int (nI n)), some (.int (nI D.2)), some (.int (nI i)), some (.int (nI (biN a x.1 D.1 90))), some (.int (nI 0))] [] (wI h2 44 B) Q = X → WP (d + 3) mX9_yearsAll (0, 0) 34 [some (.ref (44 : Nat)), some (.int y), some (.int (nI n)), some (.int (nI sd)), some (.int (nI i)), o5, o6] [] h Q = X := by
      by_cases cw : popc 6 (biN a x.1 D.1 90) ≤ W
      · refine ⟨hI h2 44, ⟨by rw [r34]; unfold yfM; congr 1; omega, fun _ _ => rfl⟩, fun o5 o6 Q X hX => ?_⟩
        have e3 := e3 o6 Q
        rw [wI_same] at hX
        simp (implicitDefEqProofs := false) only [rX9_yearsAll_34, rX9_yearsAll_36, rX9_yearsAll_37, rX9_yearsAll_40, rX9_yearsAll_40b, rX9_yearsAll_41, rX9_yearsAll_44, rX9_yearsAll_45, kA_44, kB_44, g1, wk, pCX9_yearsAll, pSX9_yearsAll, pOX9_yearsAll, pLX9_yearsAll, pCX9_works, pSX9_works, pOX9_works, pLX9_works, kl_I, kl_J, kl_R, kl_T, kl_N, Nat.le_refl, Nat.zero_le, List.map_nil, List.map_cons, List.sum_nil, List.sum_cons, c_I, c_J, c_R, c_T, va_rf, hI_wI, hJ_wJ, hR_wR, hI_J, hI_R, hJ_I, hJ_R, hR_I, hR_J, hN_I, hN_J, hN_R, wI_I, wJ_J, upd_at, updL_at, kR_s, Option.toList, List.append_nil, List.nil_append, List.cons_append, if_true, if_false, reduceIte, Bool.false_eq_true, not_true_eq_false, not_false_eq_true, true_and, and_true, false_and, and_false, true_or, or_true,  Nat.reduceEqDiff, Nat.reduceAdd, Nat.reduceLeDiff]
        refine e3.trans ?_
        simp (implicitDefEqProofs := false) only [rX9_yearsAll_122, rX9_yearsAll_122b, rX9_yearsAll_123, rX9_yearsAll_126, rX9_yearsAll_126b, rX9_yearsAll_127, rX9_yearsAll_129, rX9_yearsAll_132, rX9_yearsAll_134, rX9_yearsAll_136, rX9_yearsAll_139, rX9_yearsAll_139b, rX9_yearsAll_140, rX9_yearsAll_143, rX9_yearsAll_146, rX9_yearsAll_146b, rX9_yearsAll_147, rX9_yearsAll_149, rX9_yearsAll_152, rX9_yearsAll_155, rX9_yearsAll_156, kA_44, kB_44, cb, show (90 : Int32) = nI 90 from rfl, bb, bc, r34, qw, cw, pCX9_yearsAll, pSX9_yearsAll, pOX9_yearsAll, pLX9_yearsAll, pCX9_burnsAll, pSX9_burnsAll, pOX9_burnsAll, pLX9_burnsAll, pCX9_burntBy, pSX9_burntBy, pOX9_burntBy, pLX9_burntBy, pCX9_bits, pSX9_bits, pOX9_bits, pLX9_bits, kl_I, kl_J, kl_R, kl_T, kl_N, Nat.le_refl, Nat.zero_le, List.map_nil, List.map_cons, List.sum_nil, List.sum_cons, c_I, c_J, c_R, c_T, va_rf, hI_wI, hJ_wJ, hR_wR, hI_J, hI_R, hJ_I, hJ_R, hR_I, hR_J, hN_I, hN_J, hN_R, wI_I, wJ_J, upd_at, updL_at, kR_s, Option.toList, List.append_nil, List.nil_append, List.cons_append, if_true, if_false, reduceIte, Bool.false_eq_true, not_true_eq_false, not_false_eq_true, true_and, and_true, false_and, and_false, true_or, or_true,  Nat.reduceEqDiff, Nat.reduceAdd, Nat.reduceLeDiff]
        exact hX
      · refine ⟨upd (hI h2 44) 34 (nI (popc 6 (biN a x.1 D.1 90))), ⟨by rw [upd_at, if_pos rfl]; unfold yfM; congr 1; omega, fun j hj => by rw [upd_at, if_neg hj]⟩, fun o5 o6 Q X hX => ?_⟩
        have e3 := e3 o6 Q
        simp (implicitDefEqProofs := false) only [rX9_yearsAll_34, rX9_yearsAll_36, rX9_yearsAll_37, rX9_yearsAll_40, rX9_yearsAll_40b, rX9_yearsAll_41, rX9_yearsAll_44, rX9_yearsAll_45, kA_44, kB_44, g1, wk, pCX9_yearsAll, pSX9_yearsAll, pOX9_yearsAll, pLX9_yearsAll, pCX9_works, pSX9_works, pOX9_works, pLX9_works, kl_I, kl_J, kl_R, kl_T, kl_N, Nat.le_refl, Nat.zero_le, List.map_nil, List.map_cons, List.sum_nil, List.sum_cons, c_I, c_J, c_R, c_T, va_rf, hI_wI, hJ_wJ, hR_wR, hI_J, hI_R, hJ_I, hJ_R, hR_I, hR_J, hN_I, hN_J, hN_R, wI_I, wJ_J, upd_at, updL_at, kR_s, Option.toList, List.append_nil, List.nil_append, List.cons_append, if_true, if_false, reduceIte, Bool.false_eq_true, not_true_eq_false, not_false_eq_true, true_and, and_true, false_and, and_false, true_or, or_true,  Nat.reduceEqDiff, Nat.reduceAdd, Nat.reduceLeDiff]
        refine e3.trans ?_
        simp (implicitDefEqProofs := false) only [rX9_yearsAll_122, rX9_yearsAll_122b, rX9_yearsAll_123, rX9_yearsAll_126, rX9_yearsAll_126b, rX9_yearsAll_127, rX9_yearsAll_129, rX9_yearsAll_132, rX9_yearsAll_134, rX9_yearsAll_136, rX9_yearsAll_139, rX9_yearsAll_139b, rX9_yearsAll_140, rX9_yearsAll_143, rX9_yearsAll_146, rX9_yearsAll_146b, rX9_yearsAll_147, rX9_yearsAll_149, rX9_yearsAll_152, rX9_yearsAll_155, rX9_yearsAll_156, kA_44, kB_44, cb, show (90 : Int32) = nI 90 from rfl, bb, bc, r34, qw, cw, pCX9_yearsAll, pSX9_yearsAll, pOX9_yearsAll, pLX9_yearsAll, pCX9_burnsAll, pSX9_burnsAll, pOX9_burnsAll, pLX9_burnsAll, pCX9_burntBy, pSX9_burntBy, pOX9_burntBy, pLX9_burntBy, pCX9_bits, pSX9_bits, pOX9_bits, pLX9_bits, kl_I, kl_J, kl_R, kl_T, kl_N, Nat.le_refl, Nat.zero_le, List.map_nil, List.map_cons, List.sum_nil, List.sum_cons, c_I, c_J, c_R, c_T, va_rf, hI_wI, hJ_wJ, hR_wR, hI_J, hI_R, hJ_I, hJ_R, hR_I, hR_J, hN_I, hN_J, hN_R, wI_I, wJ_J, upd_at, updL_at, kR_s, Option.toList, List.append_nil, List.nil_append, List.cons_append, if_true, if_false, reduceIte, Bool.false_eq_true, not_true_eq_false, not_false_eq_true, true_and, and_true, false_and, and_false, true_or, or_true,  Nat.reduceEqDiff, Nat.reduceAdd, Nat.reduceLeDiff]
        exact hX
    obtain ⟨B, ⟨B1, B2⟩, e4⟩ := hst
    have kA : kp h2 (wI h2 44 B) := ⟨rfl, rfl, fun b hb => ⟨by rw [hI_wI, if_neg (fun q => hb (by rw [q]; simp))], rfl⟩, fun j hj => by rw [hI_wI, if_pos rfl, B2 j (fun q => by subst q; revert hj; decide)]⟩
    have k3 : mK (wI h2 44 B) s a := mK_kq k2 (kq_kp kA)
    obtain ⟨G2, hg2, e5⟩ := l_y4 (d := d + 2) (h := wI h2 44 B) (B := biN a x.1 D.1 90) (y := y) (z2 := nI n) (z3 := nI D.2) (z4 := nI i) k3 b64 A (aN a) 0 (by omega) (hI (wI h2 44 B) 55) (fun j hj => by
      rw [if_neg (by omega), Nat.add_zero, hI_wI, if_neg (by decide), c55]
      exact o.2 j hj)
    rw [wI_same] at e5
    have kB : kp (wI h2 44 B) (wI (wI h2 44 B) 55 G2) := ⟨rfl, rfl, fun b hb => ⟨by rw [hI_wI, if_neg (fun q => hb (by rw [q]; simp))], rfl⟩, fun j hj => by rw [hI_wI, if_neg (by decide)]⟩
    have k4 := mK_kq k3 (kq_kp kB)
    have v4 : vF (hI (wI (wI h2 44 B) 55 G2) 46) a x := by
      rw [hI_wI, if_neg (by decide), hI_wI, if_neg (by decide), x2.2.2.2 46 (by decide)]
      exact v1
    have o4' : YI (wI (wI h2 44 B) 55 G2) a (fun j => yfA j (A j) (biN a x.1 D.1 90)) (yfM W (biN a x.1 D.1 90)) := by
      refine ⟨?_, fun j hj => ?_⟩
      · rw [hI_wI, if_neg (by decide), hI_wI, if_pos rfl, B1]
      · rw [hI_wI, if_pos rfl, hg2 j hj]; rfl
    obtain ⟨h9, e9, k9, o9⟩ := ih (i + 1) (by omega) _ D.2 _ _ k4 v4 o4' dl.2 (by unfold yfM; omega)
    refine ⟨h9, fun o5 o6 Q => ?_, kp_tr (kp_sx x1 (by decide)) (kp_tr (kp_sx x2 (by decide)) (kp_tr kA (kp_tr kB k9))), ?_⟩
    · refine e4 o5 o6 Q _ ?_
      rw [e5 Q, rX9_yearsAll_201, nI_1]
      simp (implicitDefEqProofs := false) only [rX9_yearsAll_204, kl_I, kl_J, kl_R, kl_T, kl_N, Nat.le_refl, Nat.zero_le, List.map_nil, List.map_cons, List.sum_nil, List.sum_cons, c_I, c_J, c_R, c_T, va_rf, hI_wI, hJ_wJ, hR_wR, hI_J, hI_R, hJ_I, hJ_R, hR_I, hR_J, hN_I, hN_J, hN_R, wI_I, wJ_J, upd_at, updL_at, kR_s, Option.toList, List.append_nil, List.nil_append, List.cons_append, if_true, if_false, reduceIte, Bool.false_eq_true, not_true_eq_false, not_false_eq_true, true_and, and_true, false_and, and_false, true_or, or_true,  Nat.reduceEqDiff, Nat.reduceAdd, Nat.reduceLeDiff]
      exact e9 _ _ Q
    · rw [← hD] at o9
      exact o9
theorem l_y1 {d : Nat} {h : qH} {y z2 z3 : Int32} (F : Fin0 (hR h)) {Q : Option (Option Value) → qH → Prop} : ∀ (m i : Nat), i + m = 6 → WP d mX9_yearsAll (0, 0) 10 [some (.ref (44 : Nat)), some (.int y), some (.int z2), some (.int z3), some (.int (nI i)), none, none] [] (wI h 55 (fil i (fun _ => 0) (hI h 55))) Q = WP d mX9_yearsAll (0, 0) 31 [some (.ref (44 : Nat)), some (.int y), some (.int z2), some (.int z3), some (.int 6), none, none] [] (wI h 55 (fil 6 (fun _ => 0) (hI h 55))) Q := by
  intro m
  induction m with
  | zero =>
    intro i hi
    obtain rfl : i = 6 := by omega
    simp (implicitDefEqProofs := false) only [rX9_yearsAll_10, rX9_yearsAll_12, rX9_yearsAll_14, rX9_yearsAll_17, rX9_yearsAll_17b, rX9_yearsAll_18, rX9_yearsAll_21, rX9_yearsAll_23, rX9_yearsAll_24, show nI 6 = 6 from rfl, Int32.le_refl, pCX9_yearsAll, pSX9_yearsAll, pOX9_yearsAll, pLX9_yearsAll, kl_I, kl_J, kl_R, kl_T, kl_N, Nat.le_refl, Nat.zero_le, List.map_nil, List.map_cons, List.sum_nil, List.sum_cons, c_I, c_J, c_R, c_T, va_rf, hI_wI, hJ_wJ, hR_wR, hI_J, hI_R, hJ_I, hJ_R, hR_I, hR_J, hN_I, hN_J, hN_R, wI_I, wJ_J, upd_at, updL_at, kR_s, Option.toList, List.append_nil, List.nil_append, List.cons_append, if_true, if_false, reduceIte, Bool.false_eq_true, not_true_eq_false, not_false_eq_true, true_and, and_true, false_and, and_false, true_or, or_true,  Nat.reduceEqDiff, Nat.reduceAdd, Nat.reduceLeDiff]
  | succ m ih =>
    intro i hi
    have v6 : vp_in (nI i) 6 := nI_vp (by omega) (by decide)
    have cl : (nI i).toNatClampNeg = i := nI_cl (by omega)
    have i1 := ih (i + 1) (by omega)
    rw [← fil_s] at i1
    simp (implicitDefEqProofs := false) only [rX9_yearsAll_10, rX9_yearsAll_12, rX9_yearsAll_14, rX9_yearsAll_17, rX9_yearsAll_17b, rX9_yearsAll_18, rX9_yearsAll_21, rX9_yearsAll_23, rX9_yearsAll_24, kA_44, kB_44, kA_55, kB_55, fin_44_5 F, fin_44_15 F, fin_44_16 F, fin_44_17 F, fin_44_18 F, fin_44_21 F, fin_44_23 F, fin_44_24 F, fin_44_25 F, fin_44_29 F, fin_44_33 F, nge (x := i) (k := 6) (c := 6) rfl (by omega) (by omega), show ¬ 6 ≤ i from by omega, v6, cl, pCX9_yearsAll, pSX9_yearsAll, pOX9_yearsAll, pLX9_yearsAll, kl_I, kl_J, kl_R, kl_T, kl_N, Nat.le_refl, Nat.zero_le, List.map_nil, List.map_cons, List.sum_nil, List.sum_cons, c_I, c_J, c_R, c_T, va_rf, hI_wI, hJ_wJ, hR_wR, hI_J, hI_R, hJ_I, hJ_R, hR_I, hR_J, hN_I, hN_J, hN_R, wI_I, wJ_J, upd_at, updL_at, kR_s, Option.toList, List.append_nil, List.nil_append, List.cons_append, if_true, if_false, reduceIte, Bool.false_eq_true, not_true_eq_false, not_false_eq_true, true_and, and_true, false_and, and_false, true_or, or_true,  Nat.reduceEqDiff, Nat.reduceAdd, Nat.reduceLeDiff]
    rw [rX9_yearsAll_25, nI_1]
    simp (implicitDefEqProofs := false) only [rX9_yearsAll_28, kl_I, kl_J, kl_R, kl_T, kl_N, Nat.le_refl, Nat.zero_le, List.map_nil, List.map_cons, List.sum_nil, List.sum_cons, c_I, c_J, c_R, c_T, va_rf, hI_wI, hJ_wJ, hR_wR, hI_J, hI_R, hJ_I, hJ_R, hR_I, hR_J, hN_I, hN_J, hN_R, wI_I, wJ_J, upd_at, updL_at, kR_s, Option.toList, List.append_nil, List.nil_append, List.cons_append, if_true, if_false, reduceIte, Bool.false_eq_true, not_true_eq_false, not_false_eq_true, true_and, and_true, false_and, and_false, true_or, or_true,  Nat.reduceEqDiff, Nat.reduceAdd, Nat.reduceLeDiff]
    exact i1
theorem c_yearsAll {d : Nat} {h : qH} {s n sd : Nat} {a : aS} {x : sT} (k : mK h s a) (v : vF (hI h 46) a x) (hn : n ≤ 60) (hsd : sd < 65537) : ∃ h', (∀ Q, WM (d + 3) mX9_yearsAll [.ref (44 : Nat), .int (nI sd), .int (nI n)] h Q = Q (some none) h') ∧ kp h h' ∧ YI h' a (fun j => yrS a x.1 (yfA j) n sd 0) (yrS a x.1 yfM n sd 0) := by
  have h6 := k.2.2.1.2.2.1.1
  have kA : kp h (wI (wI h 44 (upd (hI h 44) 34 0)) 55 (fil 6 (fun _ => 0) (hI h 55))) := by
    refine ⟨rfl, rfl, fun b hb => ⟨?_, rfl⟩, fun j hj => ?_⟩
    · simp at hb
      rw [hI_wI, if_neg (by omega), hI_wI, if_neg (by omega)]
    · simp at hj
      rw [hI_wI, if_neg (by decide), hI_wI, if_pos rfl, upd_at, if_neg (by omega)]
  have k1 := mK_kq k (kq_kp kA)
  obtain ⟨h', e1, k2, f2⟩ := l_ym (d := d) (y := nI sd) (x := x) hn n 0 (by omega) _ sd (fun _ => 0) 0 k1 (by rw [hI_wI, if_neg (by decide), hI_wI, if_neg (by decide)]; exact v) (by
    refine ⟨?_, fun j hj => ?_⟩
    · rw [hI_wI, if_neg (by decide), hI_wI, if_pos rfl, upd_at, if_pos rfl]; rfl
    · rw [hI_wI, if_pos rfl, fil_at (by omega)]; rfl) hsd (by omega)
  refine ⟨h', fun Q => ?_, kp_tr kA k2, f2⟩
  have F1 : Fin0 (hR (wI h 44 (upd (hI h 44) 34 0))) := k.1
  have l := l_y1 (d := d + 3) (y := nI sd) (z2 := nI n) (z3 := nI sd) (Q := Q) F1 6 0 (by omega)
  rw [fil_0, wI_same] at l
  have h55 : hI (wI h 44 (upd (hI h 44) 34 0)) 55 = hI h 55 := by rw [hI_wI, if_neg (by decide)]
  rw [h55] at l
  have e1 := e1 none none Q
  simp (implicitDefEqProofs := false) only [eX9_yearsAll, rX9_yearsAll_2b, rX9_yearsAll_0, rX9_yearsAll_1, rX9_yearsAll_2, rX9_yearsAll_2b, rX9_yearsAll_3, rX9_yearsAll_4, rX9_yearsAll_7, rX9_yearsAll_8, kA_44, kB_44, pCX9_yearsAll, pSX9_yearsAll, pOX9_yearsAll, pLX9_yearsAll, kl_I, kl_J, kl_R, kl_T, kl_N, Nat.le_refl, Nat.zero_le, List.map_nil, List.map_cons, List.sum_nil, List.sum_cons, c_I, c_J, c_R, c_T, va_rf, hI_wI, hJ_wJ, hR_wR, hI_J, hI_R, hJ_I, hJ_R, hR_I, hR_J, hN_I, hN_J, hN_R, wI_I, wJ_J, upd_at, updL_at, kR_s, Option.toList, List.append_nil, List.nil_append, List.cons_append, if_true, if_false, reduceIte, Bool.false_eq_true, not_true_eq_false, not_false_eq_true, true_and, and_true, false_and, and_false, true_or, or_true,  Nat.reduceEqDiff, Nat.reduceAdd, Nat.reduceLeDiff]
  change WP (d + 3) mX9_yearsAll (0, 0) 10 [some (.ref (44 : Nat)), some (.int (nI sd)), some (.int (nI n)), some (.int (nI sd)), some (.int (nI 0)), none, none] [] (wI h 44 (upd (hI h 44) 34 0)) Q = _
  rw [l]
  simp (implicitDefEqProofs := false) only [rX9_yearsAll_31, rX9_yearsAll_32, kl_I, kl_J, kl_R, kl_T, kl_N, Nat.le_refl, Nat.zero_le, List.map_nil, List.map_cons, List.sum_nil, List.sum_cons, c_I, c_J, c_R, c_T, va_rf, hI_wI, hJ_wJ, hR_wR, hI_J, hI_R, hJ_I, hJ_R, hR_I, hR_J, hN_I, hN_J, hN_R, wI_I, wJ_J, upd_at, updL_at, kR_s, Option.toList, List.append_nil, List.nil_append, List.cons_append, if_true, if_false, reduceIte, Bool.false_eq_true, not_true_eq_false, not_false_eq_true, true_and, and_true, false_and, and_false, true_or, or_true,  Nat.reduceEqDiff, Nat.reduceAdd, Nat.reduceLeDiff]
  exact e1
theorem yrs_of {y z : Int32} (h : ¬ ((y < 0 ∨ 65536 < y) ∨ (z < 0 ∨ 60 < z))) : (∃ i, i ≤ 65536 ∧ y = nI i) ∧ ∃ j, j ≤ 60 ∧ z = nI j := ⟨nI_of2 (n := 65536) rfl (fun q => h (.inl (.inl q))) (Int32.not_lt.mp (fun q => h (.inl (.inr q)))), nI_of2 (n := 60) rfl (fun q => h (.inr (.inl q))) (Int32.not_lt.mp (fun q => h (.inr (.inr q))))⟩
theorem m_years {d : Nat} {h : qH} {S : AS} {u y z : Int32} (I : MI h S) : ms 0 (d + 10) mX9_years [.ref (44 : Nat), .int u, .int y, .int z] h (trS S (sYears S u y z).1) (some (.int (sYears S u y z).2)) := by
  have E : ∀ Q, WM (d + 10) mX9_years [.ref (44 : Nat), .int u, .int y, .int z] h Q = WP (d + 10) mX9_years (0, 0) 5 [some (.ref (44 : Nat)), some (.int u), some (.int y), some (.int z), none] [] (th h) Q := fun Q => by simp (implicitDefEqProofs := false) only [eX9_years, rX9_years_0, rX9_years_0b, rX9_years_1, rX9_years_2, kA_44, kB_44, pCX9_years, pSX9_years, pOX9_years, pLX9_years, th, kl_I, kl_J, kl_R, kl_T, kl_N, Nat.le_refl, Nat.zero_le, List.map_nil, List.map_cons, List.sum_nil, List.sum_cons, c_I, c_J, c_R, c_T, va_rf, hI_wI, hJ_wJ, hR_wR, hI_J, hI_R, hJ_I, hJ_R, hR_I, hR_J, hN_I, hN_J, hN_R, wI_I, wJ_J, upd_at, updL_at, kR_s, Option.toList, List.append_nil, List.nil_append, List.cons_append, if_true, if_false, reduceIte, Bool.false_eq_true, not_true_eq_false, not_false_eq_true, true_and, and_true, false_and, and_false, true_or, or_true,  Nat.reduceEqDiff, Nat.reduceAdd, Nat.reduceLeDiff]
  rw [sYears]
  by_cases c1 : aN (sA S) = 0
  · rw [c1, ix0]
    refine ms_of (v := 1) I (by decide) E ?_
    obtain ⟨F, r⟩ := MI_n (MI_th I) c1
    generalize th h = g at F r ⊢
    have rd := c_refusesYears (d := d + 8) (h := g) (b := false) (y := y) (z := z)
    rw [bI_f] at rd
    exact ⟨g, fun Q => by simp (implicitDefEqProofs := false) only [rX9_years_5, rX9_years_5b, rX9_years_6, rX9_years_6b, rX9_years_7, rX9_years_8, rX9_years_11, rX9_years_12, rX9_years_13, rX9_years_16, rX9_years_18, rX9_years_20, rX9_years_23, rX9_years_23b, rX9_years_24, rX9_years_26, rX9_years_29, kA_44, kB_44, c_isHouse0 r, rd, c_mrefused, show nI 1 = 1 from rfl, show ¬ (1 : Int32) ≤ 0 from by decide, pCX9_years, pSX9_years, pOX9_years, pLX9_years, pCX9_isHouse, pSX9_isHouse, pOX9_isHouse, pLX9_isHouse, pCX9_refusesYears, pSX9_refusesYears, pOX9_refusesYears, pLX9_refusesYears, pCX9_refused, pSX9_refused, pOX9_refused, pLX9_refused, kl_I, kl_J, kl_R, kl_T, kl_N, Nat.le_refl, Nat.zero_le, List.map_nil, List.map_cons, List.sum_nil, List.sum_cons, c_I, c_J, c_R, c_T, va_rf, hI_wI, hJ_wJ, hR_wR, hI_J, hI_R, hJ_I, hJ_R, hR_I, hR_J, hN_I, hN_J, hN_R, wI_I, wJ_J, upd_at, updL_at, kR_s, Option.toList, List.append_nil, List.nil_append, List.cons_append, if_true, if_false, reduceIte, Bool.false_eq_true, not_true_eq_false, not_false_eq_true, true_and, and_true, false_and, and_false, true_or, or_true,  Nat.reduceEqDiff, Nat.reduceAdd, Nat.reduceLeDiff], kp_refl⟩
  · have I1 := MI_th I
    obtain ⟨s, k, v, t1, t2, t3, t4, t5, ww⟩ := MI_y I1 c1
    have h6 := ww.1
    have ih := c_isHouse (d := d + 9) (y := u) k.2.1 k.2.2.1
    cases hx : ix u (aN (sA S)) with
    | none =>
      rw [hx] at ih
      refine ms_of (v := 1) I (by decide) E ?_
      generalize th h = g at k ih ⊢
      have rd := c_refusesYears (d := d + 8) (h := g) (b := false) (y := y) (z := z)
      rw [bI_f] at rd
      exact ⟨g, fun Q => by simp (implicitDefEqProofs := false) only [rX9_years_5, rX9_years_5b, rX9_years_6, rX9_years_6b, rX9_years_7, rX9_years_8, rX9_years_11, rX9_years_12, rX9_years_13, rX9_years_16, rX9_years_18, rX9_years_20, rX9_years_23, rX9_years_23b, rX9_years_24, rX9_years_26, rX9_years_29, kA_44, kB_44, ih, decide_false, bI_f, rd, c_mrefused, show nI 1 = 1 from rfl, show ¬ (1 : Int32) ≤ 0 from by decide, pCX9_years, pSX9_years, pOX9_years, pLX9_years, pCX9_isHouse, pSX9_isHouse, pOX9_isHouse, pLX9_isHouse, pCX9_refusesYears, pSX9_refusesYears, pOX9_refusesYears, pLX9_refusesYears, pCX9_refused, pSX9_refused, pOX9_refused, pLX9_refused, kl_I, kl_J, kl_R, kl_T, kl_N, Nat.le_refl, Nat.zero_le, List.map_nil, List.map_cons, List.sum_nil, List.sum_cons, c_I, c_J, c_R, c_T, va_rf, hI_wI, hJ_wJ, hR_wR, hI_J, hI_R, hJ_I, hJ_R, hR_I, hR_J, hN_I, hN_J, hN_R, wI_I, wJ_J, upd_at, updL_at, kR_s, Option.toList, List.append_nil, List.nil_append, List.cons_append, if_true, if_false, reduceIte, Bool.false_eq_true, not_true_eq_false, not_false_eq_true, true_and, and_true, false_and, and_false, true_or, or_true,  Nat.reduceEqDiff, Nat.reduceAdd, Nat.reduceLeDiff], kp_refl⟩
    | some i =>
      rw [hx] at ih
      obtain ⟨rfl, hi⟩ := ix_s (by omega) hx
      simp only
      have rd := c_refusesYears (d := d + 8) (h := th h) (b := true) (y := y) (z := z)
      rw [bI_t] at rd
      by_cases c2 : (y < 0 ∨ 65536 < y) ∨ (z < 0 ∨ 60 < z)
      · rw [if_pos c2]
        refine ms_of (v := 2) I (by decide) E ?_
        generalize th h = g at k ih rd ⊢
        exact ⟨g, fun Q => by simp (implicitDefEqProofs := false) only [rX9_years_5, rX9_years_5b, rX9_years_6, rX9_years_6b, rX9_years_7, rX9_years_8, rX9_years_11, rX9_years_12, rX9_years_13, rX9_years_16, rX9_years_18, rX9_years_20, rX9_years_23, rX9_years_23b, rX9_years_24, rX9_years_26, rX9_years_29, kA_44, kB_44, ih, reduceCtorEq, decide_true, bI_t, rd, c2, c_mrefused, show nI 2 = 2 from rfl, show ¬ (2 : Int32) ≤ 0 from by decide, Bool.true_eq_false, pCX9_years, pSX9_years, pOX9_years, pLX9_years, pCX9_isHouse, pSX9_isHouse, pOX9_isHouse, pLX9_isHouse, pCX9_refusesYears, pSX9_refusesYears, pOX9_refusesYears, pLX9_refusesYears, pCX9_refused, pSX9_refused, pOX9_refused, pLX9_refused, kl_I, kl_J, kl_R, kl_T, kl_N, Nat.le_refl, Nat.zero_le, List.map_nil, List.map_cons, List.sum_nil, List.sum_cons, c_I, c_J, c_R, c_T, va_rf, hI_wI, hJ_wJ, hR_wR, hI_J, hI_R, hJ_I, hJ_R, hR_I, hR_J, hN_I, hN_J, hN_R, wI_I, wJ_J, upd_at, updL_at, kR_s, Option.toList, List.append_nil, List.nil_append, List.cons_append, if_true, if_false, reduceIte, Bool.false_eq_true, not_true_eq_false, not_false_eq_true, true_and, and_true, false_and, and_false, true_or, or_true,  Nat.reduceEqDiff, Nat.reduceAdd, Nat.reduceLeDiff], kp_refl⟩
      · rw [if_neg c2]
        refine ms_of (v := 0) I (by decide) E ?_
        generalize th h = g at k v ih rd ⊢
        obtain ⟨⟨p, hp, rfl⟩, ⟨q, hq, rfl⟩⟩ := yrs_of c2
        rw [nI_cl (by omega), nI_cl (by omega)]
        obtain ⟨h1, e1, k1, o1⟩ := c_yearsAll (d := d + 6) (sd := p) k v hq (by omega)
        have F1 := (mK_kq k (kq_kp k1)).1
        have v6 : vp_in (nI i) 6 := nI_vp (by omega) (by decide)
        have cl : (nI i).toNatClampNeg = i := nI_cl (by omega)
        exact ⟨h1, fun Q => by simp (implicitDefEqProofs := false) only [rX9_years_5, rX9_years_5b, rX9_years_6, rX9_years_6b, rX9_years_7, rX9_years_8, rX9_years_11, rX9_years_12, rX9_years_13, rX9_years_16, rX9_years_18, rX9_years_20, rX9_years_30, rX9_years_30b, rX9_years_31, rX9_years_32, rX9_years_33, rX9_years_36, rX9_years_36b, rX9_years_37, rX9_years_37b, rX9_years_38, rX9_years_41, rX9_years_42, rX9_years_43, rX9_years_46, kA_44, kB_44, kA_55, kB_55, fin_44_5 F1, fin_44_15 F1, fin_44_16 F1, fin_44_17 F1, fin_44_18 F1, fin_44_21 F1, fin_44_23 F1, fin_44_24 F1, fin_44_25 F1, fin_44_29 F1, fin_44_33 F1, ih, reduceCtorEq, decide_true, bI_t, rd, c2, Bool.true_eq_false, show (0 : Int32) ≤ 0 from by decide, e1, v6, cl, o1.2 i hi, c_mgood, nI_0, pCX9_years, pSX9_years, pOX9_years, pLX9_years, pCX9_isHouse, pSX9_isHouse, pOX9_isHouse, pLX9_isHouse, pCX9_refusesYears, pSX9_refusesYears, pOX9_refusesYears, pLX9_refusesYears, pCX9_yearsAll, pSX9_yearsAll, pOX9_yearsAll, pLX9_yearsAll, pCX9_good, pSX9_good, pOX9_good, pLX9_good, kl_I, kl_J, kl_R, kl_T, kl_N, Nat.le_refl, Nat.zero_le, List.map_nil, List.map_cons, List.sum_nil, List.sum_cons, c_I, c_J, c_R, c_T, va_rf, hI_wI, hJ_wJ, hR_wR, hI_J, hI_R, hJ_I, hJ_R, hR_I, hR_J, hN_I, hN_J, hN_R, wI_I, wJ_J, upd_at, updL_at, kR_s, Option.toList, List.append_nil, List.nil_append, List.cons_append, if_true, if_false, reduceIte, Bool.false_eq_true, not_true_eq_false, not_false_eq_true, true_and, and_true, false_and, and_false, true_or, or_true,  Nat.reduceEqDiff, Nat.reduceAdd, Nat.reduceLeDiff], k1⟩
theorem m_worstYear {d : Nat} {h : qH} {S : AS} {y z : Int32} (I : MI h S) : ms 0 (d + 10) mX9_worstYear [.ref (44 : Nat), .int y, .int z] h (trS S (sWorst S y z).1) (some (.int (sWorst S y z).2)) := by
  have E : ∀ Q, WM (d + 10) mX9_worstYear [.ref (44 : Nat), .int y, .int z] h Q = WP (d + 10) mX9_worstYear (0, 0) 5 [some (.ref (44 : Nat)), some (.int y), some (.int z), none] [] (th h) Q := fun Q => by simp (implicitDefEqProofs := false) only [eX9_worstYear, rX9_worstYear_0, rX9_worstYear_0b, rX9_worstYear_1, rX9_worstYear_2, kA_44, kB_44, pCX9_worstYear, pSX9_worstYear, pOX9_worstYear, pLX9_worstYear, th, kl_I, kl_J, kl_R, kl_T, kl_N, Nat.le_refl, Nat.zero_le, List.map_nil, List.map_cons, List.sum_nil, List.sum_cons, c_I, c_J, c_R, c_T, va_rf, hI_wI, hJ_wJ, hR_wR, hI_J, hI_R, hJ_I, hJ_R, hR_I, hR_J, hN_I, hN_J, hN_R, wI_I, wJ_J, upd_at, updL_at, kR_s, Option.toList, List.append_nil, List.nil_append, List.cons_append, if_true, if_false, reduceIte, Bool.false_eq_true, not_true_eq_false, not_false_eq_true, true_and, and_true, false_and, and_false, true_or, or_true,  Nat.reduceEqDiff, Nat.reduceAdd, Nat.reduceLeDiff]
  rw [sWorst]
  by_cases c1 : aN (sA S) = 0
  · rw [if_pos c1]
    refine ms_of (v := 1) I (by decide) E ?_
    obtain ⟨F, r⟩ := MI_n (MI_th I) c1
    generalize th h = g at F r ⊢
    have rd := c_refusesYears (d := d + 8) (h := g) (b := false) (y := y) (z := z)
    rw [bI_f] at rd
    exact ⟨g, fun Q => by simp (implicitDefEqProofs := false) only [rX9_worstYear_5, rX9_worstYear_5b, rX9_worstYear_6, rX9_worstYear_6b, rX9_worstYear_7, rX9_worstYear_10, rX9_worstYear_10b, rX9_worstYear_13, rX9_worstYear_14, rX9_worstYear_17, rX9_worstYear_18, rX9_worstYear_19, rX9_worstYear_20, rX9_worstYear_23, rX9_worstYear_24, rX9_worstYear_25, rX9_worstYear_28, rX9_worstYear_28b, rX9_worstYear_29, rX9_worstYear_30, rX9_worstYear_33, kA_44, kB_44, r, rd, c_mrefused, show nI 1 = 1 from rfl, show ¬ (1 : Int32) ≤ 0 from by decide, pCX9_worstYear, pSX9_worstYear, pOX9_worstYear, pLX9_worstYear, pCX9_refusesYears, pSX9_refusesYears, pOX9_refusesYears, pLX9_refusesYears, pCX9_refused, pSX9_refused, pOX9_refused, pLX9_refused, kl_I, kl_J, kl_R, kl_T, kl_N, Nat.le_refl, Nat.zero_le, List.map_nil, List.map_cons, List.sum_nil, List.sum_cons, c_I, c_J, c_R, c_T, va_rf, hI_wI, hJ_wJ, hR_wR, hI_J, hI_R, hJ_I, hJ_R, hR_I, hR_J, hN_I, hN_J, hN_R, wI_I, wJ_J, upd_at, updL_at, kR_s, Option.toList, List.append_nil, List.nil_append, List.cons_append, if_true, if_false, reduceIte, Bool.false_eq_true, not_true_eq_false, not_false_eq_true, true_and, and_true, false_and, and_false, true_or, or_true,  Nat.reduceEqDiff, Nat.reduceAdd, Nat.reduceLeDiff], kp_refl⟩
  · rw [if_neg c1]
    have I1 := MI_th I
    obtain ⟨s, k, v, t1, t2, t3, t4, t5, ww⟩ := MI_y I1 c1
    have rd := c_refusesYears (d := d + 8) (h := th h) (b := true) (y := y) (z := z)
    rw [bI_t] at rd
    by_cases c2 : (y < 0 ∨ 65536 < y) ∨ (z < 0 ∨ 60 < z)
    · rw [if_pos c2]
      refine ms_of (v := 2) I (by decide) E ?_
      generalize th h = g at k v rd ⊢
      exact ⟨g, fun Q => by simp (implicitDefEqProofs := false) only [rX9_worstYear_5, rX9_worstYear_5b, rX9_worstYear_6, rX9_worstYear_6b, rX9_worstYear_7, rX9_worstYear_10, rX9_worstYear_10b, rX9_worstYear_13, rX9_worstYear_14, rX9_worstYear_17, rX9_worstYear_18, rX9_worstYear_19, rX9_worstYear_20, rX9_worstYear_23, rX9_worstYear_24, rX9_worstYear_25, rX9_worstYear_28, rX9_worstYear_28b, rX9_worstYear_29, rX9_worstYear_30, rX9_worstYear_33, kA_44, kB_44, k.2.1, rd, c2, c_mrefused, show nI 2 = 2 from rfl, show ¬ (2 : Int32) ≤ 0 from by decide, Bool.true_eq_false, pCX9_worstYear, pSX9_worstYear, pOX9_worstYear, pLX9_worstYear, pCX9_refusesYears, pSX9_refusesYears, pOX9_refusesYears, pLX9_refusesYears, pCX9_refused, pSX9_refused, pOX9_refused, pLX9_refused, kl_I, kl_J, kl_R, kl_T, kl_N, Nat.le_refl, Nat.zero_le, List.map_nil, List.map_cons, List.sum_nil, List.sum_cons, c_I, c_J, c_R, c_T, va_rf, hI_wI, hJ_wJ, hR_wR, hI_J, hI_R, hJ_I, hJ_R, hR_I, hR_J, hN_I, hN_J, hN_R, wI_I, wJ_J, upd_at, updL_at, kR_s, Option.toList, List.append_nil, List.nil_append, List.cons_append, if_true, if_false, reduceIte, Bool.false_eq_true, not_true_eq_false, not_false_eq_true, true_and, and_true, false_and, and_false, true_or, or_true,  Nat.reduceEqDiff, Nat.reduceAdd, Nat.reduceLeDiff], kp_refl⟩
    · rw [if_neg c2]
      refine ms_of (v := 0) I (by decide) E ?_
      generalize th h = g at k v rd ⊢
      obtain ⟨⟨p, hp, rfl⟩, ⟨q, hq, rfl⟩⟩ := yrs_of c2
      rw [nI_cl (by omega), nI_cl (by omega)]
      obtain ⟨h1, e1, k1, o1⟩ := c_yearsAll (d := d + 6) (sd := p) k v hq (by omega)
      exact ⟨h1, fun Q => by simp (implicitDefEqProofs := false) only [rX9_worstYear_5, rX9_worstYear_5b, rX9_worstYear_6, rX9_worstYear_6b, rX9_worstYear_7, rX9_worstYear_10, rX9_worstYear_10b, rX9_worstYear_13, rX9_worstYear_14, rX9_worstYear_17, rX9_worstYear_18, rX9_worstYear_19, rX9_worstYear_20, rX9_worstYear_23, rX9_worstYear_24, rX9_worstYear_25, rX9_worstYear_34, rX9_worstYear_34b, rX9_worstYear_35, rX9_worstYear_36, rX9_worstYear_37, rX9_worstYear_40, rX9_worstYear_40b, rX9_worstYear_41, rX9_worstYear_41b, rX9_worstYear_42, rX9_worstYear_45, rX9_worstYear_48, kA_44, kB_44, k.2.1, rd, c2, Bool.true_eq_false, show (0 : Int32) ≤ 0 from by decide, e1, o1.1, c_mgood, nI_0, pCX9_worstYear, pSX9_worstYear, pOX9_worstYear, pLX9_worstYear, pCX9_refusesYears, pSX9_refusesYears, pOX9_refusesYears, pLX9_refusesYears, pCX9_yearsAll, pSX9_yearsAll, pOX9_yearsAll, pLX9_yearsAll, pCX9_good, pSX9_good, pOX9_good, pLX9_good, kl_I, kl_J, kl_R, kl_T, kl_N, Nat.le_refl, Nat.zero_le, List.map_nil, List.map_cons, List.sum_nil, List.sum_cons, c_I, c_J, c_R, c_T, va_rf, hI_wI, hJ_wJ, hR_wR, hI_J, hI_R, hJ_I, hJ_R, hR_I, hR_J, hN_I, hN_J, hN_R, wI_I, wJ_J, upd_at, updL_at, kR_s, Option.toList, List.append_nil, List.nil_append, List.cons_append, if_true, if_false, reduceIte, Bool.false_eq_true, not_true_eq_false, not_false_eq_true, true_and, and_true, false_and, and_false, true_or, or_true,  Nat.reduceEqDiff, Nat.reduceAdd, Nat.reduceLeDiff], k1⟩
