/-! ===== the model's queries: spark, litBy, led, size ===== -/
def spR (a : aS) (x cut : Nat) : Option Nat → Nat
  | none => 1000
  | some r => if cut.testBit x = true then 1000 else lagN a r
theorem spkL_no {a : aS} {x y : Nat} : ∀ {m i : Nat}, (∀ j, i ≤ j → j < i + m → ¬ (aFm a j = x ∧ aTo a j = y)) → spkL a x y m i = none
  | 0, _, _ => rfl
  | m + 1, i, h => by
    rw [spkL, if_neg (h i (by omega) (by omega))]
    exact spkL_no (fun j h1 h2 => h j (by omega) (by omega))
theorem l_mspark {d : Nat} {h : qH} {s x y cut : Nat} {a : aS} (k : mK h s a) (hx : x < 6) (hy : y < 6) (hc : cut < 64) (e6 : hI h 47 6 = nI cut) {Q : Option (Option Value) → qH → Prop} : ∀ (m i : Nat), i + m = aSp a → WP (d + 2) mX9_spark (0, 0) 38 [some (.ref (44 : Nat)), some (.int (nI x)), some (.int (nI y)), some (.int (nI i))] [] h Q = Q (some (some (.int (oI (shN (spR a x cut (spkL a x y m i))))))) (tm h 0) := by
  have hs := k.2.2.1.1
  have f := k.2.2.1.2.1
  have ww := k.2.2.1.2.2.1
  have h6 := ww.1
  have h9 := ww.2.2.2.2.1
  have F := k.1
  have e1 := k.2.2.1.2.2.2.1.2.2.1
  intro m
  induction m with
  | zero =>
    intro i hi
    obtain rfl : i = aSp a := by omega
    simp (implicitDefEqProofs := false) only [rX9_spark_38, rX9_spark_39, rX9_spark_39b, rX9_spark_40, rX9_spark_43, rX9_spark_46, rX9_spark_49, rX9_spark_49b, rX9_spark_50, rX9_spark_53, rX9_spark_56, rX9_spark_57, rX9_spark_58, rX9_spark_59, rX9_spark_62, rX9_spark_62b, rX9_spark_63, rX9_spark_66, rX9_spark_69, rX9_spark_70, rX9_spark_71, rX9_spark_72, rX9_spark_75, rX9_spark_75b, rX9_spark_76, rX9_spark_77, rX9_spark_80, rX9_spark_83, rX9_spark_83b, rX9_spark_84, rX9_spark_84b, rX9_spark_85, rX9_spark_88, rX9_spark_89, rX9_spark_92, rX9_spark_95, rX9_spark_102, rX9_spark_102b, rX9_spark_103, rX9_spark_105, rX9_spark_108, kA_44, kB_44, kU0 hs, nU hs, k.2.1, e1, c_mgood, spkL, spR, show oI (shN 1000) = -2 from rfl, pCX9_spark, pSX9_spark, pOX9_spark, pLX9_spark, pCX9_good, pSX9_good, pOX9_good, pLX9_good, Int32.le_refl, kl_I, kl_J, kl_R, kl_T, kl_N, Nat.le_refl, Nat.zero_le, List.map_nil, List.map_cons, List.sum_nil, List.sum_cons, c_I, c_J, c_R, c_T, va_rf, hI_wI, hJ_wJ, hR_wR, hI_J, hI_R, hJ_I, hJ_R, hR_I, hR_J, hN_I, hN_J, hN_R, wI_I, wJ_J, upd_at, updL_at, kR_s, Option.toList, List.append_nil, List.nil_append, List.cons_append, if_true, if_false, reduceIte, Bool.false_eq_true, not_true_eq_false, not_false_eq_true, true_and, and_true, false_and, and_false, true_or, or_true,  Nat.reduceEqDiff, Nat.reduceAdd, Nat.reduceLeDiff]
  | succ m ih =>
    intro i hi
    have hlt : i < aSp a := by omega
    have g1 : ¬ nI (aSp a) ≤ nI i := nI_ge hlt (by omega)
    have v9 : vp_in (nI i) 9 := nI_vp (by omega) (by decide)
    have cl : (nI i).toNatClampNeg = i := nI_cl (by omega)
    obtain ⟨x1, x2, x3⟩ := k.2.2.1.2.2.2.2.2.1 i hlt
    obtain ⟨k1, k2, k3, k4⟩ := ww.2.2.2.2.2.1 i hlt
    have l1 := lag_le ww hlt
    have fl := c_flies (d := d) (i := i) (cut := cut) (wo := none) F k.2.1 k.2.2.1 hlt hc (fun x hx => by cases hx) e6 k.2.2.2
    have tk := c_takes (d := d + 1) (i := i) k.2.2.1 hlt
    have q1 : (nI (aFm a i) = nI x) = (aFm a i = x) := propext (nI_eq (by omega) (by omega))
    have q2 : (nI (aTo a i) = nI y) = (aTo a i = y) := propext (nI_eq (by omega) (by omega))
    have i1 := ih (i + 1) (by omega)
    rw [spkL]
    by_cases c1 : aFm a i = x
    · by_cases c2 : aTo a i = y
      · rw [if_pos ⟨c1, c2⟩]
        subst c1 c2
        by_cases c3 : cut.testBit (aFm a i) = false ∧ lagN a i < 1000
        · have gg : (¬ (none : Option Nat) = some i ∧ cut.testBit (aFm a i) = false ∧ lagN a i < 1000) := ⟨by simp, c3⟩
          have er : oI (shN (spR a (aFm a i) cut (some i))) = nI (n9 (lagN a i)) := by
            have e7 : ¬ 1000 ≤ lagN a i := by omega
            simp only [spR, c3.1, n9, shN, Bool.false_eq_true, if_false, e7, oI]
          rw [er]
          simp (implicitDefEqProofs := false) only [rX9_spark_38, rX9_spark_39, rX9_spark_39b, rX9_spark_40, rX9_spark_43, rX9_spark_46, rX9_spark_49, rX9_spark_49b, rX9_spark_50, rX9_spark_53, rX9_spark_56, rX9_spark_57, rX9_spark_58, rX9_spark_59, rX9_spark_62, rX9_spark_62b, rX9_spark_63, rX9_spark_66, rX9_spark_69, rX9_spark_70, rX9_spark_71, rX9_spark_72, rX9_spark_75, rX9_spark_75b, rX9_spark_76, rX9_spark_77, rX9_spark_80, rX9_spark_83, rX9_spark_83b, rX9_spark_84, rX9_spark_84b, rX9_spark_85, rX9_spark_88, rX9_spark_89, rX9_spark_92, rX9_spark_95, kA_44, kB_44, kU0 hs, kU1 hs, kV1 hs, fU1 f, kU2 hs, kV2 hs, fU2 f, kU3 hs, kV3 hs, fU3 f, kU4 hs, kV4 hs, fU4 f, kU5 hs, kV5 hs, fU5 f, kU6 hs, kV6 hs, fU6 f, kU7 hs, kV7 hs, fU7 f, kU8 hs, kV8 hs, fU8 f, kU9 hs, kV9 hs, fU9 f, kU10 hs, kV10 hs, fU10 f, kU11 hs, kV11 hs, fU11 f, kU12 hs, kV12 hs, fU12 f, nU hs, nUk hs, k.2.1, e1, g1, v9, cl, x1, x2, fl, gg, decide_true, bI_t, show ¬ (1 : Int32) = 0 from by decide, tk, c_mgood, pCX9_spark, pSX9_spark, pOX9_spark, pLX9_spark, pCX9_flies, pSX9_flies, pOX9_flies, pLX9_flies, pCX8_takes, pSX8_takes, pOX8_takes, pLX8_takes, pCX9_good, pSX9_good, pOX9_good, pLX9_good, kl_I, kl_J, kl_R, kl_T, kl_N, Nat.le_refl, Nat.zero_le, List.map_nil, List.map_cons, List.sum_nil, List.sum_cons, c_I, c_J, c_R, c_T, va_rf, hI_wI, hJ_wJ, hR_wR, hI_J, hI_R, hJ_I, hJ_R, hR_I, hR_J, hN_I, hN_J, hN_R, wI_I, wJ_J, upd_at, updL_at, kR_s, Option.toList, List.append_nil, List.nil_append, List.cons_append, if_true, if_false, reduceIte, Bool.false_eq_true, not_true_eq_false, not_false_eq_true, true_and, and_true, false_and, and_false, true_or, or_true,  Nat.reduceEqDiff, Nat.reduceAdd, Nat.reduceLeDiff]
        · have gg : ¬ (¬ (none : Option Nat) = some i ∧ cut.testBit (aFm a i) = false ∧ lagN a i < 1000) := fun q => c3 q.2
          have er : oI (shN (spR a (aFm a i) cut (some i))) = oI (shN (spR a (aFm a i) cut none)) := by
            simp only [spR]
            cases hb : cut.testBit (aFm a i) with
            | true => simp
            | false =>
              have : ¬ lagN a i < 1000 := fun q => c3 ⟨hb, q⟩
              simp only [Bool.false_eq_true, if_false, shN]
              rw [if_pos (by omega)]; simp
          rw [spkL_no (fun j h1 h2 q => by
            have := ww.2.2.2.2.2.2.1 i j hlt (by omega) q.1.symm q.2.symm
            omega)] at i1
          rw [er]
          simp (implicitDefEqProofs := false) only [rX9_spark_38, rX9_spark_39, rX9_spark_39b, rX9_spark_40, rX9_spark_43, rX9_spark_46, rX9_spark_49, rX9_spark_49b, rX9_spark_50, rX9_spark_53, rX9_spark_56, rX9_spark_57, rX9_spark_58, rX9_spark_59, rX9_spark_62, rX9_spark_62b, rX9_spark_63, rX9_spark_66, rX9_spark_69, rX9_spark_70, rX9_spark_71, rX9_spark_72, rX9_spark_75, rX9_spark_75b, rX9_spark_76, rX9_spark_77, rX9_spark_80, rX9_spark_83, rX9_spark_83b, rX9_spark_84, rX9_spark_84b, rX9_spark_85, rX9_spark_88, rX9_spark_89, rX9_spark_92, rX9_spark_95, kA_44, kB_44, kU0 hs, kU1 hs, kV1 hs, fU1 f, kU2 hs, kV2 hs, fU2 f, kU3 hs, kV3 hs, fU3 f, kU4 hs, kV4 hs, fU4 f, kU5 hs, kV5 hs, fU5 f, kU6 hs, kV6 hs, fU6 f, kU7 hs, kV7 hs, fU7 f, kU8 hs, kV8 hs, fU8 f, kU9 hs, kV9 hs, fU9 f, kU10 hs, kV10 hs, fU10 f, kU11 hs, kV11 hs, fU11 f, kU12 hs, kV12 hs, fU12 f, nU hs, nUk hs, k.2.1, e1, g1, v9, cl, x1, x2, fl, gg, decide_false, bI_f, pCX9_spark, pSX9_spark, pOX9_spark, pLX9_spark, pCX9_flies, pSX9_flies, pOX9_flies, pLX9_flies, pCX8_takes, pSX8_takes, pOX8_takes, pLX8_takes, pCX9_good, pSX9_good, pOX9_good, pLX9_good, kl_I, kl_J, kl_R, kl_T, kl_N, Nat.le_refl, Nat.zero_le, List.map_nil, List.map_cons, List.sum_nil, List.sum_cons, c_I, c_J, c_R, c_T, va_rf, hI_wI, hJ_wJ, hR_wR, hI_J, hI_R, hJ_I, hJ_R, hR_I, hR_J, hN_I, hN_J, hN_R, wI_I, wJ_J, upd_at, updL_at, kR_s, Option.toList, List.append_nil, List.nil_append, List.cons_append, if_true, if_false, reduceIte, Bool.false_eq_true, not_true_eq_false, not_false_eq_true, true_and, and_true, false_and, and_false, true_or, or_true,  Nat.reduceEqDiff, Nat.reduceAdd, Nat.reduceLeDiff]
          rw [rX9_spark_96, nI_1]
          simp (implicitDefEqProofs := false) only [rX9_spark_99, kl_I, kl_J, kl_R, kl_T, kl_N, Nat.le_refl, Nat.zero_le, List.map_nil, List.map_cons, List.sum_nil, List.sum_cons, c_I, c_J, c_R, c_T, va_rf, hI_wI, hJ_wJ, hR_wR, hI_J, hI_R, hJ_I, hJ_R, hR_I, hR_J, hN_I, hN_J, hN_R, wI_I, wJ_J, upd_at, updL_at, kR_s, Option.toList, List.append_nil, List.nil_append, List.cons_append, if_true, if_false, reduceIte, Bool.false_eq_true, not_true_eq_false, not_false_eq_true, true_and, and_true, false_and, and_false, true_or, or_true,  Nat.reduceEqDiff, Nat.reduceAdd, Nat.reduceLeDiff]
          exact i1
      · rw [if_neg (fun q => c2 q.2)]
        simp (implicitDefEqProofs := false) only [rX9_spark_38, rX9_spark_39, rX9_spark_39b, rX9_spark_40, rX9_spark_43, rX9_spark_46, rX9_spark_49, rX9_spark_49b, rX9_spark_50, rX9_spark_53, rX9_spark_56, rX9_spark_57, rX9_spark_58, rX9_spark_59, rX9_spark_62, rX9_spark_62b, rX9_spark_63, rX9_spark_66, rX9_spark_69, rX9_spark_70, rX9_spark_71, rX9_spark_72, rX9_spark_75, rX9_spark_75b, rX9_spark_76, rX9_spark_77, rX9_spark_80, rX9_spark_83, rX9_spark_83b, rX9_spark_84, rX9_spark_84b, rX9_spark_85, rX9_spark_88, rX9_spark_89, rX9_spark_92, rX9_spark_95, kA_44, kB_44, kU0 hs, kU1 hs, kV1 hs, fU1 f, kU2 hs, kV2 hs, fU2 f, kU3 hs, kV3 hs, fU3 f, kU4 hs, kV4 hs, fU4 f, kU5 hs, kV5 hs, fU5 f, kU6 hs, kV6 hs, fU6 f, kU7 hs, kV7 hs, fU7 f, kU8 hs, kV8 hs, fU8 f, kU9 hs, kV9 hs, fU9 f, kU10 hs, kV10 hs, fU10 f, kU11 hs, kV11 hs, fU11 f, kU12 hs, kV12 hs, fU12 f, nU hs, nUk hs, k.2.1, e1, g1, v9, cl, x1, x2, q1, q2, c1, c2, pCX9_spark, pSX9_spark, pOX9_spark, pLX9_spark, pCX9_flies, pSX9_flies, pOX9_flies, pLX9_flies, pCX8_takes, pSX8_takes, pOX8_takes, pLX8_takes, pCX9_good, pSX9_good, pOX9_good, pLX9_good, kl_I, kl_J, kl_R, kl_T, kl_N, Nat.le_refl, Nat.zero_le, List.map_nil, List.map_cons, List.sum_nil, List.sum_cons, c_I, c_J, c_R, c_T, va_rf, hI_wI, hJ_wJ, hR_wR, hI_J, hI_R, hJ_I, hJ_R, hR_I, hR_J, hN_I, hN_J, hN_R, wI_I, wJ_J, upd_at, updL_at, kR_s, Option.toList, List.append_nil, List.nil_append, List.cons_append, if_true, if_false, reduceIte, Bool.false_eq_true, not_true_eq_false, not_false_eq_true, true_and, and_true, false_and, and_false, true_or, or_true,  Nat.reduceEqDiff, Nat.reduceAdd, Nat.reduceLeDiff]
        rw [rX9_spark_96, nI_1]
        simp (implicitDefEqProofs := false) only [rX9_spark_99, kl_I, kl_J, kl_R, kl_T, kl_N, Nat.le_refl, Nat.zero_le, List.map_nil, List.map_cons, List.sum_nil, List.sum_cons, c_I, c_J, c_R, c_T, va_rf, hI_wI, hJ_wJ, hR_wR, hI_J, hI_R, hJ_I, hJ_R, hR_I, hR_J, hN_I, hN_J, hN_R, wI_I, wJ_J, upd_at, updL_at, kR_s, Option.toList, List.append_nil, List.nil_append, List.cons_append, if_true, if_false, reduceIte, Bool.false_eq_true, not_true_eq_false, not_false_eq_true, true_and, and_true, false_and, and_false, true_or, or_true,  Nat.reduceEqDiff, Nat.reduceAdd, Nat.reduceLeDiff]
        exact i1
    · rw [if_neg (fun q => c1 q.1)]
      simp (implicitDefEqProofs := false) only [rX9_spark_38, rX9_spark_39, rX9_spark_39b, rX9_spark_40, rX9_spark_43, rX9_spark_46, rX9_spark_49, rX9_spark_49b, rX9_spark_50, rX9_spark_53, rX9_spark_56, rX9_spark_57, rX9_spark_58, rX9_spark_59, rX9_spark_62, rX9_spark_62b, rX9_spark_63, rX9_spark_66, rX9_spark_69, rX9_spark_70, rX9_spark_71, rX9_spark_72, rX9_spark_75, rX9_spark_75b, rX9_spark_76, rX9_spark_77, rX9_spark_80, rX9_spark_83, rX9_spark_83b, rX9_spark_84, rX9_spark_84b, rX9_spark_85, rX9_spark_88, rX9_spark_89, rX9_spark_92, rX9_spark_95, kA_44, kB_44, kU0 hs, kU1 hs, kV1 hs, fU1 f, kU2 hs, kV2 hs, fU2 f, kU3 hs, kV3 hs, fU3 f, kU4 hs, kV4 hs, fU4 f, kU5 hs, kV5 hs, fU5 f, kU6 hs, kV6 hs, fU6 f, kU7 hs, kV7 hs, fU7 f, kU8 hs, kV8 hs, fU8 f, kU9 hs, kV9 hs, fU9 f, kU10 hs, kV10 hs, fU10 f, kU11 hs, kV11 hs, fU11 f, kU12 hs, kV12 hs, fU12 f, nU hs, nUk hs, k.2.1, e1, g1, v9, cl, x1, x2, q1, q2, c1, pCX9_spark, pSX9_spark, pOX9_spark, pLX9_spark, pCX9_flies, pSX9_flies, pOX9_flies, pLX9_flies, pCX8_takes, pSX8_takes, pOX8_takes, pLX8_takes, pCX9_good, pSX9_good, pOX9_good, pLX9_good, kl_I, kl_J, kl_R, kl_T, kl_N, Nat.le_refl, Nat.zero_le, List.map_nil, List.map_cons, List.sum_nil, List.sum_cons, c_I, c_J, c_R, c_T, va_rf, hI_wI, hJ_wJ, hR_wR, hI_J, hI_R, hJ_I, hJ_R, hR_I, hR_J, hN_I, hN_J, hN_R, wI_I, wJ_J, upd_at, updL_at, kR_s, Option.toList, List.append_nil, List.nil_append, List.cons_append, if_true, if_false, reduceIte, Bool.false_eq_true, not_true_eq_false, not_false_eq_true, true_and, and_true, false_and, and_false, true_or, or_true,  Nat.reduceEqDiff, Nat.reduceAdd, Nat.reduceLeDiff]
      rw [rX9_spark_96, nI_1]
      simp (implicitDefEqProofs := false) only [rX9_spark_99, kl_I, kl_J, kl_R, kl_T, kl_N, Nat.le_refl, Nat.zero_le, List.map_nil, List.map_cons, List.sum_nil, List.sum_cons, c_I, c_J, c_R, c_T, va_rf, hI_wI, hJ_wJ, hR_wR, hI_J, hI_R, hJ_I, hJ_R, hR_I, hR_J, hN_I, hN_J, hN_R, wI_I, wJ_J, upd_at, updL_at, kR_s, Option.toList, List.append_nil, List.nil_append, List.cons_append, if_true, if_false, reduceIte, Bool.false_eq_true, not_true_eq_false, not_false_eq_true, true_and, and_true, false_and, and_false, true_or, or_true,  Nat.reduceEqDiff, Nat.reduceAdd, Nat.reduceLeDiff]
      exact i1
theorem m_spark {d : Nat} {h : qH} {S : AS} {y z : Int32} (I : MI h S) : ms 0 (d + 10) mX9_spark [.ref (44 : Nat), .int y, .int z] h (trS S (sSpark S y z).1) (some (.int (sSpark S y z).2)) := by
  have E : ∀ Q, WM (d + 10) mX9_spark [.ref (44 : Nat), .int y, .int z] h Q = WP (d + 10) mX9_spark (0, 0) 5 [some (.ref (44 : Nat)), some (.int y), some (.int z), none] [] (th h) Q := fun Q => by simp (implicitDefEqProofs := false) only [eX9_spark, rX9_spark_0, rX9_spark_0b, rX9_spark_1, rX9_spark_2, kA_44, kB_44, pCX9_spark, pSX9_spark, pOX9_spark, pLX9_spark, th, kl_I, kl_J, kl_R, kl_T, kl_N, Nat.le_refl, Nat.zero_le, List.map_nil, List.map_cons, List.sum_nil, List.sum_cons, c_I, c_J, c_R, c_T, va_rf, hI_wI, hJ_wJ, hR_wR, hI_J, hI_R, hJ_I, hJ_R, hR_I, hR_J, hN_I, hN_J, hN_R, wI_I, wJ_J, upd_at, updL_at, kR_s, Option.toList, List.append_nil, List.nil_append, List.cons_append, if_true, if_false, reduceIte, Bool.false_eq_true, not_true_eq_false, not_false_eq_true, true_and, and_true, false_and, and_false, true_or, or_true,  Nat.reduceEqDiff, Nat.reduceAdd, Nat.reduceLeDiff]
  rw [sSpark]
  by_cases c1 : aN (sA S) = 0
  · rw [c1, ix0]
    refine ms_of (v := 1) I (by decide) E ?_
    obtain ⟨F, r⟩ := MI_n (MI_th I) c1
    generalize th h = g at F r ⊢
    exact ⟨g, fun Q => by simp (implicitDefEqProofs := false) only [rX9_spark_5, rX9_spark_5b, rX9_spark_6, rX9_spark_7, rX9_spark_10, rX9_spark_13, rX9_spark_13b, rX9_spark_14, rX9_spark_15, rX9_spark_18, rX9_spark_21, rX9_spark_22, rX9_spark_23, rX9_spark_26, rX9_spark_26b, rX9_spark_27, rX9_spark_28, rX9_spark_31, kA_44, kB_44, c_isHouse0 r, c_mrefused, show nI 1 = 1 from rfl, pCX9_spark, pSX9_spark, pOX9_spark, pLX9_spark, pCX9_isHouse, pSX9_isHouse, pOX9_isHouse, pLX9_isHouse, pCX9_refused, pSX9_refused, pOX9_refused, pLX9_refused, kl_I, kl_J, kl_R, kl_T, kl_N, Nat.le_refl, Nat.zero_le, List.map_nil, List.map_cons, List.sum_nil, List.sum_cons, c_I, c_J, c_R, c_T, va_rf, hI_wI, hJ_wJ, hR_wR, hI_J, hI_R, hJ_I, hJ_R, hR_I, hR_J, hN_I, hN_J, hN_R, wI_I, wJ_J, upd_at, updL_at, kR_s, Option.toList, List.append_nil, List.nil_append, List.cons_append, if_true, if_false, reduceIte, Bool.false_eq_true, not_true_eq_false, not_false_eq_true, true_and, and_true, false_and, and_false, true_or, or_true,  Nat.reduceEqDiff, Nat.reduceAdd, Nat.reduceLeDiff], kp_refl⟩
  · have I1 := MI_th I
    obtain ⟨s, k, v, t1, t2, t3, t4, t5, ww⟩ := MI_y I1 c1
    have h6 := ww.1
    have ih := c_isHouse (d := d + 9) (y := y) k.2.1 k.2.2.1
    have ih2 := c_isHouse (d := d + 9) (y := z) k.2.1 k.2.2.1
    cases hy : ix y (aN (sA S)) with
    | none =>
      rw [hy] at ih
      refine ms_of (v := 1) I (by decide) E ?_
      generalize th h = g at k ih ⊢
      exact ⟨g, fun Q => by simp (implicitDefEqProofs := false) only [rX9_spark_5, rX9_spark_5b, rX9_spark_6, rX9_spark_7, rX9_spark_10, rX9_spark_13, rX9_spark_13b, rX9_spark_14, rX9_spark_15, rX9_spark_18, rX9_spark_21, rX9_spark_22, rX9_spark_23, rX9_spark_26, rX9_spark_26b, rX9_spark_27, rX9_spark_28, rX9_spark_31, kA_44, kB_44, ih, decide_false, bI_f, c_mrefused, show nI 1 = 1 from rfl, pCX9_spark, pSX9_spark, pOX9_spark, pLX9_spark, pCX9_isHouse, pSX9_isHouse, pOX9_isHouse, pLX9_isHouse, pCX9_refused, pSX9_refused, pOX9_refused, pLX9_refused, kl_I, kl_J, kl_R, kl_T, kl_N, Nat.le_refl, Nat.zero_le, List.map_nil, List.map_cons, List.sum_nil, List.sum_cons, c_I, c_J, c_R, c_T, va_rf, hI_wI, hJ_wJ, hR_wR, hI_J, hI_R, hJ_I, hJ_R, hR_I, hR_J, hN_I, hN_J, hN_R, wI_I, wJ_J, upd_at, updL_at, kR_s, Option.toList, List.append_nil, List.nil_append, List.cons_append, if_true, if_false, reduceIte, Bool.false_eq_true, not_true_eq_false, not_false_eq_true, true_and, and_true, false_and, and_false, true_or, or_true,  Nat.reduceEqDiff, Nat.reduceAdd, Nat.reduceLeDiff], kp_refl⟩
    | some i =>
      rw [hy] at ih
      obtain ⟨rfl, hi⟩ := ix_s (by omega) hy
      cases hx : ix z (aN (sA S)) with
      | none =>
        rw [hx] at ih2
        refine ms_of (v := 1) I (by decide) E ?_
        generalize th h = g at k ih ih2 ⊢
        exact ⟨g, fun Q => by simp (implicitDefEqProofs := false) only [rX9_spark_5, rX9_spark_5b, rX9_spark_6, rX9_spark_7, rX9_spark_10, rX9_spark_13, rX9_spark_13b, rX9_spark_14, rX9_spark_15, rX9_spark_18, rX9_spark_21, rX9_spark_22, rX9_spark_23, rX9_spark_26, rX9_spark_26b, rX9_spark_27, rX9_spark_28, rX9_spark_31, kA_44, kB_44, ih, ih2, reduceCtorEq, decide_true, bI_t, show ¬ (1 : Int32) = 0 from by decide, decide_false, bI_f, c_mrefused, show nI 1 = 1 from rfl, pCX9_spark, pSX9_spark, pOX9_spark, pLX9_spark, pCX9_isHouse, pSX9_isHouse, pOX9_isHouse, pLX9_isHouse, pCX9_refused, pSX9_refused, pOX9_refused, pLX9_refused, kl_I, kl_J, kl_R, kl_T, kl_N, Nat.le_refl, Nat.zero_le, List.map_nil, List.map_cons, List.sum_nil, List.sum_cons, c_I, c_J, c_R, c_T, va_rf, hI_wI, hJ_wJ, hR_wR, hI_J, hI_R, hJ_I, hJ_R, hR_I, hR_J, hN_I, hN_J, hN_R, wI_I, wJ_J, upd_at, updL_at, kR_s, Option.toList, List.append_nil, List.nil_append, List.cons_append, if_true, if_false, reduceIte, Bool.false_eq_true, not_true_eq_false, not_false_eq_true, true_and, and_true, false_and, and_false, true_or, or_true,  Nat.reduceEqDiff, Nat.reduceAdd, Nat.reduceLeDiff], kp_refl⟩
      | some j =>
        rw [hx] at ih2
        obtain ⟨rfl, hj⟩ := ix_s (by omega) hx
        simp only
        have qe : (nI i = nI j) = (i = j) := propext (nI_eq (by omega) (by omega))
        by_cases c2 : i = j
        · rw [if_pos c2]
          refine ms_of (v := 1) I (by decide) E ?_
          generalize th h = g at k ih ih2 ⊢
          exact ⟨g, fun Q => by simp (implicitDefEqProofs := false) only [rX9_spark_5, rX9_spark_5b, rX9_spark_6, rX9_spark_7, rX9_spark_10, rX9_spark_13, rX9_spark_13b, rX9_spark_14, rX9_spark_15, rX9_spark_18, rX9_spark_21, rX9_spark_22, rX9_spark_23, rX9_spark_26, rX9_spark_26b, rX9_spark_27, rX9_spark_28, rX9_spark_31, kA_44, kB_44, ih, ih2, reduceCtorEq, decide_true, bI_t, show ¬ (1 : Int32) = 0 from by decide, qe, c2, c_mrefused, show nI 1 = 1 from rfl, pCX9_spark, pSX9_spark, pOX9_spark, pLX9_spark, pCX9_isHouse, pSX9_isHouse, pOX9_isHouse, pLX9_isHouse, pCX9_refused, pSX9_refused, pOX9_refused, pLX9_refused, kl_I, kl_J, kl_R, kl_T, kl_N, Nat.le_refl, Nat.zero_le, List.map_nil, List.map_cons, List.sum_nil, List.sum_cons, c_I, c_J, c_R, c_T, va_rf, hI_wI, hJ_wJ, hR_wR, hI_J, hI_R, hJ_I, hJ_R, hR_I, hR_J, hN_I, hN_J, hN_R, wI_I, wJ_J, upd_at, updL_at, kR_s, Option.toList, List.append_nil, List.nil_append, List.cons_append, if_true, if_false, reduceIte, Bool.false_eq_true, not_true_eq_false, not_false_eq_true, true_and, and_true, false_and, and_false, true_or, or_true,  Nat.reduceEqDiff, Nat.reduceAdd, Nat.reduceLeDiff], kp_refl⟩
        · rw [if_neg c2]
          refine ms_of (v := 0) I (by decide) E ?_
          generalize th h = g at k ih ih2 v ⊢
          have x1 : sx [47] g (wI g 47 (fil 10 (hI g 46) (hI g 47))) := sx_w sx_refl (by simp)
          have k1 := mK_sx k x1 (by decide)
          have l := fun Q => l_mspark (d := d + 8) (x := i) (y := j) (cut := cutN (sA S) (sX S).1) (Q := Q) k1 (by omega) (by omega) (cutN_lt ww _) (by rw [hI_wI, if_pos rfl, fil_at (by omega)]; exact v.2.1) (aSp (sA S)) 0 (by omega)
          have er : spR (sA S) i (cutN (sA S) (sX S).1) (spkL (sA S) i j (aSp (sA S)) 0) = lgN (sA S) i j (cutN (sA S) (sX S).1) := by
            unfold lgN spkN
            cases spkL (sA S) i j (aSp (sA S)) 0 <;> rfl
          rw [er] at l
          refine ⟨_, fun Q => ?_, kp_sx x1 (by decide)⟩
          simp (implicitDefEqProofs := false) only [rX9_spark_5, rX9_spark_5b, rX9_spark_6, rX9_spark_7, rX9_spark_10, rX9_spark_13, rX9_spark_13b, rX9_spark_14, rX9_spark_15, rX9_spark_18, rX9_spark_21, rX9_spark_22, rX9_spark_23, rX9_spark_32, rX9_spark_32b, rX9_spark_33, rX9_spark_36, rX9_spark_37, kA_44, kB_44, ih, ih2, reduceCtorEq, decide_true, bI_t, show ¬ (1 : Int32) = 0 from by decide, qe, c2, c_works (d := d + 9) k.1, pCX9_spark, pSX9_spark, pOX9_spark, pLX9_spark, pCX9_isHouse, pSX9_isHouse, pOX9_isHouse, pLX9_isHouse, pCX9_works, pSX9_works, pOX9_works, pLX9_works, kl_I, kl_J, kl_R, kl_T, kl_N, Nat.le_refl, Nat.zero_le, List.map_nil, List.map_cons, List.sum_nil, List.sum_cons, c_I, c_J, c_R, c_T, va_rf, hI_wI, hJ_wJ, hR_wR, hI_J, hI_R, hJ_I, hJ_R, hR_I, hR_J, hN_I, hN_J, hN_R, wI_I, wJ_J, upd_at, updL_at, kR_s, Option.toList, List.append_nil, List.nil_append, List.cons_append, if_true, if_false, reduceIte, Bool.false_eq_true, not_true_eq_false, not_false_eq_true, true_and, and_true, false_and, and_false, true_or, or_true,  Nat.reduceEqDiff, Nat.reduceAdd, Nat.reduceLeDiff]
          exact l Q
noncomputable def lmC (a : aS) (t x i : Nat) : Prop := aTo a i = x ∧ (cutN a t).testBit (aFm a i) = false ∧ lagN a i < 1000 ∧ dayN a t (aFm a i) + lagN a i = dayN a t x
noncomputable def lmL (a : aS) (t x : Nat) : Nat → Nat → Option Nat → Option Nat
  | 0, _, b => b
  | m + 1, i, b => haveI := Classical.propDecidable (lmC a t x i ∧ ∀ z, b = some z → aFm a i < z); if lmC a t x i ∧ ∀ z, b = some z → aFm a i < z then lmL a t x m (i + 1) (some (aFm a i)) else lmL a t x m (i + 1) b
theorem lmL_t {a : aS} {t x m i : Nat} {b : Option Nat} (h : lmC a t x i ∧ ∀ z, b = some z → aFm a i < z) : lmL a t x (m + 1) i b = lmL a t x m (i + 1) (some (aFm a i)) := by rw [lmL]; exact if_pos h
theorem lmL_f {a : aS} {t x m i : Nat} {b : Option Nat} (h : ¬ (lmC a t x i ∧ ∀ z, b = some z → aFm a i < z)) : lmL a t x (m + 1) i b = lmL a t x m (i + 1) b := by rw [lmL]; exact if_neg h
theorem lmL_spec {a : aS} {t x : Nat} : ∀ (m i : Nat) (b : Option Nat), (∀ z, b = some z → (∃ j, j < i ∧ lmC a t x j ∧ aFm a j = z) ∧ ∀ j, j < i → lmC a t x j → z ≤ aFm a j) → (b = none → ∀ j, j < i → ¬ lmC a t x j) → (∀ z, lmL a t x m i b = some z → (∃ j, j < i + m ∧ lmC a t x j ∧ aFm a j = z) ∧ ∀ j, j < i + m → lmC a t x j → z ≤ aFm a j) ∧ (lmL a t x m i b = none → ∀ j, j < i + m → ¬ lmC a t x j)
  | 0, i, b, h1, h2 => ⟨h1, h2⟩
  | m + 1, i, b, h1, h2 => by
    rw [show i + (m + 1) = i + 1 + m by omega]
    by_cases c : lmC a t x i ∧ ∀ z, b = some z → aFm a i < z
    · rw [lmL_t c]
      refine lmL_spec m (i + 1) _ (fun z hz => ?_) (fun q => by cases q)
      cases hz
      refine ⟨⟨i, by omega, c.1, rfl⟩, fun j hj hc => ?_⟩
      by_cases e : j = i
      · rw [e]; exact Nat.le_refl _
      · cases hb : b with
        | none => exact absurd hc (h2 hb j (by omega))
        | some z =>
          have := (h1 z hb).2 j (by omega) hc
          have := c.2 z hb
          omega
    · rw [lmL_f c]
      refine lmL_spec m (i + 1) _ (fun z hz => ?_) (fun q j hj hc => ?_)
      · obtain ⟨⟨j, hj, j1, j2⟩, h3⟩ := h1 z hz
        refine ⟨⟨j, by omega, j1, j2⟩, fun j hj hc => ?_⟩
        by_cases e : j = i
        · rw [e] at hc ⊢
          rcases Nat.lt_or_ge (aFm a i) z with q | q
          · exact absurd ⟨hc, fun z' hz' => by rw [hz] at hz'; cases hz'; exact q⟩ c
          · exact q
        · exact h3 j (by omega) hc
      · by_cases e : j = i
        · rw [e] at hc
          exact c ⟨hc, fun z hz => by rw [q] at hz; cases hz⟩
        · exact h2 q j (by omega) hc
theorem liC {a : aS} (w : aW a) {t x i : Nat} (hx : dayN a t x < 1000) : dayN a t i + lgN a i x (cutN a t) = dayN a t x ↔ ∃ j, j < aSp a ∧ lmC a t x j ∧ aFm a j = i := by
  unfold lgN
  cases hs : spkN a i x with
  | none =>
    constructor
    · intro q; simp only at q; omega
    · rintro ⟨j, hj, ⟨c1, -, -, -⟩, e⟩
      exfalso
      have : ∀ m i0, i0 ≤ j → j < i0 + m → spkL a i x m i0 ≠ none := by
        intro m
        induction m with
        | zero => intro i0 h1 h2; omega
        | succ m ih =>
          intro i0 h1 h2
          rw [spkL]
          by_cases c : aFm a i0 = i ∧ aTo a i0 = x
          · rw [if_pos c]; simp
          · rw [if_neg c]
            by_cases e2 : i0 = j
            · rw [e2] at c; exact absurd ⟨e, c1⟩ c
            · exact ih (i0 + 1) (by omega) (by omega)
      exact this (aSp a) 0 (by omega) (by omega) hs
  | some r =>
    obtain ⟨r1, r2, r3, r4⟩ := spkL_lt hs
    simp only
    constructor
    · intro q
      cases hb : (cutN a t).testBit i with
      | true => rw [hb, if_pos rfl] at q; omega
      | false =>
        rw [hb, if_neg (by simp)] at q
        exact ⟨r, by omega, ⟨r4, by rw [r3]; exact hb, by omega, by rw [r3]; exact q⟩, r3⟩
    · rintro ⟨j, hj, ⟨c1, c2, c3, c4⟩, e⟩
      have : r = j := w.2.2.2.2.2.2.1 r j (by omega) hj (by rw [r3, e]) (by rw [r4, c1])
      subst this
      rw [e] at c2 c4
      rw [c2, if_neg (by simp)]
      exact c4
theorem liL_some {a : aS} {t x z : Nat} : ∀ {k i : Nat}, i ≤ z → z < i + k → dayN a t z + lgN a z x (cutN a t) = dayN a t x → (∀ j, j < z → ¬ dayN a t j + lgN a j x (cutN a t) = dayN a t x) → liL a t x k i = some z
  | 0, i, h1, h2, _, _ => by omega
  | k + 1, i, h1, h2, h3, h4 => by
    rw [liL]
    by_cases e : i = z
    · rw [e, if_pos h3]
    · rw [if_neg (h4 i (by omega))]
      exact liL_some (by omega) (by omega) h3 h4
theorem liL_none {a : aS} {t x : Nat} : ∀ {k i : Nat}, (∀ j, j < i + k → ¬ dayN a t j + lgN a j x (cutN a t) = dayN a t x) → liL a t x k i = none
  | 0, _, _ => rfl
  | k + 1, i, h => by
    rw [liL, if_neg (h i (by omega))]
    exact liL_none (fun j hj => h j (by omega))
theorem lm_li {a : aS} (w : aW a) {t x : Nat} (hx : dayN a t x < 1000) : lmL a t x (aSp a) 0 none = liL a t x (aN a) 0 := by
  have sp := lmL_spec (a := a) (t := t) (x := x) (aSp a) 0 none (fun z hz => by cases hz) (fun _ j hj => by omega)
  rw [Nat.zero_add] at sp
  cases hl : lmL a t x (aSp a) 0 none with
  | none =>
    symm
    refine liL_none (fun j _ q => ?_)
    obtain ⟨r, r1, r2, -⟩ := (liC w hx).mp q
    exact sp.2 hl r r1 r2
  | some z =>
    obtain ⟨⟨r, r1, r2, r3⟩, h2⟩ := sp.1 z hl
    symm
    refine liL_some (by omega) ?_ ((liC w hx).mpr ⟨r, r1, r2, r3⟩) (fun j hj q => ?_)
    · have := (w.2.2.2.2.2.1 r r1).1; omega
    · obtain ⟨r', q1, q2, q3⟩ := (liC w hx).mp q
      have := h2 r' q1 q2
      omega
set_option maxHeartbeats 1000000 in
theorem l_mlit {d : Nat} {h : qH} {s t x : Nat} {a : aS} (k : mK h s a) (at0 : atR h a (dayN a t)) (hx : x < aN a) (hd : dayN a t x < 1000) (e6 : hI h 47 6 = nI (cutN a t)) {Q : Option (Option Value) → qH → Prop} : ∀ (m i : Nat), i + m = aSp a → ∀ (b : Option Nat) (_ : ∀ z, b = some z → z < 6), WP (d + 2) mX9_litBy (0, 0) 62 [some (.ref (44 : Nat)), some (.int (nI x)), some (.int (oI b)), some (.int (nI i))] [] h Q = Q (some (some (.int (oI (lmL a t x m i b))))) (tm h 0) := by
  have hs := k.2.2.1.1
  have f := k.2.2.1.2.1
  have ww := k.2.2.1.2.2.1
  have h6 := ww.1
  have h9 := ww.2.2.2.2.1
  have F := k.1
  have e1 := k.2.2.1.2.2.2.1.2.2.1
  have ax := at0.1 x hx
  rw [show n9 (dayN a t x) = dayN a t x from if_neg (by omega)] at ax
  have vx6 : vp_in (nI x) 6 := nI_vp (by omega) (by decide)
  have clx : (nI x).toNatClampNeg = x := nI_cl (by omega)
  intro m
  induction m with
  | zero =>
    intro i hi b hb
    obtain rfl : i = aSp a := by omega
    simp (implicitDefEqProofs := false) only [rX9_litBy_62, rX9_litBy_63, rX9_litBy_63b, rX9_litBy_64, rX9_litBy_67, rX9_litBy_70, rX9_litBy_73, rX9_litBy_73b, rX9_litBy_74, rX9_litBy_77, rX9_litBy_80, rX9_litBy_81, rX9_litBy_82, rX9_litBy_83, rX9_litBy_86, rX9_litBy_86b, rX9_litBy_87, rX9_litBy_88, rX9_litBy_91, rX9_litBy_94, rX9_litBy_94b, rX9_litBy_95, rX9_litBy_98, rX9_litBy_98b, rX9_litBy_99, rX9_litBy_102, rX9_litBy_105, rX9_litBy_106, rX9_litBy_107, rX9_litBy_108, rX9_litBy_108b, rX9_litBy_109, rX9_litBy_112, rX9_litBy_113, rX9_litBy_116, rX9_litBy_117, rX9_litBy_117b, rX9_litBy_118, rX9_litBy_121, rX9_litBy_122, rX9_litBy_123, rX9_litBy_126, rX9_litBy_129, rX9_litBy_130, rX9_litBy_132, rX9_litBy_135, rX9_litBy_135b, rX9_litBy_136, rX9_litBy_139, rX9_litBy_142, rX9_litBy_143, rX9_litBy_144, rX9_litBy_145, rX9_litBy_148, rX9_litBy_148b, rX9_litBy_149, rX9_litBy_152, rX9_litBy_155, rX9_litBy_156, rX9_litBy_157, rX9_litBy_164, rX9_litBy_164b, rX9_litBy_165, rX9_litBy_166, rX9_litBy_169, kA_44, kB_44, kA_50, kB_50, kU0 hs, nU hs, k.2.1, e1, c_mgood, lmL, pCX9_litBy, pSX9_litBy, pOX9_litBy, pLX9_litBy, pCX9_good, pSX9_good, pOX9_good, pLX9_good, Int32.le_refl, kl_I, kl_J, kl_R, kl_T, kl_N, Nat.le_refl, Nat.zero_le, List.map_nil, List.map_cons, List.sum_nil, List.sum_cons, c_I, c_J, c_R, c_T, va_rf, hI_wI, hJ_wJ, hR_wR, hI_J, hI_R, hJ_I, hJ_R, hR_I, hR_J, hN_I, hN_J, hN_R, wI_I, wJ_J, upd_at, updL_at, kR_s, Option.toList, List.append_nil, List.nil_append, List.cons_append, if_true, if_false, reduceIte, Bool.false_eq_true, not_true_eq_false, not_false_eq_true, true_and, and_true, false_and, and_false, true_or, or_true,  Nat.reduceEqDiff, Nat.reduceAdd, Nat.reduceLeDiff]
  | succ m ih =>
    intro i hi b hb
    have hlt : i < aSp a := by omega
    have g1 : ¬ nI (aSp a) ≤ nI i := nI_ge hlt (by omega)
    have v9 : vp_in (nI i) 9 := nI_vp (by omega) (by decide)
    have cl : (nI i).toNatClampNeg = i := nI_cl (by omega)
    obtain ⟨x1, x2, x3⟩ := k.2.2.1.2.2.2.2.2.1 i hlt
    obtain ⟨k1, k2, k3, k4⟩ := ww.2.2.2.2.2.1 i hlt
    have l1 := lag_le ww hlt
    have u1 : vp_in (nI (aFm a i)) 6 := nI_vp (by omega) (by decide)
    have c1 : (nI (aFm a i)).toNatClampNeg = aFm a i := nI_cl (by omega)
    have af := at0.1 (aFm a i) k1
    have ab := at0.2.1 (aFm a i)
    have z1 := n9_b ab
    have z2 := n9_b l1
    have fl := c_flies (d := d) (i := i) (cut := cutN a t) (wo := none) F k.2.1 k.2.2.1 hlt (cutN_lt ww t) (fun x hx => by cases hx) e6 k.2.2.2
    have tk := c_takes (d := d + 1) (i := i) k.2.2.1 hlt
    have q2 : (nI (aTo a i) = nI x) = (aTo a i = x) := propext (nI_eq (by omega) (by omega))
    have q3 : (nI (n9 (dayN a t (aFm a i)) + n9 (lagN a i)) = nI (dayN a t x)) = (n9 (dayN a t (aFm a i)) + n9 (lagN a i) = dayN a t x) := propext (nI_eq (by omega) (by omega))
    by_cases d2 : aTo a i = x
    · by_cases d3 : (cutN a t).testBit (aFm a i) = false ∧ lagN a i < 1000
      · have gg : (¬ (none : Option Nat) = some i ∧ (cutN a t).testBit (aFm a i) = false ∧ lagN a i < 1000) := ⟨by simp, d3⟩
        have e4 : n9 (lagN a i) = lagN a i := if_neg (by omega)
        by_cases d4 : dayN a t (aFm a i) + lagN a i = dayN a t x
        · have lc : lmC a t x i := ⟨d2, d3.1, d3.2, d4⟩
          have e5 : n9 (dayN a t (aFm a i)) = dayN a t (aFm a i) := if_neg (by omega)
          have d5 : n9 (dayN a t (aFm a i)) + n9 (lagN a i) = dayN a t x := by rw [e4, e5]; exact d4
          have sm : ¬ lmC a t x i ∨ True := .inr trivial
          cases b with
          | none =>
            rw [lmL_t ⟨lc, fun z hz => by cases hz⟩]
            simp (implicitDefEqProofs := false) only [rX9_litBy_62, rX9_litBy_63, rX9_litBy_63b, rX9_litBy_64, rX9_litBy_67, rX9_litBy_70, rX9_litBy_73, rX9_litBy_73b, rX9_litBy_74, rX9_litBy_77, rX9_litBy_80, rX9_litBy_81, rX9_litBy_82, rX9_litBy_83, rX9_litBy_86, rX9_litBy_86b, rX9_litBy_87, rX9_litBy_88, rX9_litBy_91, rX9_litBy_94, rX9_litBy_94b, rX9_litBy_95, rX9_litBy_98, rX9_litBy_98b, rX9_litBy_99, rX9_litBy_102, rX9_litBy_105, rX9_litBy_106, rX9_litBy_107, rX9_litBy_108, rX9_litBy_108b, rX9_litBy_109, rX9_litBy_112, rX9_litBy_113, rX9_litBy_116, rX9_litBy_117, rX9_litBy_117b, rX9_litBy_118, rX9_litBy_121, rX9_litBy_122, rX9_litBy_123, rX9_litBy_126, rX9_litBy_129, rX9_litBy_130, rX9_litBy_132, rX9_litBy_135, rX9_litBy_135b, rX9_litBy_136, rX9_litBy_139, rX9_litBy_142, rX9_litBy_143, rX9_litBy_144, rX9_litBy_145, rX9_litBy_148, rX9_litBy_148b, rX9_litBy_149, rX9_litBy_152, rX9_litBy_155, rX9_litBy_156, rX9_litBy_157, kA_44, kB_44, kA_50, kB_50, fin_44_5 F, fin_44_15 F, fin_44_16 F, fin_44_17 F, fin_44_18 F, fin_44_21 F, fin_44_23 F, fin_44_24 F, fin_44_25 F, fin_44_29 F, fin_44_33 F, kU0 hs, kU1 hs, kV1 hs, fU1 f, kU2 hs, kV2 hs, fU2 f, kU3 hs, kV3 hs, fU3 f, kU4 hs, kV4 hs, fU4 f, kU5 hs, kV5 hs, fU5 f, kU6 hs, kV6 hs, fU6 f, kU7 hs, kV7 hs, fU7 f, kU8 hs, kV8 hs, fU8 f, kU9 hs, kV9 hs, fU9 f, kU10 hs, kV10 hs, fU10 f, kU11 hs, kV11 hs, fU11 f, kU12 hs, kV12 hs, fU12 f, nU hs, nUk hs, k.2.1, e1, g1, v9, cl, x1, x2, q2, d2, fl, gg, decide_true, bI_t, show ¬ (1 : Int32) = 0 from by decide, u1, c1, af, tk, nI_add, vx6, clx, ax, q3, d5, oI_no, pCX9_litBy, pSX9_litBy, pOX9_litBy, pLX9_litBy, pCX9_flies, pSX9_flies, pOX9_flies, pLX9_flies, pCX8_takes, pSX8_takes, pOX8_takes, pLX8_takes, kl_I, kl_J, kl_R, kl_T, kl_N, Nat.le_refl, Nat.zero_le, List.map_nil, List.map_cons, List.sum_nil, List.sum_cons, c_I, c_J, c_R, c_T, va_rf, hI_wI, hJ_wJ, hR_wR, hI_J, hI_R, hJ_I, hJ_R, hR_I, hR_J, hN_I, hN_J, hN_R, wI_I, wJ_J, upd_at, updL_at, kR_s, Option.toList, List.append_nil, List.nil_append, List.cons_append, if_true, if_false, reduceIte, Bool.false_eq_true, not_true_eq_false, not_false_eq_true, true_and, and_true, false_and, and_false, true_or, or_true,  Nat.reduceEqDiff, Nat.reduceAdd, Nat.reduceLeDiff]
            rw [rX9_litBy_158, nI_1]
            simp (implicitDefEqProofs := false) only [rX9_litBy_161, kl_I, kl_J, kl_R, kl_T, kl_N, Nat.le_refl, Nat.zero_le, List.map_nil, List.map_cons, List.sum_nil, List.sum_cons, c_I, c_J, c_R, c_T, va_rf, hI_wI, hJ_wJ, hR_wR, hI_J, hI_R, hJ_I, hJ_R, hR_I, hR_J, hN_I, hN_J, hN_R, wI_I, wJ_J, upd_at, updL_at, kR_s, Option.toList, List.append_nil, List.nil_append, List.cons_append, if_true, if_false, reduceIte, Bool.false_eq_true, not_true_eq_false, not_false_eq_true, true_and, and_true, false_and, and_false, true_or, or_true,  Nat.reduceEqDiff, Nat.reduceAdd, Nat.reduceLeDiff]
            exact ih (i + 1) (by omega) (some (aFm a i)) (fun z hz => by cases hz; omega)
          | some z =>
            have hz := hb z rfl
            have nn := nN (x := z) (k := 0) (by omega)
            have q4 : (nI z ≤ nI (aFm a i)) = (z ≤ aFm a i) := propext (nI_leI (by omega) (by omega))
            by_cases d6 : z ≤ aFm a i
            · rw [lmL_f (fun q => by have := q.2 z rfl; omega)]
              simp (implicitDefEqProofs := false) only [rX9_litBy_62, rX9_litBy_63, rX9_litBy_63b, rX9_litBy_64, rX9_litBy_67, rX9_litBy_70, rX9_litBy_73, rX9_litBy_73b, rX9_litBy_74, rX9_litBy_77, rX9_litBy_80, rX9_litBy_81, rX9_litBy_82, rX9_litBy_83, rX9_litBy_86, rX9_litBy_86b, rX9_litBy_87, rX9_litBy_88, rX9_litBy_91, rX9_litBy_94, rX9_litBy_94b, rX9_litBy_95, rX9_litBy_98, rX9_litBy_98b, rX9_litBy_99, rX9_litBy_102, rX9_litBy_105, rX9_litBy_106, rX9_litBy_107, rX9_litBy_108, rX9_litBy_108b, rX9_litBy_109, rX9_litBy_112, rX9_litBy_113, rX9_litBy_116, rX9_litBy_117, rX9_litBy_117b, rX9_litBy_118, rX9_litBy_121, rX9_litBy_122, rX9_litBy_123, rX9_litBy_126, rX9_litBy_129, rX9_litBy_130, rX9_litBy_132, rX9_litBy_135, rX9_litBy_135b, rX9_litBy_136, rX9_litBy_139, rX9_litBy_142, rX9_litBy_143, rX9_litBy_144, rX9_litBy_145, rX9_litBy_148, rX9_litBy_148b, rX9_litBy_149, rX9_litBy_152, rX9_litBy_155, rX9_litBy_156, rX9_litBy_157, kA_44, kB_44, kA_50, kB_50, fin_44_5 F, fin_44_15 F, fin_44_16 F, fin_44_17 F, fin_44_18 F, fin_44_21 F, fin_44_23 F, fin_44_24 F, fin_44_25 F, fin_44_29 F, fin_44_33 F, kU0 hs, kU1 hs, kV1 hs, fU1 f, kU2 hs, kV2 hs, fU2 f, kU3 hs, kV3 hs, fU3 f, kU4 hs, kV4 hs, fU4 f, kU5 hs, kV5 hs, fU5 f, kU6 hs, kV6 hs, fU6 f, kU7 hs, kV7 hs, fU7 f, kU8 hs, kV8 hs, fU8 f, kU9 hs, kV9 hs, fU9 f, kU10 hs, kV10 hs, fU10 f, kU11 hs, kV11 hs, fU11 f, kU12 hs, kV12 hs, fU12 f, nU hs, nUk hs, k.2.1, e1, g1, v9, cl, x1, x2, q2, d2, fl, gg, decide_true, bI_t, show ¬ (1 : Int32) = 0 from by decide, u1, c1, af, tk, nI_add, vx6, clx, ax, q3, d5, oI_so, nn, q4, d6, pCX9_litBy, pSX9_litBy, pOX9_litBy, pLX9_litBy, pCX9_flies, pSX9_flies, pOX9_flies, pLX9_flies, pCX8_takes, pSX8_takes, pOX8_takes, pLX8_takes, kl_I, kl_J, kl_R, kl_T, kl_N, Nat.le_refl, Nat.zero_le, List.map_nil, List.map_cons, List.sum_nil, List.sum_cons, c_I, c_J, c_R, c_T, va_rf, hI_wI, hJ_wJ, hR_wR, hI_J, hI_R, hJ_I, hJ_R, hR_I, hR_J, hN_I, hN_J, hN_R, wI_I, wJ_J, upd_at, updL_at, kR_s, Option.toList, List.append_nil, List.nil_append, List.cons_append, if_true, if_false, reduceIte, Bool.false_eq_true, not_true_eq_false, not_false_eq_true, true_and, and_true, false_and, and_false, true_or, or_true,  Nat.reduceEqDiff, Nat.reduceAdd, Nat.reduceLeDiff]
              rw [rX9_litBy_158, nI_1]
              simp (implicitDefEqProofs := false) only [rX9_litBy_161, kl_I, kl_J, kl_R, kl_T, kl_N, Nat.le_refl, Nat.zero_le, List.map_nil, List.map_cons, List.sum_nil, List.sum_cons, c_I, c_J, c_R, c_T, va_rf, hI_wI, hJ_wJ, hR_wR, hI_J, hI_R, hJ_I, hJ_R, hR_I, hR_J, hN_I, hN_J, hN_R, wI_I, wJ_J, upd_at, updL_at, kR_s, Option.toList, List.append_nil, List.nil_append, List.cons_append, if_true, if_false, reduceIte, Bool.false_eq_true, not_true_eq_false, not_false_eq_true, true_and, and_true, false_and, and_false, true_or, or_true,  Nat.reduceEqDiff, Nat.reduceAdd, Nat.reduceLeDiff]
              exact ih (i + 1) (by omega) (some z) hb
            · rw [lmL_t ⟨lc, fun z' hz' => by cases hz'; omega⟩]
              simp (implicitDefEqProofs := false) only [rX9_litBy_62, rX9_litBy_63, rX9_litBy_63b, rX9_litBy_64, rX9_litBy_67, rX9_litBy_70, rX9_litBy_73, rX9_litBy_73b, rX9_litBy_74, rX9_litBy_77, rX9_litBy_80, rX9_litBy_81, rX9_litBy_82, rX9_litBy_83, rX9_litBy_86, rX9_litBy_86b, rX9_litBy_87, rX9_litBy_88, rX9_litBy_91, rX9_litBy_94, rX9_litBy_94b, rX9_litBy_95, rX9_litBy_98, rX9_litBy_98b, rX9_litBy_99, rX9_litBy_102, rX9_litBy_105, rX9_litBy_106, rX9_litBy_107, rX9_litBy_108, rX9_litBy_108b, rX9_litBy_109, rX9_litBy_112, rX9_litBy_113, rX9_litBy_116, rX9_litBy_117, rX9_litBy_117b, rX9_litBy_118, rX9_litBy_121, rX9_litBy_122, rX9_litBy_123, rX9_litBy_126, rX9_litBy_129, rX9_litBy_130, rX9_litBy_132, rX9_litBy_135, rX9_litBy_135b, rX9_litBy_136, rX9_litBy_139, rX9_litBy_142, rX9_litBy_143, rX9_litBy_144, rX9_litBy_145, rX9_litBy_148, rX9_litBy_148b, rX9_litBy_149, rX9_litBy_152, rX9_litBy_155, rX9_litBy_156, rX9_litBy_157, kA_44, kB_44, kA_50, kB_50, fin_44_5 F, fin_44_15 F, fin_44_16 F, fin_44_17 F, fin_44_18 F, fin_44_21 F, fin_44_23 F, fin_44_24 F, fin_44_25 F, fin_44_29 F, fin_44_33 F, kU0 hs, kU1 hs, kV1 hs, fU1 f, kU2 hs, kV2 hs, fU2 f, kU3 hs, kV3 hs, fU3 f, kU4 hs, kV4 hs, fU4 f, kU5 hs, kV5 hs, fU5 f, kU6 hs, kV6 hs, fU6 f, kU7 hs, kV7 hs, fU7 f, kU8 hs, kV8 hs, fU8 f, kU9 hs, kV9 hs, fU9 f, kU10 hs, kV10 hs, fU10 f, kU11 hs, kV11 hs, fU11 f, kU12 hs, kV12 hs, fU12 f, nU hs, nUk hs, k.2.1, e1, g1, v9, cl, x1, x2, q2, d2, fl, gg, decide_true, bI_t, show ¬ (1 : Int32) = 0 from by decide, u1, c1, af, tk, nI_add, vx6, clx, ax, q3, d5, oI_so, nn, q4, d6, pCX9_litBy, pSX9_litBy, pOX9_litBy, pLX9_litBy, pCX9_flies, pSX9_flies, pOX9_flies, pLX9_flies, pCX8_takes, pSX8_takes, pOX8_takes, pLX8_takes, kl_I, kl_J, kl_R, kl_T, kl_N, Nat.le_refl, Nat.zero_le, List.map_nil, List.map_cons, List.sum_nil, List.sum_cons, c_I, c_J, c_R, c_T, va_rf, hI_wI, hJ_wJ, hR_wR, hI_J, hI_R, hJ_I, hJ_R, hR_I, hR_J, hN_I, hN_J, hN_R, wI_I, wJ_J, upd_at, updL_at, kR_s, Option.toList, List.append_nil, List.nil_append, List.cons_append, if_true, if_false, reduceIte, Bool.false_eq_true, not_true_eq_false, not_false_eq_true, true_and, and_true, false_and, and_false, true_or, or_true,  Nat.reduceEqDiff, Nat.reduceAdd, Nat.reduceLeDiff]
              rw [rX9_litBy_158, nI_1]
              simp (implicitDefEqProofs := false) only [rX9_litBy_161, kl_I, kl_J, kl_R, kl_T, kl_N, Nat.le_refl, Nat.zero_le, List.map_nil, List.map_cons, List.sum_nil, List.sum_cons, c_I, c_J, c_R, c_T, va_rf, hI_wI, hJ_wJ, hR_wR, hI_J, hI_R, hJ_I, hJ_R, hR_I, hR_J, hN_I, hN_J, hN_R, wI_I, wJ_J, upd_at, updL_at, kR_s, Option.toList, List.append_nil, List.nil_append, List.cons_append, if_true, if_false, reduceIte, Bool.false_eq_true, not_true_eq_false, not_false_eq_true, true_and, and_true, false_and, and_false, true_or, or_true,  Nat.reduceEqDiff, Nat.reduceAdd, Nat.reduceLeDiff]
              exact ih (i + 1) (by omega) (some (aFm a i)) (fun z hz => by cases hz; omega)
        · have d5 : ¬ n9 (dayN a t (aFm a i)) + n9 (lagN a i) = dayN a t x := by
            rw [e4]
            unfold n9
            split <;> omega
          rw [lmL_f (fun q => d4 q.1.2.2.2)]
          simp (implicitDefEqProofs := false) only [rX9_litBy_62, rX9_litBy_63, rX9_litBy_63b, rX9_litBy_64, rX9_litBy_67, rX9_litBy_70, rX9_litBy_73, rX9_litBy_73b, rX9_litBy_74, rX9_litBy_77, rX9_litBy_80, rX9_litBy_81, rX9_litBy_82, rX9_litBy_83, rX9_litBy_86, rX9_litBy_86b, rX9_litBy_87, rX9_litBy_88, rX9_litBy_91, rX9_litBy_94, rX9_litBy_94b, rX9_litBy_95, rX9_litBy_98, rX9_litBy_98b, rX9_litBy_99, rX9_litBy_102, rX9_litBy_105, rX9_litBy_106, rX9_litBy_107, rX9_litBy_108, rX9_litBy_108b, rX9_litBy_109, rX9_litBy_112, rX9_litBy_113, rX9_litBy_116, rX9_litBy_117, rX9_litBy_117b, rX9_litBy_118, rX9_litBy_121, rX9_litBy_122, rX9_litBy_123, rX9_litBy_126, rX9_litBy_129, rX9_litBy_130, rX9_litBy_132, rX9_litBy_135, rX9_litBy_135b, rX9_litBy_136, rX9_litBy_139, rX9_litBy_142, rX9_litBy_143, rX9_litBy_144, rX9_litBy_145, rX9_litBy_148, rX9_litBy_148b, rX9_litBy_149, rX9_litBy_152, rX9_litBy_155, rX9_litBy_156, rX9_litBy_157, kA_44, kB_44, kA_50, kB_50, fin_44_5 F, fin_44_15 F, fin_44_16 F, fin_44_17 F, fin_44_18 F, fin_44_21 F, fin_44_23 F, fin_44_24 F, fin_44_25 F, fin_44_29 F, fin_44_33 F, kU0 hs, kU1 hs, kV1 hs, fU1 f, kU2 hs, kV2 hs, fU2 f, kU3 hs, kV3 hs, fU3 f, kU4 hs, kV4 hs, fU4 f, kU5 hs, kV5 hs, fU5 f, kU6 hs, kV6 hs, fU6 f, kU7 hs, kV7 hs, fU7 f, kU8 hs, kV8 hs, fU8 f, kU9 hs, kV9 hs, fU9 f, kU10 hs, kV10 hs, fU10 f, kU11 hs, kV11 hs, fU11 f, kU12 hs, kV12 hs, fU12 f, nU hs, nUk hs, k.2.1, e1, g1, v9, cl, x1, x2, q2, d2, fl, gg, decide_true, bI_t, show ¬ (1 : Int32) = 0 from by decide, u1, c1, af, tk, nI_add, vx6, clx, ax, q3, d5, pCX9_litBy, pSX9_litBy, pOX9_litBy, pLX9_litBy, pCX9_flies, pSX9_flies, pOX9_flies, pLX9_flies, pCX8_takes, pSX8_takes, pOX8_takes, pLX8_takes, kl_I, kl_J, kl_R, kl_T, kl_N, Nat.le_refl, Nat.zero_le, List.map_nil, List.map_cons, List.sum_nil, List.sum_cons, c_I, c_J, c_R, c_T, va_rf, hI_wI, hJ_wJ, hR_wR, hI_J, hI_R, hJ_I, hJ_R, hR_I, hR_J, hN_I, hN_J, hN_R, wI_I, wJ_J, upd_at, updL_at, kR_s, Option.toList, List.append_nil, List.nil_append, List.cons_append, if_true, if_false, reduceIte, Bool.false_eq_true, not_true_eq_false, not_false_eq_true, true_and, and_true, false_and, and_false, true_or, or_true,  Nat.reduceEqDiff, Nat.reduceAdd, Nat.reduceLeDiff]
          rw [rX9_litBy_158, nI_1]
          simp (implicitDefEqProofs := false) only [rX9_litBy_161, kl_I, kl_J, kl_R, kl_T, kl_N, Nat.le_refl, Nat.zero_le, List.map_nil, List.map_cons, List.sum_nil, List.sum_cons, c_I, c_J, c_R, c_T, va_rf, hI_wI, hJ_wJ, hR_wR, hI_J, hI_R, hJ_I, hJ_R, hR_I, hR_J, hN_I, hN_J, hN_R, wI_I, wJ_J, upd_at, updL_at, kR_s, Option.toList, List.append_nil, List.nil_append, List.cons_append, if_true, if_false, reduceIte, Bool.false_eq_true, not_true_eq_false, not_false_eq_true, true_and, and_true, false_and, and_false, true_or, or_true,  Nat.reduceEqDiff, Nat.reduceAdd, Nat.reduceLeDiff]
          exact ih (i + 1) (by omega) b hb
      · have gg : ¬ (¬ (none : Option Nat) = some i ∧ (cutN a t).testBit (aFm a i) = false ∧ lagN a i < 1000) := fun q => d3 q.2
        rw [lmL_f (fun q => d3 ⟨q.1.2.1, q.1.2.2.1⟩)]
        simp (implicitDefEqProofs := false) only [rX9_litBy_62, rX9_litBy_63, rX9_litBy_63b, rX9_litBy_64, rX9_litBy_67, rX9_litBy_70, rX9_litBy_73, rX9_litBy_73b, rX9_litBy_74, rX9_litBy_77, rX9_litBy_80, rX9_litBy_81, rX9_litBy_82, rX9_litBy_83, rX9_litBy_86, rX9_litBy_86b, rX9_litBy_87, rX9_litBy_88, rX9_litBy_91, rX9_litBy_94, rX9_litBy_94b, rX9_litBy_95, rX9_litBy_98, rX9_litBy_98b, rX9_litBy_99, rX9_litBy_102, rX9_litBy_105, rX9_litBy_106, rX9_litBy_107, rX9_litBy_108, rX9_litBy_108b, rX9_litBy_109, rX9_litBy_112, rX9_litBy_113, rX9_litBy_116, rX9_litBy_117, rX9_litBy_117b, rX9_litBy_118, rX9_litBy_121, rX9_litBy_122, rX9_litBy_123, rX9_litBy_126, rX9_litBy_129, rX9_litBy_130, rX9_litBy_132, rX9_litBy_135, rX9_litBy_135b, rX9_litBy_136, rX9_litBy_139, rX9_litBy_142, rX9_litBy_143, rX9_litBy_144, rX9_litBy_145, rX9_litBy_148, rX9_litBy_148b, rX9_litBy_149, rX9_litBy_152, rX9_litBy_155, rX9_litBy_156, rX9_litBy_157, kA_44, kB_44, kA_50, kB_50, fin_44_5 F, fin_44_15 F, fin_44_16 F, fin_44_17 F, fin_44_18 F, fin_44_21 F, fin_44_23 F, fin_44_24 F, fin_44_25 F, fin_44_29 F, fin_44_33 F, kU0 hs, kU1 hs, kV1 hs, fU1 f, kU2 hs, kV2 hs, fU2 f, kU3 hs, kV3 hs, fU3 f, kU4 hs, kV4 hs, fU4 f, kU5 hs, kV5 hs, fU5 f, kU6 hs, kV6 hs, fU6 f, kU7 hs, kV7 hs, fU7 f, kU8 hs, kV8 hs, fU8 f, kU9 hs, kV9 hs, fU9 f, kU10 hs, kV10 hs, fU10 f, kU11 hs, kV11 hs, fU11 f, kU12 hs, kV12 hs, fU12 f, nU hs, nUk hs, k.2.1, e1, g1, v9, cl, x1, x2, q2, d2, fl, gg, decide_false, bI_f, pCX9_litBy, pSX9_litBy, pOX9_litBy, pLX9_litBy, pCX9_flies, pSX9_flies, pOX9_flies, pLX9_flies, pCX8_takes, pSX8_takes, pOX8_takes, pLX8_takes, kl_I, kl_J, kl_R, kl_T, kl_N, Nat.le_refl, Nat.zero_le, List.map_nil, List.map_cons, List.sum_nil, List.sum_cons, c_I, c_J, c_R, c_T, va_rf, hI_wI, hJ_wJ, hR_wR, hI_J, hI_R, hJ_I, hJ_R, hR_I, hR_J, hN_I, hN_J, hN_R, wI_I, wJ_J, upd_at, updL_at, kR_s, Option.toList, List.append_nil, List.nil_append, List.cons_append, if_true, if_false, reduceIte, Bool.false_eq_true, not_true_eq_false, not_false_eq_true, true_and, and_true, false_and, and_false, true_or, or_true,  Nat.reduceEqDiff, Nat.reduceAdd, Nat.reduceLeDiff]
        rw [rX9_litBy_158, nI_1]
        simp (implicitDefEqProofs := false) only [rX9_litBy_161, kl_I, kl_J, kl_R, kl_T, kl_N, Nat.le_refl, Nat.zero_le, List.map_nil, List.map_cons, List.sum_nil, List.sum_cons, c_I, c_J, c_R, c_T, va_rf, hI_wI, hJ_wJ, hR_wR, hI_J, hI_R, hJ_I, hJ_R, hR_I, hR_J, hN_I, hN_J, hN_R, wI_I, wJ_J, upd_at, updL_at, kR_s, Option.toList, List.append_nil, List.nil_append, List.cons_append, if_true, if_false, reduceIte, Bool.false_eq_true, not_true_eq_false, not_false_eq_true, true_and, and_true, false_and, and_false, true_or, or_true,  Nat.reduceEqDiff, Nat.reduceAdd, Nat.reduceLeDiff]
        exact ih (i + 1) (by omega) b hb
    · rw [lmL_f (fun q => d2 q.1.1)]
      simp (implicitDefEqProofs := false) only [rX9_litBy_62, rX9_litBy_63, rX9_litBy_63b, rX9_litBy_64, rX9_litBy_67, rX9_litBy_70, rX9_litBy_73, rX9_litBy_73b, rX9_litBy_74, rX9_litBy_77, rX9_litBy_80, rX9_litBy_81, rX9_litBy_82, rX9_litBy_83, rX9_litBy_86, rX9_litBy_86b, rX9_litBy_87, rX9_litBy_88, rX9_litBy_91, rX9_litBy_94, rX9_litBy_94b, rX9_litBy_95, rX9_litBy_98, rX9_litBy_98b, rX9_litBy_99, rX9_litBy_102, rX9_litBy_105, rX9_litBy_106, rX9_litBy_107, rX9_litBy_108, rX9_litBy_108b, rX9_litBy_109, rX9_litBy_112, rX9_litBy_113, rX9_litBy_116, rX9_litBy_117, rX9_litBy_117b, rX9_litBy_118, rX9_litBy_121, rX9_litBy_122, rX9_litBy_123, rX9_litBy_126, rX9_litBy_129, rX9_litBy_130, rX9_litBy_132, rX9_litBy_135, rX9_litBy_135b, rX9_litBy_136, rX9_litBy_139, rX9_litBy_142, rX9_litBy_143, rX9_litBy_144, rX9_litBy_145, rX9_litBy_148, rX9_litBy_148b, rX9_litBy_149, rX9_litBy_152, rX9_litBy_155, rX9_litBy_156, rX9_litBy_157, kA_44, kB_44, kA_50, kB_50, fin_44_5 F, fin_44_15 F, fin_44_16 F, fin_44_17 F, fin_44_18 F, fin_44_21 F, fin_44_23 F, fin_44_24 F, fin_44_25 F, fin_44_29 F, fin_44_33 F, kU0 hs, kU1 hs, kV1 hs, fU1 f, kU2 hs, kV2 hs, fU2 f, kU3 hs, kV3 hs, fU3 f, kU4 hs, kV4 hs, fU4 f, kU5 hs, kV5 hs, fU5 f, kU6 hs, kV6 hs, fU6 f, kU7 hs, kV7 hs, fU7 f, kU8 hs, kV8 hs, fU8 f, kU9 hs, kV9 hs, fU9 f, kU10 hs, kV10 hs, fU10 f, kU11 hs, kV11 hs, fU11 f, kU12 hs, kV12 hs, fU12 f, nU hs, nUk hs, k.2.1, e1, g1, v9, cl, x1, x2, q2, d2, pCX9_litBy, pSX9_litBy, pOX9_litBy, pLX9_litBy, pCX9_flies, pSX9_flies, pOX9_flies, pLX9_flies, pCX8_takes, pSX8_takes, pOX8_takes, pLX8_takes, kl_I, kl_J, kl_R, kl_T, kl_N, Nat.le_refl, Nat.zero_le, List.map_nil, List.map_cons, List.sum_nil, List.sum_cons, c_I, c_J, c_R, c_T, va_rf, hI_wI, hJ_wJ, hR_wR, hI_J, hI_R, hJ_I, hJ_R, hR_I, hR_J, hN_I, hN_J, hN_R, wI_I, wJ_J, upd_at, updL_at, kR_s, Option.toList, List.append_nil, List.nil_append, List.cons_append, if_true, if_false, reduceIte, Bool.false_eq_true, not_true_eq_false, not_false_eq_true, true_and, and_true, false_and, and_false, true_or, or_true,  Nat.reduceEqDiff, Nat.reduceAdd, Nat.reduceLeDiff]
      rw [rX9_litBy_158, nI_1]
      simp (implicitDefEqProofs := false) only [rX9_litBy_161, kl_I, kl_J, kl_R, kl_T, kl_N, Nat.le_refl, Nat.zero_le, List.map_nil, List.map_cons, List.sum_nil, List.sum_cons, c_I, c_J, c_R, c_T, va_rf, hI_wI, hJ_wJ, hR_wR, hI_J, hI_R, hJ_I, hJ_R, hR_I, hR_J, hN_I, hN_J, hN_R, wI_I, wJ_J, upd_at, updL_at, kR_s, Option.toList, List.append_nil, List.nil_append, List.cons_append, if_true, if_false, reduceIte, Bool.false_eq_true, not_true_eq_false, not_false_eq_true, true_and, and_true, false_and, and_false, true_or, or_true,  Nat.reduceEqDiff, Nat.reduceAdd, Nat.reduceLeDiff]
      exact ih (i + 1) (by omega) b hb
theorem m_litBy {d : Nat} {h : qH} {S : AS} {y : Int32} (I : MI h S) : ms 0 (d + 10) mX9_litBy [.ref (44 : Nat), .int y] h (trS S (sLitBy S y).1) (some (.int (sLitBy S y).2)) := by
  have E : ∀ Q, WM (d + 10) mX9_litBy [.ref (44 : Nat), .int y] h Q = WP (d + 10) mX9_litBy (0, 0) 5 [some (.ref (44 : Nat)), some (.int y), none, none] [] (th h) Q := fun Q => by simp (implicitDefEqProofs := false) only [eX9_litBy, rX9_litBy_0, rX9_litBy_0b, rX9_litBy_1, rX9_litBy_2, kA_44, kB_44, pCX9_litBy, pSX9_litBy, pOX9_litBy, pLX9_litBy, th, kl_I, kl_J, kl_R, kl_T, kl_N, Nat.le_refl, Nat.zero_le, List.map_nil, List.map_cons, List.sum_nil, List.sum_cons, c_I, c_J, c_R, c_T, va_rf, hI_wI, hJ_wJ, hR_wR, hI_J, hI_R, hJ_I, hJ_R, hR_I, hR_J, hN_I, hN_J, hN_R, wI_I, wJ_J, upd_at, updL_at, kR_s, Option.toList, List.append_nil, List.nil_append, List.cons_append, if_true, if_false, reduceIte, Bool.false_eq_true, not_true_eq_false, not_false_eq_true, true_and, and_true, false_and, and_false, true_or, or_true,  Nat.reduceEqDiff, Nat.reduceAdd, Nat.reduceLeDiff]
  rw [sLitBy]
  by_cases c1 : aN (sA S) = 0
  · rw [c1, ix0]
    refine ms_of (v := 1) I (by decide) E ?_
    obtain ⟨F, r⟩ := MI_n (MI_th I) c1
    generalize th h = g at F r ⊢
    exact ⟨g, fun Q => by simp (implicitDefEqProofs := false) only [rX9_litBy_5, rX9_litBy_5b, rX9_litBy_6, rX9_litBy_7, rX9_litBy_10, rX9_litBy_13, rX9_litBy_13b, rX9_litBy_14, rX9_litBy_15, rX9_litBy_18, kA_44, kB_44, c_isHouse0 r, c_mrefused, show nI 1 = 1 from rfl, pCX9_litBy, pSX9_litBy, pOX9_litBy, pLX9_litBy, pCX9_isHouse, pSX9_isHouse, pOX9_isHouse, pLX9_isHouse, pCX9_refused, pSX9_refused, pOX9_refused, pLX9_refused, kl_I, kl_J, kl_R, kl_T, kl_N, Nat.le_refl, Nat.zero_le, List.map_nil, List.map_cons, List.sum_nil, List.sum_cons, c_I, c_J, c_R, c_T, va_rf, hI_wI, hJ_wJ, hR_wR, hI_J, hI_R, hJ_I, hJ_R, hR_I, hR_J, hN_I, hN_J, hN_R, wI_I, wJ_J, upd_at, updL_at, kR_s, Option.toList, List.append_nil, List.nil_append, List.cons_append, if_true, if_false, reduceIte, Bool.false_eq_true, not_true_eq_false, not_false_eq_true, true_and, and_true, false_and, and_false, true_or, or_true,  Nat.reduceEqDiff, Nat.reduceAdd, Nat.reduceLeDiff], kp_refl⟩
  · have I1 := MI_th I
    obtain ⟨s, k, v, t1, t2, t3, t4, t5, ww⟩ := MI_y I1 c1
    have h6 := ww.1
    have ih := c_isHouse (d := d + 9) (y := y) k.2.1 k.2.2.1
    cases hy : ix y (aN (sA S)) with
    | none =>
      rw [hy] at ih
      refine ms_of (v := 1) I (by decide) E ?_
      generalize th h = g at k ih ⊢
      exact ⟨g, fun Q => by simp (implicitDefEqProofs := false) only [rX9_litBy_5, rX9_litBy_5b, rX9_litBy_6, rX9_litBy_7, rX9_litBy_10, rX9_litBy_13, rX9_litBy_13b, rX9_litBy_14, rX9_litBy_15, rX9_litBy_18, kA_44, kB_44, ih, decide_false, bI_f, c_mrefused, show nI 1 = 1 from rfl, pCX9_litBy, pSX9_litBy, pOX9_litBy, pLX9_litBy, pCX9_isHouse, pSX9_isHouse, pOX9_isHouse, pLX9_isHouse, pCX9_refused, pSX9_refused, pOX9_refused, pLX9_refused, kl_I, kl_J, kl_R, kl_T, kl_N, Nat.le_refl, Nat.zero_le, List.map_nil, List.map_cons, List.sum_nil, List.sum_cons, c_I, c_J, c_R, c_T, va_rf, hI_wI, hJ_wJ, hR_wR, hI_J, hI_R, hJ_I, hJ_R, hR_I, hR_J, hN_I, hN_J, hN_R, wI_I, wJ_J, upd_at, updL_at, kR_s, Option.toList, List.append_nil, List.nil_append, List.cons_append, if_true, if_false, reduceIte, Bool.false_eq_true, not_true_eq_false, not_false_eq_true, true_and, and_true, false_and, and_false, true_or, or_true,  Nat.reduceEqDiff, Nat.reduceAdd, Nat.reduceLeDiff], kp_refl⟩
    | some i =>
      rw [hy] at ih
      obtain ⟨rfl, hi⟩ := ix_s (by omega) hy
      refine ms_of (v := 0) I (by decide) E ?_
      generalize th h = g at k ih v ⊢
      obtain ⟨h1, e1, x1, u1, a1⟩ := c_finds (d := d + 6) k v
      have k1 := mK_sx k x1 (by decide)
      have F1 := k1.1
      have v6 : vp_in (nI i) 6 := nI_vp (by omega) (by decide)
      have v10 : vp_in (nI i) 10 := nI_vp (by omega) (by decide)
      have cl : (nI i).toNatClampNeg = i := nI_cl (by omega)
      have ai := a1.1 i hi
      have ab := a1.2.1 i
      have z1 := n9_b ab
      have q1 : (nI (n9 (dayN (sA S) (sX S).1 i)) = 9999) = (1000 ≤ dayN (sA S) (sX S).1 i) := by
        rw [nq (x := n9 (dayN (sA S) (sX S).1 i)) (k := 9999) (c := 9999) rfl (by omega) (by omega)]
        unfold n9
        apply propext
        split <;> omega
      refine ⟨h1, fun Q => ?_, kp_sx x1 (by decide)⟩
      simp only
      unfold liN
      by_cases c2 : 1000 ≤ dayN (sA S) (sX S).1 i
      · rw [if_pos (.inl c2)]
        simp (implicitDefEqProofs := false) only [rX9_litBy_5, rX9_litBy_5b, rX9_litBy_6, rX9_litBy_7, rX9_litBy_10, rX9_litBy_19, rX9_litBy_19b, rX9_litBy_20, rX9_litBy_23, rX9_litBy_25, rX9_litBy_26, rX9_litBy_26b, rX9_litBy_27, rX9_litBy_30, rX9_litBy_31, rX9_litBy_32, rX9_litBy_35, rX9_litBy_38, rX9_litBy_38b, rX9_litBy_39, rX9_litBy_42, rX9_litBy_43, rX9_litBy_44, rX9_litBy_44b, rX9_litBy_45, rX9_litBy_48, rX9_litBy_49, rX9_litBy_50, rX9_litBy_53, rX9_litBy_53b, rX9_litBy_54, rX9_litBy_56, rX9_litBy_59, kA_44, kB_44, kA_47, kB_47, kA_50, kB_50, fin_44_5 F1, fin_44_15 F1, fin_44_16 F1, fin_44_17 F1, fin_44_18 F1, fin_44_21 F1, fin_44_23 F1, fin_44_24 F1, fin_44_25 F1, fin_44_29 F1, fin_44_33 F1, ih, reduceCtorEq, decide_true, bI_t, show ¬ (1 : Int32) = 0 from by decide, e1, v6, cl, ai, q1, c2, c_mgood, oI_no, pCX9_litBy, pSX9_litBy, pOX9_litBy, pLX9_litBy, pCX9_isHouse, pSX9_isHouse, pOX9_isHouse, pLX9_isHouse, pCX9_finds, pSX9_finds, pOX9_finds, pLX9_finds, pCX9_good, pSX9_good, pOX9_good, pLX9_good, kl_I, kl_J, kl_R, kl_T, kl_N, Nat.le_refl, Nat.zero_le, List.map_nil, List.map_cons, List.sum_nil, List.sum_cons, c_I, c_J, c_R, c_T, va_rf, hI_wI, hJ_wJ, hR_wR, hI_J, hI_R, hJ_I, hJ_R, hR_I, hR_J, hN_I, hN_J, hN_R, wI_I, wJ_J, upd_at, updL_at, kR_s, Option.toList, List.append_nil, List.nil_append, List.cons_append, if_true, if_false, reduceIte, Bool.false_eq_true, not_true_eq_false, not_false_eq_true, true_and, and_true, false_and, and_false, true_or, or_true,  Nat.reduceEqDiff, Nat.reduceAdd, Nat.reduceLeDiff]
        rfl
      · have e9 : n9 (dayN (sA S) (sX S).1 i) = dayN (sA S) (sX S).1 i := if_neg c2
        rw [e9] at ai q1
        have q2 : (oI (causeN (sA S) (sX S).1 i) = nI (dayN (sA S) (sX S).1 i)) = (causeN (sA S) (sX S).1 i = some (dayN (sA S) (sX S).1 i)) := oI_eq (fun z hz => by have := causeN_le ww hi hz; omega) (by omega)
        by_cases c3 : causeN (sA S) (sX S).1 i = some (dayN (sA S) (sX S).1 i)
        · rw [if_pos (.inr c3)]
          rw [show (causeN (sA S) (sX S).1 i = some (dayN (sA S) (sX S).1 i)) = True from by simp only [c3]] at q2
          simp (implicitDefEqProofs := false) only [rX9_litBy_5, rX9_litBy_5b, rX9_litBy_6, rX9_litBy_7, rX9_litBy_10, rX9_litBy_19, rX9_litBy_19b, rX9_litBy_20, rX9_litBy_23, rX9_litBy_25, rX9_litBy_26, rX9_litBy_26b, rX9_litBy_27, rX9_litBy_30, rX9_litBy_31, rX9_litBy_32, rX9_litBy_35, rX9_litBy_38, rX9_litBy_38b, rX9_litBy_39, rX9_litBy_42, rX9_litBy_43, rX9_litBy_44, rX9_litBy_44b, rX9_litBy_45, rX9_litBy_48, rX9_litBy_49, rX9_litBy_50, rX9_litBy_53, rX9_litBy_53b, rX9_litBy_54, rX9_litBy_56, rX9_litBy_59, kA_44, kB_44, kA_47, kB_47, kA_50, kB_50, fin_44_5 F1, fin_44_15 F1, fin_44_16 F1, fin_44_17 F1, fin_44_18 F1, fin_44_21 F1, fin_44_23 F1, fin_44_24 F1, fin_44_25 F1, fin_44_29 F1, fin_44_33 F1, ih, reduceCtorEq, decide_true, bI_t, show ¬ (1 : Int32) = 0 from by decide, e1, v6, v10, cl, ai, u1.1 i hi, q1, c2, q2, c_mgood, oI_no, pCX9_litBy, pSX9_litBy, pOX9_litBy, pLX9_litBy, pCX9_isHouse, pSX9_isHouse, pOX9_isHouse, pLX9_isHouse, pCX9_finds, pSX9_finds, pOX9_finds, pLX9_finds, pCX9_good, pSX9_good, pOX9_good, pLX9_good, kl_I, kl_J, kl_R, kl_T, kl_N, Nat.le_refl, Nat.zero_le, List.map_nil, List.map_cons, List.sum_nil, List.sum_cons, c_I, c_J, c_R, c_T, va_rf, hI_wI, hJ_wJ, hR_wR, hI_J, hI_R, hJ_I, hJ_R, hR_I, hR_J, hN_I, hN_J, hN_R, wI_I, wJ_J, upd_at, updL_at, kR_s, Option.toList, List.append_nil, List.nil_append, List.cons_append, if_true, if_false, reduceIte, Bool.false_eq_true, not_true_eq_false, not_false_eq_true, true_and, and_true, false_and, and_false, true_or, or_true,  Nat.reduceEqDiff, Nat.reduceAdd, Nat.reduceLeDiff]
          rfl
        · rw [if_neg (fun q => q.elim c2 c3), ← lm_li ww (by omega)]
          simp (implicitDefEqProofs := false) only [rX9_litBy_5, rX9_litBy_5b, rX9_litBy_6, rX9_litBy_7, rX9_litBy_10, rX9_litBy_19, rX9_litBy_19b, rX9_litBy_20, rX9_litBy_23, rX9_litBy_25, rX9_litBy_26, rX9_litBy_26b, rX9_litBy_27, rX9_litBy_30, rX9_litBy_31, rX9_litBy_32, rX9_litBy_35, rX9_litBy_38, rX9_litBy_38b, rX9_litBy_39, rX9_litBy_42, rX9_litBy_43, rX9_litBy_44, rX9_litBy_44b, rX9_litBy_45, rX9_litBy_48, rX9_litBy_49, rX9_litBy_50, rX9_litBy_60, rX9_litBy_61, kA_44, kB_44, kA_47, kB_47, kA_50, kB_50, fin_44_5 F1, fin_44_15 F1, fin_44_16 F1, fin_44_17 F1, fin_44_18 F1, fin_44_21 F1, fin_44_23 F1, fin_44_24 F1, fin_44_25 F1, fin_44_29 F1, fin_44_33 F1, ih, reduceCtorEq, decide_true, bI_t, show ¬ (1 : Int32) = 0 from by decide, e1, v6, v10, cl, ai, u1.1 i hi, q1, c2, q2, c3, pCX9_litBy, pSX9_litBy, pOX9_litBy, pLX9_litBy, pCX9_isHouse, pSX9_isHouse, pOX9_isHouse, pLX9_isHouse, pCX9_finds, pSX9_finds, pOX9_finds, pLX9_finds, kl_I, kl_J, kl_R, kl_T, kl_N, Nat.le_refl, Nat.zero_le, List.map_nil, List.map_cons, List.sum_nil, List.sum_cons, c_I, c_J, c_R, c_T, va_rf, hI_wI, hJ_wJ, hR_wR, hI_J, hI_R, hJ_I, hJ_R, hR_I, hR_J, hN_I, hN_J, hN_R, wI_I, wJ_J, upd_at, updL_at, kR_s, Option.toList, List.append_nil, List.nil_append, List.cons_append, if_true, if_false, reduceIte, Bool.false_eq_true, not_true_eq_false, not_false_eq_true, true_and, and_true, false_and, and_false, true_or, or_true,  Nat.reduceEqDiff, Nat.reduceAdd, Nat.reduceLeDiff]
          exact l_mlit (d := d + 8) k1 a1 hi (by omega) u1.2.1 (aSp (sA S)) 0 (by omega) none (fun z hz => by cases hz)
