/-! ===== the model: feed, safe, the best cut ===== -/
def fV (a b c d e : Int32) (i : Nat) : Int32 := if i < 4 then a else if i < 8 then b else if i < 12 then c else if i < 16 then d else e
def fW (a b c d e : Int32) (i : Nat) : Int32 := by1 (fV a b c d e i) (nI (24 - 8 * (i % 4)))
def feR (f : Nat → Int32) (n : Nat) (V : Nat → Int32) : Nat → Nat → Int32
  | 0 => f
  | i + 1 => upd (feR f n V i) (n + i) (V i)
theorem feR_20 {f : Nat → Int32} {n : Nat} {a b c d e : Int32} : feR f n (fW a b c d e) 20 = feB f n a b c d e := by
  simp only [feR, feB, by4, Nat.add_assoc, Nat.reduceAdd, Nat.add_zero]
  rfl
theorem upd_id {f : Nat → Int32} {k : Nat} : upd f k (f k) = f := by
  funext j
  rw [upd_at]
  split
  · rename_i q; rw [q]
  · rfl
theorem wW5 {h : qH} {f g f' g' : Nat → Int32} : wI (wI (wI (wI h 45 g) 44 f) 45 g') 44 f' = wI (wI h 45 g') 44 f' := by
  rw [wI_com (h := wI h 45 g) (a := 44) (b := 45) (by decide), wI_I, wI_I]
theorem l_fe1 {D : Nat} {h : qH} {n i : Nat} {a b c d e : Int32} {o7 : Option Value} (F : Fin0 (hR h)) (e6 : hI h 44 6 = nI n) (hn : n < 900) (hi : i < 20) {Q : Option (Option Value) → qH → Prop} {X : Prop} (hX : WP D mX9_feed (0, 0) 23 [some (.ref (44 : Nat)), some (.int a), some (.int b), some (.int c), some (.int d), some (.int e), some (.int (nI (i + 1))), some (.int (fV a b c d e i))] [] (wI (wI h 45 (upd (hI h 45) n (fW a b c d e i))) 44 (upd (hI h 44) 6 (nI (n + 1)))) Q = X) : WP D mX9_feed (0, 0) 23 [some (.ref (44 : Nat)), some (.int a), some (.int b), some (.int c), some (.int d), some (.int e), some (.int (nI i)), o7] [] h Q = X := by
  have a3 : vp_in (nI n) 900 := nI_vp hn (by decide)
  have a4 : (nI n).toNatClampNeg = n := nI_cl (by omega)
  have r1 : nI i - nI i / 4 * 4 = nI (i % 4) := pk_rem (d := 4) (by omega) (by omega) (by omega)
  have r2 : 8 * nI (i % 4) = nI (8 * (i % 4)) := by rw [show (8 : Int32) = nI 8 from rfl, nI_mul]
  have r3 : 24 - nI (8 * (i % 4)) = nI (24 - 8 * (i % 4)) := by rw [show (24 : Int32) = nI 24 from rfl, pk_sub (by omega)]
  have g20 : (20 ≤ nI i) = (20 ≤ i) := nge (x := i) (k := 20) (c := 20) rfl (by omega) (by omega)
  have g4 : (4 ≤ nI i) = (4 ≤ i) := nge (x := i) (k := 4) (c := 4) rfl (by omega) (by omega)
  have g8 : (8 ≤ nI i) = (8 ≤ i) := nge (x := i) (k := 8) (c := 8) rfl (by omega) (by omega)
  have g12 : (12 ≤ nI i) = (12 ≤ i) := nge (x := i) (k := 12) (c := 12) rfl (by omega) (by omega)
  have g16 : (16 ≤ nI i) = (16 ≤ i) := nge (x := i) (k := 16) (c := 16) rfl (by omega) (by omega)
  unfold fW at hX
  rcases (show i < 4 ∨ (4 ≤ i ∧ i < 8) ∨ (8 ≤ i ∧ i < 12) ∨ (12 ≤ i ∧ i < 16) ∨ (16 ≤ i) by omega) with q | q | q | q | q
  · have fv : fV a b c d e i = a := by unfold fV; rw [if_pos (by omega)]
    rw [fv] at hX
    unfold by1 at hX
    simp (implicitDefEqProofs := false) only [rX9_feed_23, rX9_feed_25, rX9_feed_27, rX9_feed_30, rX9_feed_32, rX9_feed_33, rX9_feed_36, rX9_feed_37, rX9_feed_40, rX9_feed_42, rX9_feed_44, rX9_feed_47, rX9_feed_48, rX9_feed_51, rX9_feed_53, rX9_feed_55, rX9_feed_58, rX9_feed_59, rX9_feed_62, rX9_feed_64, rX9_feed_66, rX9_feed_69, rX9_feed_71, rX9_feed_74, rX9_feed_76, rX9_feed_78, rX9_feed_78b, rX9_feed_79, rX9_feed_82, rX9_feed_82b, rX9_feed_83, rX9_feed_86, rX9_feed_88, rX9_feed_90, rX9_feed_92, rX9_feed_94, rX9_feed_95, rX9_feed_96, rX9_feed_97, rX9_feed_98, rX9_feed_99, rX9_feed_100, rX9_feed_101, rX9_feed_101b, rX9_feed_102, rX9_feed_102b, rX9_feed_103, rX9_feed_106, rX9_feed_107, rX9_feed_108, kA_44, kB_44, kA_45, kB_45, fin_44_5 F, fin_44_15 F, fin_44_16 F, fin_44_17 F, fin_44_18 F, fin_44_21 F, fin_44_23 F, fin_44_24 F, fin_44_25 F, fin_44_29 F, fin_44_33 F, e6, g20, g4, g8, g12, g16, show ¬ 20 ≤ i from by omega, show ¬ 4 ≤ i from by omega, show ¬ (4 : Int32) = 0 from by decide, r1, r2, r3, a3, a4, nI_1, nar_b, by1, pCX9_feed, pSX9_feed, pOX9_feed, pLX9_feed, kl_I, kl_J, kl_R, kl_T, kl_N, Nat.le_refl, Nat.zero_le, List.map_nil, List.map_cons, List.sum_nil, List.sum_cons, c_I, c_J, c_R, c_T, va_rf, hI_wI, hJ_wJ, hR_wR, hI_J, hI_R, hJ_I, hJ_R, hR_I, hR_J, hN_I, hN_J, hN_R, wI_I, wJ_J, upd_at, updL_at, kR_s, Option.toList, List.append_nil, List.nil_append, List.cons_append, if_true, if_false, reduceIte, Bool.false_eq_true, not_true_eq_false, not_false_eq_true, true_and, and_true, false_and, and_false, true_or, or_true,  Nat.reduceEqDiff, Nat.reduceAdd, Nat.reduceLeDiff]
    rw [rX9_feed_111, nI_1]
    simp (implicitDefEqProofs := false) only [rX9_feed_114, kl_I, kl_J, kl_R, kl_T, kl_N, Nat.le_refl, Nat.zero_le, List.map_nil, List.map_cons, List.sum_nil, List.sum_cons, c_I, c_J, c_R, c_T, va_rf, hI_wI, hJ_wJ, hR_wR, hI_J, hI_R, hJ_I, hJ_R, hR_I, hR_J, hN_I, hN_J, hN_R, wI_I, wJ_J, upd_at, updL_at, kR_s, Option.toList, List.append_nil, List.nil_append, List.cons_append, if_true, if_false, reduceIte, Bool.false_eq_true, not_true_eq_false, not_false_eq_true, true_and, and_true, false_and, and_false, true_or, or_true,  Nat.reduceEqDiff, Nat.reduceAdd, Nat.reduceLeDiff]
    exact hX
  · have fv : fV a b c d e i = b := by unfold fV; rw [if_neg (by omega)]; rw [if_pos (by omega)]
    rw [fv] at hX
    unfold by1 at hX
    simp (implicitDefEqProofs := false) only [rX9_feed_23, rX9_feed_25, rX9_feed_27, rX9_feed_30, rX9_feed_32, rX9_feed_33, rX9_feed_36, rX9_feed_37, rX9_feed_40, rX9_feed_42, rX9_feed_44, rX9_feed_47, rX9_feed_48, rX9_feed_51, rX9_feed_53, rX9_feed_55, rX9_feed_58, rX9_feed_59, rX9_feed_62, rX9_feed_64, rX9_feed_66, rX9_feed_69, rX9_feed_71, rX9_feed_74, rX9_feed_76, rX9_feed_78, rX9_feed_78b, rX9_feed_79, rX9_feed_82, rX9_feed_82b, rX9_feed_83, rX9_feed_86, rX9_feed_88, rX9_feed_90, rX9_feed_92, rX9_feed_94, rX9_feed_95, rX9_feed_96, rX9_feed_97, rX9_feed_98, rX9_feed_99, rX9_feed_100, rX9_feed_101, rX9_feed_101b, rX9_feed_102, rX9_feed_102b, rX9_feed_103, rX9_feed_106, rX9_feed_107, rX9_feed_108, kA_44, kB_44, kA_45, kB_45, fin_44_5 F, fin_44_15 F, fin_44_16 F, fin_44_17 F, fin_44_18 F, fin_44_21 F, fin_44_23 F, fin_44_24 F, fin_44_25 F, fin_44_29 F, fin_44_33 F, e6, g20, g4, g8, g12, g16, show ¬ 20 ≤ i from by omega, show 4 ≤ i from by omega, show ¬ 8 ≤ i from by omega, show ¬ (4 : Int32) = 0 from by decide, r1, r2, r3, a3, a4, nI_1, nar_b, by1, pCX9_feed, pSX9_feed, pOX9_feed, pLX9_feed, kl_I, kl_J, kl_R, kl_T, kl_N, Nat.le_refl, Nat.zero_le, List.map_nil, List.map_cons, List.sum_nil, List.sum_cons, c_I, c_J, c_R, c_T, va_rf, hI_wI, hJ_wJ, hR_wR, hI_J, hI_R, hJ_I, hJ_R, hR_I, hR_J, hN_I, hN_J, hN_R, wI_I, wJ_J, upd_at, updL_at, kR_s, Option.toList, List.append_nil, List.nil_append, List.cons_append, if_true, if_false, reduceIte, Bool.false_eq_true, not_true_eq_false, not_false_eq_true, true_and, and_true, false_and, and_false, true_or, or_true,  Nat.reduceEqDiff, Nat.reduceAdd, Nat.reduceLeDiff]
    rw [rX9_feed_111, nI_1]
    simp (implicitDefEqProofs := false) only [rX9_feed_114, kl_I, kl_J, kl_R, kl_T, kl_N, Nat.le_refl, Nat.zero_le, List.map_nil, List.map_cons, List.sum_nil, List.sum_cons, c_I, c_J, c_R, c_T, va_rf, hI_wI, hJ_wJ, hR_wR, hI_J, hI_R, hJ_I, hJ_R, hR_I, hR_J, hN_I, hN_J, hN_R, wI_I, wJ_J, upd_at, updL_at, kR_s, Option.toList, List.append_nil, List.nil_append, List.cons_append, if_true, if_false, reduceIte, Bool.false_eq_true, not_true_eq_false, not_false_eq_true, true_and, and_true, false_and, and_false, true_or, or_true,  Nat.reduceEqDiff, Nat.reduceAdd, Nat.reduceLeDiff]
    exact hX
  · have fv : fV a b c d e i = c := by unfold fV; rw [if_neg (by omega)]; rw [if_neg (by omega)]; rw [if_pos (by omega)]
    rw [fv] at hX
    unfold by1 at hX
    simp (implicitDefEqProofs := false) only [rX9_feed_23, rX9_feed_25, rX9_feed_27, rX9_feed_30, rX9_feed_32, rX9_feed_33, rX9_feed_36, rX9_feed_37, rX9_feed_40, rX9_feed_42, rX9_feed_44, rX9_feed_47, rX9_feed_48, rX9_feed_51, rX9_feed_53, rX9_feed_55, rX9_feed_58, rX9_feed_59, rX9_feed_62, rX9_feed_64, rX9_feed_66, rX9_feed_69, rX9_feed_71, rX9_feed_74, rX9_feed_76, rX9_feed_78, rX9_feed_78b, rX9_feed_79, rX9_feed_82, rX9_feed_82b, rX9_feed_83, rX9_feed_86, rX9_feed_88, rX9_feed_90, rX9_feed_92, rX9_feed_94, rX9_feed_95, rX9_feed_96, rX9_feed_97, rX9_feed_98, rX9_feed_99, rX9_feed_100, rX9_feed_101, rX9_feed_101b, rX9_feed_102, rX9_feed_102b, rX9_feed_103, rX9_feed_106, rX9_feed_107, rX9_feed_108, kA_44, kB_44, kA_45, kB_45, fin_44_5 F, fin_44_15 F, fin_44_16 F, fin_44_17 F, fin_44_18 F, fin_44_21 F, fin_44_23 F, fin_44_24 F, fin_44_25 F, fin_44_29 F, fin_44_33 F, e6, g20, g4, g8, g12, g16, show ¬ 20 ≤ i from by omega, show 4 ≤ i from by omega, show 8 ≤ i from by omega, show ¬ 12 ≤ i from by omega, show ¬ (4 : Int32) = 0 from by decide, r1, r2, r3, a3, a4, nI_1, nar_b, by1, pCX9_feed, pSX9_feed, pOX9_feed, pLX9_feed, kl_I, kl_J, kl_R, kl_T, kl_N, Nat.le_refl, Nat.zero_le, List.map_nil, List.map_cons, List.sum_nil, List.sum_cons, c_I, c_J, c_R, c_T, va_rf, hI_wI, hJ_wJ, hR_wR, hI_J, hI_R, hJ_I, hJ_R, hR_I, hR_J, hN_I, hN_J, hN_R, wI_I, wJ_J, upd_at, updL_at, kR_s, Option.toList, List.append_nil, List.nil_append, List.cons_append, if_true, if_false, reduceIte, Bool.false_eq_true, not_true_eq_false, not_false_eq_true, true_and, and_true, false_and, and_false, true_or, or_true,  Nat.reduceEqDiff, Nat.reduceAdd, Nat.reduceLeDiff]
    rw [rX9_feed_111, nI_1]
    simp (implicitDefEqProofs := false) only [rX9_feed_114, kl_I, kl_J, kl_R, kl_T, kl_N, Nat.le_refl, Nat.zero_le, List.map_nil, List.map_cons, List.sum_nil, List.sum_cons, c_I, c_J, c_R, c_T, va_rf, hI_wI, hJ_wJ, hR_wR, hI_J, hI_R, hJ_I, hJ_R, hR_I, hR_J, hN_I, hN_J, hN_R, wI_I, wJ_J, upd_at, updL_at, kR_s, Option.toList, List.append_nil, List.nil_append, List.cons_append, if_true, if_false, reduceIte, Bool.false_eq_true, not_true_eq_false, not_false_eq_true, true_and, and_true, false_and, and_false, true_or, or_true,  Nat.reduceEqDiff, Nat.reduceAdd, Nat.reduceLeDiff]
    exact hX
  · have fv : fV a b c d e i = d := by unfold fV; rw [if_neg (by omega)]; rw [if_neg (by omega)]; rw [if_neg (by omega)]; rw [if_pos (by omega)]
    rw [fv] at hX
    unfold by1 at hX
    simp (implicitDefEqProofs := false) only [rX9_feed_23, rX9_feed_25, rX9_feed_27, rX9_feed_30, rX9_feed_32, rX9_feed_33, rX9_feed_36, rX9_feed_37, rX9_feed_40, rX9_feed_42, rX9_feed_44, rX9_feed_47, rX9_feed_48, rX9_feed_51, rX9_feed_53, rX9_feed_55, rX9_feed_58, rX9_feed_59, rX9_feed_62, rX9_feed_64, rX9_feed_66, rX9_feed_69, rX9_feed_71, rX9_feed_74, rX9_feed_76, rX9_feed_78, rX9_feed_78b, rX9_feed_79, rX9_feed_82, rX9_feed_82b, rX9_feed_83, rX9_feed_86, rX9_feed_88, rX9_feed_90, rX9_feed_92, rX9_feed_94, rX9_feed_95, rX9_feed_96, rX9_feed_97, rX9_feed_98, rX9_feed_99, rX9_feed_100, rX9_feed_101, rX9_feed_101b, rX9_feed_102, rX9_feed_102b, rX9_feed_103, rX9_feed_106, rX9_feed_107, rX9_feed_108, kA_44, kB_44, kA_45, kB_45, fin_44_5 F, fin_44_15 F, fin_44_16 F, fin_44_17 F, fin_44_18 F, fin_44_21 F, fin_44_23 F, fin_44_24 F, fin_44_25 F, fin_44_29 F, fin_44_33 F, e6, g20, g4, g8, g12, g16, show ¬ 20 ≤ i from by omega, show 4 ≤ i from by omega, show 8 ≤ i from by omega, show 12 ≤ i from by omega, show ¬ 16 ≤ i from by omega, show ¬ (4 : Int32) = 0 from by decide, r1, r2, r3, a3, a4, nI_1, nar_b, by1, pCX9_feed, pSX9_feed, pOX9_feed, pLX9_feed, kl_I, kl_J, kl_R, kl_T, kl_N, Nat.le_refl, Nat.zero_le, List.map_nil, List.map_cons, List.sum_nil, List.sum_cons, c_I, c_J, c_R, c_T, va_rf, hI_wI, hJ_wJ, hR_wR, hI_J, hI_R, hJ_I, hJ_R, hR_I, hR_J, hN_I, hN_J, hN_R, wI_I, wJ_J, upd_at, updL_at, kR_s, Option.toList, List.append_nil, List.nil_append, List.cons_append, if_true, if_false, reduceIte, Bool.false_eq_true, not_true_eq_false, not_false_eq_true, true_and, and_true, false_and, and_false, true_or, or_true,  Nat.reduceEqDiff, Nat.reduceAdd, Nat.reduceLeDiff]
    rw [rX9_feed_111, nI_1]
    simp (implicitDefEqProofs := false) only [rX9_feed_114, kl_I, kl_J, kl_R, kl_T, kl_N, Nat.le_refl, Nat.zero_le, List.map_nil, List.map_cons, List.sum_nil, List.sum_cons, c_I, c_J, c_R, c_T, va_rf, hI_wI, hJ_wJ, hR_wR, hI_J, hI_R, hJ_I, hJ_R, hR_I, hR_J, hN_I, hN_J, hN_R, wI_I, wJ_J, upd_at, updL_at, kR_s, Option.toList, List.append_nil, List.nil_append, List.cons_append, if_true, if_false, reduceIte, Bool.false_eq_true, not_true_eq_false, not_false_eq_true, true_and, and_true, false_and, and_false, true_or, or_true,  Nat.reduceEqDiff, Nat.reduceAdd, Nat.reduceLeDiff]
    exact hX
  · have fv : fV a b c d e i = e := by unfold fV; rw [if_neg (by omega)]; rw [if_neg (by omega)]; rw [if_neg (by omega)]; rw [if_neg (by omega)]
    rw [fv] at hX
    unfold by1 at hX
    simp (implicitDefEqProofs := false) only [rX9_feed_23, rX9_feed_25, rX9_feed_27, rX9_feed_30, rX9_feed_32, rX9_feed_33, rX9_feed_36, rX9_feed_37, rX9_feed_40, rX9_feed_42, rX9_feed_44, rX9_feed_47, rX9_feed_48, rX9_feed_51, rX9_feed_53, rX9_feed_55, rX9_feed_58, rX9_feed_59, rX9_feed_62, rX9_feed_64, rX9_feed_66, rX9_feed_69, rX9_feed_71, rX9_feed_74, rX9_feed_76, rX9_feed_78, rX9_feed_78b, rX9_feed_79, rX9_feed_82, rX9_feed_82b, rX9_feed_83, rX9_feed_86, rX9_feed_88, rX9_feed_90, rX9_feed_92, rX9_feed_94, rX9_feed_95, rX9_feed_96, rX9_feed_97, rX9_feed_98, rX9_feed_99, rX9_feed_100, rX9_feed_101, rX9_feed_101b, rX9_feed_102, rX9_feed_102b, rX9_feed_103, rX9_feed_106, rX9_feed_107, rX9_feed_108, kA_44, kB_44, kA_45, kB_45, fin_44_5 F, fin_44_15 F, fin_44_16 F, fin_44_17 F, fin_44_18 F, fin_44_21 F, fin_44_23 F, fin_44_24 F, fin_44_25 F, fin_44_29 F, fin_44_33 F, e6, g20, g4, g8, g12, g16, show ¬ 20 ≤ i from by omega, show 4 ≤ i from by omega, show 8 ≤ i from by omega, show 12 ≤ i from by omega, show 16 ≤ i from by omega, show ¬ (4 : Int32) = 0 from by decide, r1, r2, r3, a3, a4, nI_1, nar_b, by1, pCX9_feed, pSX9_feed, pOX9_feed, pLX9_feed, kl_I, kl_J, kl_R, kl_T, kl_N, Nat.le_refl, Nat.zero_le, List.map_nil, List.map_cons, List.sum_nil, List.sum_cons, c_I, c_J, c_R, c_T, va_rf, hI_wI, hJ_wJ, hR_wR, hI_J, hI_R, hJ_I, hJ_R, hR_I, hR_J, hN_I, hN_J, hN_R, wI_I, wJ_J, upd_at, updL_at, kR_s, Option.toList, List.append_nil, List.nil_append, List.cons_append, if_true, if_false, reduceIte, Bool.false_eq_true, not_true_eq_false, not_false_eq_true, true_and, and_true, false_and, and_false, true_or, or_true,  Nat.reduceEqDiff, Nat.reduceAdd, Nat.reduceLeDiff]
    rw [rX9_feed_111, nI_1]
    simp (implicitDefEqProofs := false) only [rX9_feed_114, kl_I, kl_J, kl_R, kl_T, kl_N, Nat.le_refl, Nat.zero_le, List.map_nil, List.map_cons, List.sum_nil, List.sum_cons, c_I, c_J, c_R, c_T, va_rf, hI_wI, hJ_wJ, hR_wR, hI_J, hI_R, hJ_I, hJ_R, hR_I, hR_J, hN_I, hN_J, hN_R, wI_I, wJ_J, upd_at, updL_at, kR_s, Option.toList, List.append_nil, List.nil_append, List.cons_append, if_true, if_false, reduceIte, Bool.false_eq_true, not_true_eq_false, not_false_eq_true, true_and, and_true, false_and, and_false, true_or, or_true,  Nat.reduceEqDiff, Nat.reduceAdd, Nat.reduceLeDiff]
    exact hX
theorem l_fe {D : Nat} {h : qH} {n : Nat} {a b c d e : Int32} (F : Fin0 (hR h)) (hn : n + 20 ≤ 900) {Q : Option (Option Value) → qH → Prop} : ∀ (k i : Nat), i + k = 20 → ∀ (o7 : Option Value), WP D mX9_feed (0, 0) 23 [some (.ref (44 : Nat)), some (.int a), some (.int b), some (.int c), some (.int d), some (.int e), some (.int (nI i)), o7] [] (wI (wI h 45 (feR (hI h 45) n (fW a b c d e) i)) 44 (upd (hI h 44) 6 (nI (n + i)))) Q = Q (some (some (.int (nI (n + 20))))) (wI (wI h 45 (feR (hI h 45) n (fW a b c d e) 20)) 44 (upd (hI h 44) 6 (nI (n + 20)))) := by
  intro k
  induction k with
  | zero =>
    intro i hi o7
    obtain rfl : i = 20 := by omega
    simp (implicitDefEqProofs := false) only [rX9_feed_23, rX9_feed_25, rX9_feed_27, rX9_feed_117, rX9_feed_117b, rX9_feed_118, rX9_feed_121, kA_44, kB_44, show (20 : Int32) ≤ nI 20 from by decide, pCX9_feed, pSX9_feed, pOX9_feed, pLX9_feed, kl_I, kl_J, kl_R, kl_T, kl_N, Nat.le_refl, Nat.zero_le, List.map_nil, List.map_cons, List.sum_nil, List.sum_cons, c_I, c_J, c_R, c_T, va_rf, hI_wI, hJ_wJ, hR_wR, hI_J, hI_R, hJ_I, hJ_R, hR_I, hR_J, hN_I, hN_J, hN_R, wI_I, wJ_J, upd_at, updL_at, kR_s, Option.toList, List.append_nil, List.nil_append, List.cons_append, if_true, if_false, reduceIte, Bool.false_eq_true, not_true_eq_false, not_false_eq_true, true_and, and_true, false_and, and_false, true_or, or_true,  Nat.reduceEqDiff, Nat.reduceAdd, Nat.reduceLeDiff]
  | succ k ih =>
    intro i hi o7
    refine l_fe1 (D := D) (h := wI (wI h 45 (feR (hI h 45) n (fW a b c d e) i)) 44 (upd (hI h 44) 6 (nI (n + i)))) (n := n + i) (i := i) (a := a) (b := b) (c := c) (d := d) (e := e) (o7 := o7) (Q := Q) F (by rw [hI_wI, if_pos rfl, upd_at, if_pos rfl]) (by omega) (by omega) ?_
    rw [hI_wI, if_neg (by decide), hI_wI, if_pos rfl, hI_wI, if_pos rfl, upd_upd, wW5]
    exact ih (i + 1) (by omega) _
theorem m_feed {D : Nat} {h : qH} {S : AS} {a b c d e : Int32} (I : MI h S) : ms 0 D mX9_feed [.ref (44 : Nat), .int a, .int b, .int c, .int d, .int e] h (sFeed S a b c d e).1 (some (.int (sFeed S a b c d e).2)) := by
  have E : ∀ Q, WM D mX9_feed [.ref (44 : Nat), .int a, .int b, .int c, .int d, .int e] h Q = WP D mX9_feed (0, 0) 5 [some (.ref (44 : Nat)), some (.int a), some (.int b), some (.int c), some (.int d), some (.int e), none, none] [] (th h) Q := fun Q => by simp (implicitDefEqProofs := false) only [eX9_feed, rX9_feed_0, rX9_feed_0b, rX9_feed_1, rX9_feed_2, kA_44, kB_44, pCX9_feed, pSX9_feed, pOX9_feed, pLX9_feed, th, kl_I, kl_J, kl_R, kl_T, kl_N, Nat.le_refl, Nat.zero_le, List.map_nil, List.map_cons, List.sum_nil, List.sum_cons, c_I, c_J, c_R, c_T, va_rf, hI_wI, hJ_wJ, hR_wR, hI_J, hI_R, hJ_I, hJ_R, hR_I, hR_J, hN_I, hN_J, hN_R, wI_I, wJ_J, upd_at, updL_at, kR_s, Option.toList, List.append_nil, List.nil_append, List.cons_append, if_true, if_false, reduceIte, Bool.false_eq_true, not_true_eq_false, not_false_eq_true, true_and, and_true, false_and, and_false, true_or, or_true,  Nat.reduceEqDiff, Nat.reduceAdd, Nat.reduceLeDiff]
  rw [sFeed]
  have I1 := MI_th I
  have tp := I1.2.2.2.2.2.2.2.1
  have ad : nI (sTl S) + 20 = nI (sTl S + 20) := by rw [show (20 : Int32) = nI 20 from rfl, nI_add]
  have tl9 := tp.1
  have q : (nI (sTl S + 20) ≤ 900) = (sTl S + 20 ≤ 900) := nle (x := sTl S + 20) (k := 900) (c := 900) rfl (by omega) (by omega)
  by_cases c1 : 880 < sTl S
  · rw [if_pos c1]
    refine ⟨th h, fun Q => (E Q).trans ?_, kp_mf kp_th, I1⟩
    generalize th h = g at tp ⊢
    simp (implicitDefEqProofs := false) only [rX9_feed_5, rX9_feed_5b, rX9_feed_6, rX9_feed_9, rX9_feed_11, rX9_feed_12, rX9_feed_15, rX9_feed_18, rX9_feed_19, kA_44, kB_44, tp.2.1, ad, q, show ¬ sTl S + 20 ≤ 900 from by omega, pCX9_feed, pSX9_feed, pOX9_feed, pLX9_feed, kl_I, kl_J, kl_R, kl_T, kl_N, Nat.le_refl, Nat.zero_le, List.map_nil, List.map_cons, List.sum_nil, List.sum_cons, c_I, c_J, c_R, c_T, va_rf, hI_wI, hJ_wJ, hR_wR, hI_J, hI_R, hJ_I, hJ_R, hR_I, hR_J, hN_I, hN_J, hN_R, wI_I, wJ_J, upd_at, updL_at, kR_s, Option.toList, List.append_nil, List.nil_append, List.cons_append, if_true, if_false, reduceIte, Bool.false_eq_true, not_true_eq_false, not_false_eq_true, true_and, and_true, false_and, and_false, true_or, or_true,  Nat.reduceEqDiff, Nat.reduceAdd, Nat.reduceLeDiff]
  · rw [if_neg c1]
    have tf := mf_tr (kp_mf (kp_th (h := h))) (n := 0) (m := 0) (h2 := wI (wI (th h) 45 (feR (hI (th h) 45) (sTl S) (fW a b c d e) 20)) 44 (upd (hI (th h) 44) 6 (nI (sTl S + 20)))) ⟨rfl, fun z hz => ⟨by
      unfold SCR at hz
      rw [hI_wI, if_neg (by omega), hI_wI, if_neg (by omega)], rfl, rfl⟩⟩
    have l := fun Q => l_fe (D := D) (h := th h) (n := sTl S) (a := a) (b := b) (c := c) (d := d) (e := e) (Q := Q) I1.1 (by omega) 20 0 (by omega) none
    refine ⟨_, fun Q => (E Q).trans ?_, tf, ?_⟩
    · have l := l Q
      rw [Nat.add_zero, feR, wI_same, ← tp.2.1, upd_id, wI_same] at l
      generalize th h = g at tp l ⊢
      simp (implicitDefEqProofs := false) only [rX9_feed_5, rX9_feed_5b, rX9_feed_6, rX9_feed_9, rX9_feed_11, rX9_feed_12, rX9_feed_15, rX9_feed_18, rX9_feed_19, rX9_feed_20, rX9_feed_21, kA_44, kB_44, tp.2.1, ad, q, show sTl S + 20 ≤ 900 from by omega, pCX9_feed, pSX9_feed, pOX9_feed, pLX9_feed, kl_I, kl_J, kl_R, kl_T, kl_N, Nat.le_refl, Nat.zero_le, List.map_nil, List.map_cons, List.sum_nil, List.sum_cons, c_I, c_J, c_R, c_T, va_rf, hI_wI, hJ_wJ, hR_wR, hI_J, hI_R, hJ_I, hJ_R, hR_I, hR_J, hN_I, hN_J, hN_R, wI_I, wJ_J, upd_at, updL_at, kR_s, Option.toList, List.append_nil, List.nil_append, List.cons_append, if_true, if_false, reduceIte, Bool.false_eq_true, not_true_eq_false, not_false_eq_true, true_and, and_true, false_and, and_false, true_or, or_true,  Nat.reduceEqDiff, Nat.reduceAdd, Nat.reduceLeDiff]
      rw [← nI_0]
      exact l
    · generalize th h = g at I1 ⊢
      clear l tf tp E I
      obtain ⟨F, bd, st, v, pa, im, e22, tp, en⟩ := I1
      have f44 : ∀ j, j ≠ 6 → hI (wI (wI g 45 (feR (hI g 45) (sTl S) (fW a b c d e) 20)) 44 (upd (hI g 44) 6 (nI (sTl S + 20)))) 44 j = hI g 44 j := fun j hj => by rw [hI_wI, if_pos rfl, upd_at, if_neg hj]
      have fo : ∀ x, x ≠ 44 → x ≠ 45 → hI (wI (wI g 45 (feR (hI g 45) (sTl S) (fW a b c d e) 20)) 44 (upd (hI g 44) 6 (nI (sTl S + 20)))) x = hI g x := fun x h1 h2 => by rw [hI_wI, if_neg h1, hI_wI, if_neg h2]
      refine ⟨F, bd, ?_, by rw [fo 46 (by decide) (by decide)]; exact v, pP_mv pa (f44 19 (by decide)) (fo 48 (by decide) (by decide)), pI_mv im (f44 20 (by decide)) (fo 49 (by decide) (by decide)), by rw [f44 22 (by decide)]; exact e22, ⟨by show sTl S + 20 ≤ 900; omega, ?_, fun i hi => ?_⟩, by rw [f44 12 (by decide)]; exact en.1, by rw [f44 1 (by decide)]; exact en.2.1, by rw [f44 2 (by decide)]; exact en.2.2⟩
      · rcases st with ⟨n1, n2, n3⟩ | ⟨n1, s, n2, n3, n4⟩
        · exact .inl ⟨n1, n2, n3⟩
        · refine .inr ⟨n1, s, n2, mSt_mv n3 rfl (fun k hk => ?_), n4⟩
          obtain ⟨j, ej, -⟩ := n3.1
          exact fo _ (by omega) (by omega)
      · rw [hI_wI, if_pos rfl, upd_at, if_pos rfl]; rfl
      · rw [hI_wI, if_neg (by decide), hI_wI, if_pos rfl, feR_20]
        exact by4_cong (by4_cong (by4_cong (by4_cong (by4_cong tp.2.2)))) i hi
/-- the low ones of a set -/
def lwS (c i : Nat) : Nat := bm (fun j => c.testBit j) i
theorem lw_all {c n : Nat} (h : c < 2 ^ n) : lwS c n = c := by
  apply Nat.eq_of_testBit_eq
  intro i
  unfold lwS
  rw [bm_bit]
  by_cases q : i < n
  · simp [q]
  · have : c.testBit i = false := Nat.testBit_lt_two_pow (Nat.lt_of_lt_of_le h (Nat.pow_le_pow_right (by omega) (by omega)))
    simp [q, this]
theorem lw_or {t c i : Nat} (h : c.testBit i = true) : t ||| lwS c (i + 1) = (t ||| lwS c i) ||| 2 ^ i := by
  unfold lwS
  rw [bm_t h, Nat.or_assoc]
theorem lw_no {t c i : Nat} (h : ¬ c.testBit i = true) : t ||| lwS c (i + 1) = t ||| lwS c i := by
  unfold lwS
  rw [bm_f h]
theorem lw_bit {t c i : Nat} : (t ||| lwS c i).testBit i = t.testBit i := by
  unfold lwS
  rw [Nat.testBit_or, bm_bit]
  simp
theorem lw_lt {t c i n : Nat} (ht : t < 2 ^ n) (hi : i ≤ n) : t ||| lwS c i < 2 ^ n := Nat.or_lt_two_pow ht (Nat.lt_of_lt_of_le (bm_lt _ _) (Nat.pow_le_pow_right (by omega) hi))
theorem l_tellsAll {d : Nat} {s c : Nat} {a : aS} {x : sT} (hx : x.1 < 2 ^ aN a) (hc : c < 64) : ∀ (m i : Nat), i + m = aN a → ∀ (h : qH) (_ : mK h s a) (_ : vF (hI h 47) a (x.1 ||| lwS c i, x.2)), ∃ h', (∀ Q, WP (d + 3) mX9_tellsAll (0, 0) 2 [some (.ref (44 : Nat)), some (.int (nI c)), some (.int (nI i))] [] h Q = Q (some none) h') ∧ sx [47, 50] h h' ∧ vF (hI h' 47) a (x.1 ||| lwS c (aN a), x.2) ∧ atR h' a (dayN a (x.1 ||| lwS c (aN a))) := by
  intro m
  induction m with
  | zero =>
    intro i hi h k v
    obtain rfl : i = aN a := by omega
    have hs := k.2.2.1.1
    obtain ⟨h', e, y, t⟩ := c_bA (d := d) k v
    refine ⟨h', fun Q => ?_, sx_mono y (by simp), by rw [y.2.2.2 47 (by simp)]; exact v, t⟩
    simp (implicitDefEqProofs := false) only [rX9_tellsAll_2, rX9_tellsAll_3, rX9_tellsAll_3b, rX9_tellsAll_4, rX9_tellsAll_7, rX9_tellsAll_10, rX9_tellsAll_13, rX9_tellsAll_14, rX9_tellsAll_15, rX9_tellsAll_18, rX9_tellsAll_21, rX9_tellsAll_21b, rX9_tellsAll_22, rX9_tellsAll_25, rX9_tellsAll_27, rX9_tellsAll_28, rX9_tellsAll_29, rX9_tellsAll_32, rX9_tellsAll_35, rX9_tellsAll_136, rX9_tellsAll_136b, rX9_tellsAll_137, rX9_tellsAll_140, kA_44, kB_44, kU0 hs, nU hs, k.2.1, k.2.2.1.2.2.2.1.2.1, e, pCX9_tellsAll, pSX9_tellsAll, pOX9_tellsAll, pLX9_tellsAll, pCX9_burnsAll, pSX9_burnsAll, pOX9_burnsAll, pLX9_burnsAll, Int32.le_refl, kl_I, kl_J, kl_R, kl_T, kl_N, Nat.le_refl, Nat.zero_le, List.map_nil, List.map_cons, List.sum_nil, List.sum_cons, c_I, c_J, c_R, c_T, va_rf, hI_wI, hJ_wJ, hR_wR, hI_J, hI_R, hJ_I, hJ_R, hR_I, hR_J, hN_I, hN_J, hN_R, wI_I, wJ_J, upd_at, updL_at, kR_s, Option.toList, List.append_nil, List.nil_append, List.cons_append, if_true, if_false, reduceIte, Bool.false_eq_true, not_true_eq_false, not_false_eq_true, true_and, and_true, false_and, and_false, true_or, or_true,  Nat.reduceEqDiff, Nat.reduceAdd, Nat.reduceLeDiff]
  | succ m ih =>
    intro i hi h k v
    have hs := k.2.2.1.1
    have h6 := k.2.2.1.2.2.1.1
    have p64 := p6 h6
    have F := k.1
    have hlt : i < aN a := by omega
    have g1 : ¬ nI (aN a) ≤ nI i := nI_ge hlt (by omega)
    have bt := c_mbit (d := d + 2) (h := h) (t := c) (j := i) (by omega) (by omega)
    have tl := lw_lt (c := c) (i := i) hx (by omega)
    have bt2 := c_mbit (d := d + 2) (h := h) (t := x.1 ||| lwS c i) (j := i) (by omega) (by omega)
    rw [lw_bit] at bt2
    have v7 : vp_in 7 10 := nI_vp (i := 7) (by omega) (by decide)
    have cl7 : (7 : Int32).toNatClampNeg = 7 := rfl
    by_cases c1 : c.testBit i = true
    · rw [c1] at bt
      cases c2 : x.1.testBit i with
      | true =>
        rw [c2] at bt2
        have e : x.1 ||| lwS c (i + 1) = x.1 ||| lwS c i := by rw [lw_or c1, or_same (by rw [lw_bit]; exact c2)]
        obtain ⟨h', e2, y, u, t⟩ := ih (i + 1) (by omega) h k (by rw [e]; exact v)
        refine ⟨h', fun Q => ?_, y, u, t⟩
        simp (implicitDefEqProofs := false) only [rX9_tellsAll_2, rX9_tellsAll_3, rX9_tellsAll_3b, rX9_tellsAll_4, rX9_tellsAll_7, rX9_tellsAll_10, rX9_tellsAll_13, rX9_tellsAll_14, rX9_tellsAll_15, rX9_tellsAll_18, rX9_tellsAll_21, rX9_tellsAll_21b, rX9_tellsAll_22, rX9_tellsAll_25, rX9_tellsAll_27, rX9_tellsAll_28, rX9_tellsAll_29, rX9_tellsAll_32, rX9_tellsAll_35, kA_44, kB_44, kA_47, kB_47, fin_44_5 F, fin_44_15 F, fin_44_16 F, fin_44_17 F, fin_44_18 F, fin_44_21 F, fin_44_23 F, fin_44_24 F, fin_44_25 F, fin_44_29 F, fin_44_33 F, kU0 hs, nU hs, k.2.1, k.2.2.1.2.2.2.1.2.1, g1, bt, bI_t, show ¬ (1 : Int32) = 0 from by decide, v7, cl7, v.2.2.1, bt2, pCX9_tellsAll, pSX9_tellsAll, pOX9_tellsAll, pLX9_tellsAll, pCX9_bit, pSX9_bit, pOX9_bit, pLX9_bit, kl_I, kl_J, kl_R, kl_T, kl_N, Nat.le_refl, Nat.zero_le, List.map_nil, List.map_cons, List.sum_nil, List.sum_cons, c_I, c_J, c_R, c_T, va_rf, hI_wI, hJ_wJ, hR_wR, hI_J, hI_R, hJ_I, hJ_R, hR_I, hR_J, hN_I, hN_J, hN_R, wI_I, wJ_J, upd_at, updL_at, kR_s, Option.toList, List.append_nil, List.nil_append, List.cons_append, if_true, if_false, reduceIte, Bool.false_eq_true, not_true_eq_false, not_false_eq_true, true_and, and_true, false_and, and_false, true_or, or_true,  Nat.reduceEqDiff, Nat.reduceAdd, Nat.reduceLeDiff]
        rw [rX9_tellsAll_130, nI_1]
        simp (implicitDefEqProofs := false) only [rX9_tellsAll_133, kl_I, kl_J, kl_R, kl_T, kl_N, Nat.le_refl, Nat.zero_le, List.map_nil, List.map_cons, List.sum_nil, List.sum_cons, c_I, c_J, c_R, c_T, va_rf, hI_wI, hJ_wJ, hR_wR, hI_J, hI_R, hJ_I, hJ_R, hR_I, hR_J, hN_I, hN_J, hN_R, wI_I, wJ_J, upd_at, updL_at, kR_s, Option.toList, List.append_nil, List.nil_append, List.cons_append, if_true, if_false, reduceIte, Bool.false_eq_true, not_true_eq_false, not_false_eq_true, true_and, and_true, false_and, and_false, true_or, or_true,  Nat.reduceEqDiff, Nat.reduceAdd, Nat.reduceLeDiff]
        exact e2 Q
      | false =>
        rw [c2] at bt2
        obtain ⟨G, vG, eG⟩ := l_tl_tellsAll (d := d + 3) (y0 := nI c) F k.2.1 k.2.2.1 v hlt (by simp only; omega) (by rw [lw_bit]; exact c2)
        have x1 : sx [47] h (wI h 47 G) := sx_w sx_refl (by simp)
        have v1 : vF (hI (wI h 47 G) 47) a (x.1 ||| lwS c (i + 1), x.2) := by rw [hI_wI, if_pos rfl, lw_or c1]; exact vG
        obtain ⟨h', e2, y, u, t⟩ := ih (i + 1) (by omega) (wI h 47 G) (mK_sx k x1 (by decide)) v1
        refine ⟨h', fun Q => ?_, sx_trans (sx_mono x1 (by simp)) y, u, t⟩
        simp (implicitDefEqProofs := false) only [rX9_tellsAll_2, rX9_tellsAll_3, rX9_tellsAll_3b, rX9_tellsAll_4, rX9_tellsAll_7, rX9_tellsAll_10, rX9_tellsAll_13, rX9_tellsAll_14, rX9_tellsAll_15, rX9_tellsAll_18, rX9_tellsAll_21, rX9_tellsAll_21b, rX9_tellsAll_22, rX9_tellsAll_25, rX9_tellsAll_27, rX9_tellsAll_28, rX9_tellsAll_29, rX9_tellsAll_32, rX9_tellsAll_35, kA_44, kB_44, kA_47, kB_47, fin_44_5 F, fin_44_15 F, fin_44_16 F, fin_44_17 F, fin_44_18 F, fin_44_21 F, fin_44_23 F, fin_44_24 F, fin_44_25 F, fin_44_29 F, fin_44_33 F, kU0 hs, nU hs, k.2.1, k.2.2.1.2.2.2.1.2.1, g1, bt, bI_t, bI_f, show ¬ (1 : Int32) = 0 from by decide, v7, cl7, v.2.2.1, bt2, pCX9_tellsAll, pSX9_tellsAll, pOX9_tellsAll, pLX9_tellsAll, pCX9_bit, pSX9_bit, pOX9_bit, pLX9_bit, kl_I, kl_J, kl_R, kl_T, kl_N, Nat.le_refl, Nat.zero_le, List.map_nil, List.map_cons, List.sum_nil, List.sum_cons, c_I, c_J, c_R, c_T, va_rf, hI_wI, hJ_wJ, hR_wR, hI_J, hI_R, hJ_I, hJ_R, hR_I, hR_J, hN_I, hN_J, hN_R, wI_I, wJ_J, upd_at, updL_at, kR_s, Option.toList, List.append_nil, List.nil_append, List.cons_append, if_true, if_false, reduceIte, Bool.false_eq_true, not_true_eq_false, not_false_eq_true, true_and, and_true, false_and, and_false, true_or, or_true,  Nat.reduceEqDiff, Nat.reduceAdd, Nat.reduceLeDiff]
        rw [eG, rX9_tellsAll_130, nI_1]
        simp (implicitDefEqProofs := false) only [rX9_tellsAll_133, kl_I, kl_J, kl_R, kl_T, kl_N, Nat.le_refl, Nat.zero_le, List.map_nil, List.map_cons, List.sum_nil, List.sum_cons, c_I, c_J, c_R, c_T, va_rf, hI_wI, hJ_wJ, hR_wR, hI_J, hI_R, hJ_I, hJ_R, hR_I, hR_J, hN_I, hN_J, hN_R, wI_I, wJ_J, upd_at, updL_at, kR_s, Option.toList, List.append_nil, List.nil_append, List.cons_append, if_true, if_false, reduceIte, Bool.false_eq_true, not_true_eq_false, not_false_eq_true, true_and, and_true, false_and, and_false, true_or, or_true,  Nat.reduceEqDiff, Nat.reduceAdd, Nat.reduceLeDiff]
        exact e2 Q
    · have c1' : c.testBit i = false := by simpa using c1
      rw [c1'] at bt
      obtain ⟨h', e2, y, u, t⟩ := ih (i + 1) (by omega) h k (by rw [lw_no c1]; exact v)
      refine ⟨h', fun Q => ?_, y, u, t⟩
      simp (implicitDefEqProofs := false) only [rX9_tellsAll_2, rX9_tellsAll_3, rX9_tellsAll_3b, rX9_tellsAll_4, rX9_tellsAll_7, rX9_tellsAll_10, rX9_tellsAll_13, rX9_tellsAll_14, rX9_tellsAll_15, rX9_tellsAll_18, rX9_tellsAll_21, rX9_tellsAll_21b, rX9_tellsAll_22, rX9_tellsAll_25, rX9_tellsAll_27, rX9_tellsAll_28, rX9_tellsAll_29, rX9_tellsAll_32, rX9_tellsAll_35, kA_44, kB_44, kA_47, kB_47, fin_44_5 F, fin_44_15 F, fin_44_16 F, fin_44_17 F, fin_44_18 F, fin_44_21 F, fin_44_23 F, fin_44_24 F, fin_44_25 F, fin_44_29 F, fin_44_33 F, kU0 hs, nU hs, k.2.1, k.2.2.1.2.2.2.1.2.1, g1, bt, bI_f, pCX9_tellsAll, pSX9_tellsAll, pOX9_tellsAll, pLX9_tellsAll, pCX9_bit, pSX9_bit, pOX9_bit, pLX9_bit, kl_I, kl_J, kl_R, kl_T, kl_N, Nat.le_refl, Nat.zero_le, List.map_nil, List.map_cons, List.sum_nil, List.sum_cons, c_I, c_J, c_R, c_T, va_rf, hI_wI, hJ_wJ, hR_wR, hI_J, hI_R, hJ_I, hJ_R, hR_I, hR_J, hN_I, hN_J, hN_R, wI_I, wJ_J, upd_at, updL_at, kR_s, Option.toList, List.append_nil, List.nil_append, List.cons_append, if_true, if_false, reduceIte, Bool.false_eq_true, not_true_eq_false, not_false_eq_true, true_and, and_true, false_and, and_false, true_or, or_true,  Nat.reduceEqDiff, Nat.reduceAdd, Nat.reduceLeDiff]
      rw [rX9_tellsAll_130, nI_1]
      simp (implicitDefEqProofs := false) only [rX9_tellsAll_133, kl_I, kl_J, kl_R, kl_T, kl_N, Nat.le_refl, Nat.zero_le, List.map_nil, List.map_cons, List.sum_nil, List.sum_cons, c_I, c_J, c_R, c_T, va_rf, hI_wI, hJ_wJ, hR_wR, hI_J, hI_R, hJ_I, hJ_R, hR_I, hR_J, hN_I, hN_J, hN_R, wI_I, wJ_J, upd_at, updL_at, kR_s, Option.toList, List.append_nil, List.nil_append, List.cons_append, if_true, if_false, reduceIte, Bool.false_eq_true, not_true_eq_false, not_false_eq_true, true_and, and_true, false_and, and_false, true_or, or_true,  Nat.reduceEqDiff, Nat.reduceAdd, Nat.reduceLeDiff]
      exact e2 Q
theorem c_tellsAll {d : Nat} {h : qH} {s c : Nat} {a : aS} {x : sT} (k : mK h s a) (v : vF (hI h 47) a x) (hx : x.1 < 2 ^ aN a) (hc : c < 2 ^ aN a) : ∃ h', (∀ Q, WM (d + 3) mX9_tellsAll [.ref (44 : Nat), .int (nI c)] h Q = Q (some none) h') ∧ sx [47, 50] h h' ∧ vF (hI h' 47) a (x.1 ||| c, x.2) ∧ atR h' a (dayN a (x.1 ||| c)) := by
  have p64 := p6 k.2.2.1.2.2.1.1
  have l0 : x.1 ||| lwS c 0 = x.1 := by show x.1 ||| 0 = x.1; simp
  obtain ⟨h', e2, y, u, t⟩ := l_tellsAll (d := d) (c := c) hx (by omega) (aN a) 0 (by omega) h k (by rw [l0]; exact v)
  rw [lw_all hc] at u t
  refine ⟨h', fun Q => ?_, y, u, t⟩
  simp (implicitDefEqProofs := false) only [eX9_tellsAll, rX9_tellsAll_0, rX9_tellsAll_1, kl_I, kl_J, kl_R, kl_T, kl_N, Nat.le_refl, Nat.zero_le, List.map_nil, List.map_cons, List.sum_nil, List.sum_cons, c_I, c_J, c_R, c_T, va_rf, hI_wI, hJ_wJ, hR_wR, hI_J, hI_R, hJ_I, hJ_R, hR_I, hR_J, hN_I, hN_J, hN_R, wI_I, wJ_J, upd_at, updL_at, kR_s, Option.toList, List.append_nil, List.nil_append, List.cons_append, if_true, if_false, reduceIte, Bool.false_eq_true, not_true_eq_false, not_false_eq_true, true_and, and_true, false_and, and_false, true_or, or_true,  Nat.reduceEqDiff, Nat.reduceAdd, Nat.reduceLeDiff]
  exact e2 Q
set_option maxHeartbeats 1000000 in
theorem l_msafe {d : Nat} {s al y : Nat} {a : aS} {x : sT} (hx : x.1 < 2 ^ aN a) (hal : al < 64) (hy : y ≤ 90) : ∀ (m i : Nat), i + m = 2 ^ aN a → ∀ (h : qH) (bo : Option Nat) (fw : Nat) (o2 : Option Value) (_ : mK h s a) (_ : vF (hI h 46) a x) (_ : (bo = none ∧ fw = 7) ∨ ∃ b, bo = some b ∧ b < 64 ∧ fw = popc 6 b), ∃ h1, (∀ Q, WP (d + 4) mX9_safe (0, 0) 57 [some (.ref (44 : Nat)), some (.int (nI y)), o2, some (.int (nI al)), some (.int (oI bo)), some (.int (nI i))] [] h Q = Q (some (some (.int (oI (sfL a x.1 al y m i bo fw))))) (tm h1 0)) ∧ kp h h1 := by
  intro m
  induction m with
  | zero =>
    intro i hi h bo fw o2 k v hb
    obtain rfl : i = 2 ^ aN a := by omega
    have hs := k.2.2.1.1
    have h6 := k.2.2.1.2.2.1.1
    refine ⟨h, fun Q => ?_, kp_refl⟩
    simp (implicitDefEqProofs := false) only [rX9_safe_57, rX9_safe_59, rX9_safe_60, rX9_safe_60b, rX9_safe_61, rX9_safe_64, rX9_safe_67, rX9_safe_68, rX9_safe_71, rX9_safe_73, rX9_safe_74, rX9_safe_75, rX9_safe_78, rX9_safe_80, rX9_safe_82, rX9_safe_85, rX9_safe_87, rX9_safe_90, rX9_safe_92, rX9_safe_95, rX9_safe_98, rX9_safe_101, rX9_safe_101b, rX9_safe_102, rX9_safe_105, rX9_safe_105b, rX9_safe_106, rX9_safe_108, rX9_safe_111, rX9_safe_111b, rX9_safe_112, rX9_safe_113, rX9_safe_116, rX9_safe_117, rX9_safe_118, rX9_safe_119, rX9_safe_120, rX9_safe_123, rX9_safe_125, rX9_safe_133, rX9_safe_133b, rX9_safe_134, rX9_safe_136, rX9_safe_139, kA_44, kB_44, kU0 hs, nU hs, k.2.1, k.2.2.1.2.2.2.1.2.1, bt_shl (j := aN a) (by omega), c_mgood, pCX9_safe, pSX9_safe, pOX9_safe, pLX9_safe, pCX9_good, pSX9_good, pOX9_good, pLX9_good, Int32.le_refl, sfL, kl_I, kl_J, kl_R, kl_T, kl_N, Nat.le_refl, Nat.zero_le, List.map_nil, List.map_cons, List.sum_nil, List.sum_cons, c_I, c_J, c_R, c_T, va_rf, hI_wI, hJ_wJ, hR_wR, hI_J, hI_R, hJ_I, hJ_R, hR_I, hR_J, hN_I, hN_J, hN_R, wI_I, wJ_J, upd_at, updL_at, kR_s, Option.toList, List.append_nil, List.nil_append, List.cons_append, if_true, if_false, reduceIte, Bool.false_eq_true, not_true_eq_false, not_false_eq_true, true_and, and_true, false_and, and_false, true_or, or_true,  Nat.reduceEqDiff, Nat.reduceAdd, Nat.reduceLeDiff]
  | succ m ih =>
    intro i hi h bo fw o2 k v hb
    have hs := k.2.2.1.1
    have ww := k.2.2.1.2.2.1
    have h6 := ww.1
    have p64 := p6 h6
    have F := k.1
    have hlt : i < 2 ^ aN a := by omega
    have g1 : ¬ nI (2 ^ aN a) ≤ nI i := nI_ge hlt (by omega)
    have sh := bt_shl (j := aN a) (by omega)
    have al0 : i &&& al ≤ i := Nat.and_le_left
    have q1 : (nI (i &&& al) = 0) = (i &&& al = 0) := nq (x := i &&& al) (k := 0) (c := 0) rfl (by omega) (by omega)
    have pl := popc_le 6 i
    have bi := c_mbits (d := d + 3) (h := h) (x := i) (by omega)
    rw [sfL]
    by_cases c1 : i &&& al = 0
    · obtain ⟨h1, e1, x1, u1, a1⟩ := c_finds (d := d) k v
      have k1 := mK_sx k x1 (by decide)
      obtain ⟨h2, e2, x2, u2, a2⟩ := c_tellsAll (d := d) (c := i) k1 u1 hx hlt
      have k2 := mK_sx k1 x2 (by decide)
      have bb := c_mbb (d := d + 3) (y := y) k2.1 k2.2.1 k2.2.2.1 a2 (by omega)
      have v2 : vF (hI h2 46) a x := by rw [x2.2.2.2 46 (by decide), x1.2.2.2 46 (by decide)]; exact v
      have kk : kp h h2 := kp_tr (kp_sx x1 (by decide)) (kp_sx x2 (by decide))
      have b6 := bbN_lt ww (t := x.1 ||| i) (y := y)
      have q3 : (nI (bbN a (x.1 ||| i) y) &&& (nI al ^^^ (-1)) = 0) = (bbN a (x.1 ||| i) y &&& al = bbN a (x.1 ||| i) y) := propext (nal _ b6 _ hal)
      have bb : ∀ Q, WM (d + 3) mX9_burntBy [.ref (44 : Nat), .int (nI y)] h2 Q = Q (some (some (.int (nI (bbN a (x.1 ||| i) y))))) h2 := bb
      rcases hb with ⟨rfl, rfl⟩ | ⟨b, rfl, hb6, rfl⟩
      · have nn := nN (x := i) (k := 0) (by omega)
        by_cases c3 : bbN a (x.1 ||| i) y &&& al = bbN a (x.1 ||| i) y
        · rw [if_pos ⟨c1, by omega, c3⟩]
          obtain ⟨h3, e3, kp3⟩ := ih (i + 1) (by omega) h2 (some i) (popc 6 i) o2 k2 v2 (.inr ⟨i, rfl, by omega, rfl⟩)
          refine ⟨h3, fun Q => ?_, kp_tr kk kp3⟩
          have e3 := e3 Q
          simp (implicitDefEqProofs := false) only [rX9_safe_57, rX9_safe_59, rX9_safe_60, rX9_safe_60b, rX9_safe_61, rX9_safe_64, rX9_safe_67, rX9_safe_68, rX9_safe_71, rX9_safe_73, rX9_safe_74, rX9_safe_75, rX9_safe_78, rX9_safe_80, rX9_safe_82, rX9_safe_85, rX9_safe_87, rX9_safe_90, rX9_safe_92, rX9_safe_95, rX9_safe_98, rX9_safe_101, rX9_safe_101b, rX9_safe_102, rX9_safe_105, rX9_safe_105b, rX9_safe_106, rX9_safe_108, rX9_safe_111, rX9_safe_111b, rX9_safe_112, rX9_safe_113, rX9_safe_116, rX9_safe_117, rX9_safe_118, rX9_safe_119, rX9_safe_120, rX9_safe_123, rX9_safe_125, kA_44, kB_44, kU0 hs, nU hs, k.2.1, k.2.2.1.2.2.2.1.2.1, sh, g1, bt_and, q1, c1, nI_0, oI_no, e1, e2, bb, q3, c3, pCX9_safe, pSX9_safe, pOX9_safe, pLX9_safe, pCX9_bits, pSX9_bits, pOX9_bits, pLX9_bits, pCX9_finds, pSX9_finds, pOX9_finds, pLX9_finds, pCX9_tellsAll, pSX9_tellsAll, pOX9_tellsAll, pLX9_tellsAll, pCX9_burntBy, pSX9_burntBy, pOX9_burntBy, pLX9_burntBy, kl_I, kl_J, kl_R, kl_T, kl_N, Nat.le_refl, Nat.zero_le, List.map_nil, List.map_cons, List.sum_nil, List.sum_cons, c_I, c_J, c_R, c_T, va_rf, hI_wI, hJ_wJ, hR_wR, hI_J, hI_R, hJ_I, hJ_R, hR_I, hR_J, hN_I, hN_J, hN_R, wI_I, wJ_J, upd_at, updL_at, kR_s, Option.toList, List.append_nil, List.nil_append, List.cons_append, if_true, if_false, reduceIte, Bool.false_eq_true, not_true_eq_false, not_false_eq_true, true_and, and_true, false_and, and_false, true_or, or_true,  Nat.reduceEqDiff, Nat.reduceAdd, Nat.reduceLeDiff]
          rw [rX9_safe_127, nI_1]
          simp (implicitDefEqProofs := false) only [rX9_safe_130, kl_I, kl_J, kl_R, kl_T, kl_N, Nat.le_refl, Nat.zero_le, List.map_nil, List.map_cons, List.sum_nil, List.sum_cons, c_I, c_J, c_R, c_T, va_rf, hI_wI, hJ_wJ, hR_wR, hI_J, hI_R, hJ_I, hJ_R, hR_I, hR_J, hN_I, hN_J, hN_R, wI_I, wJ_J, upd_at, updL_at, kR_s, Option.toList, List.append_nil, List.nil_append, List.cons_append, if_true, if_false, reduceIte, Bool.false_eq_true, not_true_eq_false, not_false_eq_true, true_and, and_true, false_and, and_false, true_or, or_true,  Nat.reduceEqDiff, Nat.reduceAdd, Nat.reduceLeDiff]
          exact e3
        · rw [if_neg (fun z => c3 z.2.2)]
          obtain ⟨h3, e3, kp3⟩ := ih (i + 1) (by omega) h2 none 7 o2 k2 v2 (.inl ⟨rfl, rfl⟩)
          refine ⟨h3, fun Q => ?_, kp_tr kk kp3⟩
          have e3 := e3 Q
          simp (implicitDefEqProofs := false) only [rX9_safe_57, rX9_safe_59, rX9_safe_60, rX9_safe_60b, rX9_safe_61, rX9_safe_64, rX9_safe_67, rX9_safe_68, rX9_safe_71, rX9_safe_73, rX9_safe_74, rX9_safe_75, rX9_safe_78, rX9_safe_80, rX9_safe_82, rX9_safe_85, rX9_safe_87, rX9_safe_90, rX9_safe_92, rX9_safe_95, rX9_safe_98, rX9_safe_101, rX9_safe_101b, rX9_safe_102, rX9_safe_105, rX9_safe_105b, rX9_safe_106, rX9_safe_108, rX9_safe_111, rX9_safe_111b, rX9_safe_112, rX9_safe_113, rX9_safe_116, rX9_safe_117, rX9_safe_118, rX9_safe_119, rX9_safe_120, rX9_safe_123, rX9_safe_125, kA_44, kB_44, kU0 hs, nU hs, k.2.1, k.2.2.1.2.2.2.1.2.1, sh, g1, bt_and, q1, c1, nI_0, oI_no, e1, e2, bb, q3, c3, pCX9_safe, pSX9_safe, pOX9_safe, pLX9_safe, pCX9_bits, pSX9_bits, pOX9_bits, pLX9_bits, pCX9_finds, pSX9_finds, pOX9_finds, pLX9_finds, pCX9_tellsAll, pSX9_tellsAll, pOX9_tellsAll, pLX9_tellsAll, pCX9_burntBy, pSX9_burntBy, pOX9_burntBy, pLX9_burntBy, kl_I, kl_J, kl_R, kl_T, kl_N, Nat.le_refl, Nat.zero_le, List.map_nil, List.map_cons, List.sum_nil, List.sum_cons, c_I, c_J, c_R, c_T, va_rf, hI_wI, hJ_wJ, hR_wR, hI_J, hI_R, hJ_I, hJ_R, hR_I, hR_J, hN_I, hN_J, hN_R, wI_I, wJ_J, upd_at, updL_at, kR_s, Option.toList, List.append_nil, List.nil_append, List.cons_append, if_true, if_false, reduceIte, Bool.false_eq_true, not_true_eq_false, not_false_eq_true, true_and, and_true, false_and, and_false, true_or, or_true,  Nat.reduceEqDiff, Nat.reduceAdd, Nat.reduceLeDiff]
          rw [rX9_safe_127, nI_1]
          simp (implicitDefEqProofs := false) only [rX9_safe_130, kl_I, kl_J, kl_R, kl_T, kl_N, Nat.le_refl, Nat.zero_le, List.map_nil, List.map_cons, List.sum_nil, List.sum_cons, c_I, c_J, c_R, c_T, va_rf, hI_wI, hJ_wJ, hR_wR, hI_J, hI_R, hJ_I, hJ_R, hR_I, hR_J, hN_I, hN_J, hN_R, wI_I, wJ_J, upd_at, updL_at, kR_s, Option.toList, List.append_nil, List.nil_append, List.cons_append, if_true, if_false, reduceIte, Bool.false_eq_true, not_true_eq_false, not_false_eq_true, true_and, and_true, false_and, and_false, true_or, or_true,  Nat.reduceEqDiff, Nat.reduceAdd, Nat.reduceLeDiff]
          exact e3
      · have nn := nN (x := b) (k := 0) (by omega)
        have bj := c_mbits (d := d + 3) (h := h) (x := b) hb6
        have pb := popc_le 6 b
        have q2 : (nI (popc 6 i) < nI (popc 6 b)) = (popc 6 i < popc 6 b) := propext (nI_ltI (by omega) (by omega))
        by_cases c2 : popc 6 i < popc 6 b
        · by_cases c3 : bbN a (x.1 ||| i) y &&& al = bbN a (x.1 ||| i) y
          · rw [if_pos ⟨c1, c2, c3⟩]
            obtain ⟨h3, e3, kp3⟩ := ih (i + 1) (by omega) h2 (some i) (popc 6 i) o2 k2 v2 (.inr ⟨i, rfl, by omega, rfl⟩)
            refine ⟨h3, fun Q => ?_, kp_tr kk kp3⟩
            have e3 := e3 Q
            simp (implicitDefEqProofs := false) only [rX9_safe_57, rX9_safe_59, rX9_safe_60, rX9_safe_60b, rX9_safe_61, rX9_safe_64, rX9_safe_67, rX9_safe_68, rX9_safe_71, rX9_safe_73, rX9_safe_74, rX9_safe_75, rX9_safe_78, rX9_safe_80, rX9_safe_82, rX9_safe_85, rX9_safe_87, rX9_safe_90, rX9_safe_92, rX9_safe_95, rX9_safe_98, rX9_safe_101, rX9_safe_101b, rX9_safe_102, rX9_safe_105, rX9_safe_105b, rX9_safe_106, rX9_safe_108, rX9_safe_111, rX9_safe_111b, rX9_safe_112, rX9_safe_113, rX9_safe_116, rX9_safe_117, rX9_safe_118, rX9_safe_119, rX9_safe_120, rX9_safe_123, rX9_safe_125, kA_44, kB_44, kU0 hs, nU hs, k.2.1, k.2.2.1.2.2.2.1.2.1, sh, g1, bt_and, q1, c1, nI_0, oI_so, nn, bi, bj, q2, c2, e1, e2, bb, q3, c3, pCX9_safe, pSX9_safe, pOX9_safe, pLX9_safe, pCX9_bits, pSX9_bits, pOX9_bits, pLX9_bits, pCX9_finds, pSX9_finds, pOX9_finds, pLX9_finds, pCX9_tellsAll, pSX9_tellsAll, pOX9_tellsAll, pLX9_tellsAll, pCX9_burntBy, pSX9_burntBy, pOX9_burntBy, pLX9_burntBy, kl_I, kl_J, kl_R, kl_T, kl_N, Nat.le_refl, Nat.zero_le, List.map_nil, List.map_cons, List.sum_nil, List.sum_cons, c_I, c_J, c_R, c_T, va_rf, hI_wI, hJ_wJ, hR_wR, hI_J, hI_R, hJ_I, hJ_R, hR_I, hR_J, hN_I, hN_J, hN_R, wI_I, wJ_J, upd_at, updL_at, kR_s, Option.toList, List.append_nil, List.nil_append, List.cons_append, if_true, if_false, reduceIte, Bool.false_eq_true, not_true_eq_false, not_false_eq_true, true_and, and_true, false_and, and_false, true_or, or_true,  Nat.reduceEqDiff, Nat.reduceAdd, Nat.reduceLeDiff]
            rw [rX9_safe_127, nI_1]
            simp (implicitDefEqProofs := false) only [rX9_safe_130, kl_I, kl_J, kl_R, kl_T, kl_N, Nat.le_refl, Nat.zero_le, List.map_nil, List.map_cons, List.sum_nil, List.sum_cons, c_I, c_J, c_R, c_T, va_rf, hI_wI, hJ_wJ, hR_wR, hI_J, hI_R, hJ_I, hJ_R, hR_I, hR_J, hN_I, hN_J, hN_R, wI_I, wJ_J, upd_at, updL_at, kR_s, Option.toList, List.append_nil, List.nil_append, List.cons_append, if_true, if_false, reduceIte, Bool.false_eq_true, not_true_eq_false, not_false_eq_true, true_and, and_true, false_and, and_false, true_or, or_true,  Nat.reduceEqDiff, Nat.reduceAdd, Nat.reduceLeDiff]
            exact e3
          · rw [if_neg (fun z => c3 z.2.2)]
            obtain ⟨h3, e3, kp3⟩ := ih (i + 1) (by omega) h2 (some b) (popc 6 b) o2 k2 v2 (.inr ⟨b, rfl, hb6, rfl⟩)
            refine ⟨h3, fun Q => ?_, kp_tr kk kp3⟩
            have e3 := e3 Q
            simp (implicitDefEqProofs := false) only [rX9_safe_57, rX9_safe_59, rX9_safe_60, rX9_safe_60b, rX9_safe_61, rX9_safe_64, rX9_safe_67, rX9_safe_68, rX9_safe_71, rX9_safe_73, rX9_safe_74, rX9_safe_75, rX9_safe_78, rX9_safe_80, rX9_safe_82, rX9_safe_85, rX9_safe_87, rX9_safe_90, rX9_safe_92, rX9_safe_95, rX9_safe_98, rX9_safe_101, rX9_safe_101b, rX9_safe_102, rX9_safe_105, rX9_safe_105b, rX9_safe_106, rX9_safe_108, rX9_safe_111, rX9_safe_111b, rX9_safe_112, rX9_safe_113, rX9_safe_116, rX9_safe_117, rX9_safe_118, rX9_safe_119, rX9_safe_120, rX9_safe_123, rX9_safe_125, kA_44, kB_44, kU0 hs, nU hs, k.2.1, k.2.2.1.2.2.2.1.2.1, sh, g1, bt_and, q1, c1, nI_0, oI_so, nn, bi, bj, q2, c2, e1, e2, bb, q3, c3, pCX9_safe, pSX9_safe, pOX9_safe, pLX9_safe, pCX9_bits, pSX9_bits, pOX9_bits, pLX9_bits, pCX9_finds, pSX9_finds, pOX9_finds, pLX9_finds, pCX9_tellsAll, pSX9_tellsAll, pOX9_tellsAll, pLX9_tellsAll, pCX9_burntBy, pSX9_burntBy, pOX9_burntBy, pLX9_burntBy, kl_I, kl_J, kl_R, kl_T, kl_N, Nat.le_refl, Nat.zero_le, List.map_nil, List.map_cons, List.sum_nil, List.sum_cons, c_I, c_J, c_R, c_T, va_rf, hI_wI, hJ_wJ, hR_wR, hI_J, hI_R, hJ_I, hJ_R, hR_I, hR_J, hN_I, hN_J, hN_R, wI_I, wJ_J, upd_at, updL_at, kR_s, Option.toList, List.append_nil, List.nil_append, List.cons_append, if_true, if_false, reduceIte, Bool.false_eq_true, not_true_eq_false, not_false_eq_true, true_and, and_true, false_and, and_false, true_or, or_true,  Nat.reduceEqDiff, Nat.reduceAdd, Nat.reduceLeDiff]
            rw [rX9_safe_127, nI_1]
            simp (implicitDefEqProofs := false) only [rX9_safe_130, kl_I, kl_J, kl_R, kl_T, kl_N, Nat.le_refl, Nat.zero_le, List.map_nil, List.map_cons, List.sum_nil, List.sum_cons, c_I, c_J, c_R, c_T, va_rf, hI_wI, hJ_wJ, hR_wR, hI_J, hI_R, hJ_I, hJ_R, hR_I, hR_J, hN_I, hN_J, hN_R, wI_I, wJ_J, upd_at, updL_at, kR_s, Option.toList, List.append_nil, List.nil_append, List.cons_append, if_true, if_false, reduceIte, Bool.false_eq_true, not_true_eq_false, not_false_eq_true, true_and, and_true, false_and, and_false, true_or, or_true,  Nat.reduceEqDiff, Nat.reduceAdd, Nat.reduceLeDiff]
            exact e3
        · rw [if_neg (fun z => c2 z.2.1)]
          obtain ⟨h3, e3, kp3⟩ := ih (i + 1) (by omega) h (some b) (popc 6 b) o2 k v (.inr ⟨b, rfl, hb6, rfl⟩)
          refine ⟨h3, fun Q => ?_, kp3⟩
          have e3 := e3 Q
          simp (implicitDefEqProofs := false) only [rX9_safe_57, rX9_safe_59, rX9_safe_60, rX9_safe_60b, rX9_safe_61, rX9_safe_64, rX9_safe_67, rX9_safe_68, rX9_safe_71, rX9_safe_73, rX9_safe_74, rX9_safe_75, rX9_safe_78, rX9_safe_80, rX9_safe_82, rX9_safe_85, rX9_safe_87, rX9_safe_90, rX9_safe_92, rX9_safe_95, rX9_safe_98, rX9_safe_101, rX9_safe_101b, rX9_safe_102, rX9_safe_105, rX9_safe_105b, rX9_safe_106, rX9_safe_108, rX9_safe_111, rX9_safe_111b, rX9_safe_112, rX9_safe_113, rX9_safe_116, rX9_safe_117, rX9_safe_118, rX9_safe_119, rX9_safe_120, rX9_safe_123, rX9_safe_125, kA_44, kB_44, kU0 hs, nU hs, k.2.1, k.2.2.1.2.2.2.1.2.1, sh, g1, bt_and, q1, c1, nI_0, oI_so, nn, bi, bj, q2, c2, pCX9_safe, pSX9_safe, pOX9_safe, pLX9_safe, pCX9_bits, pSX9_bits, pOX9_bits, pLX9_bits, kl_I, kl_J, kl_R, kl_T, kl_N, Nat.le_refl, Nat.zero_le, List.map_nil, List.map_cons, List.sum_nil, List.sum_cons, c_I, c_J, c_R, c_T, va_rf, hI_wI, hJ_wJ, hR_wR, hI_J, hI_R, hJ_I, hJ_R, hR_I, hR_J, hN_I, hN_J, hN_R, wI_I, wJ_J, upd_at, updL_at, kR_s, Option.toList, List.append_nil, List.nil_append, List.cons_append, if_true, if_false, reduceIte, Bool.false_eq_true, not_true_eq_false, not_false_eq_true, true_and, and_true, false_and, and_false, true_or, or_true,  Nat.reduceEqDiff, Nat.reduceAdd, Nat.reduceLeDiff]
          rw [rX9_safe_127, nI_1]
          simp (implicitDefEqProofs := false) only [rX9_safe_130, kl_I, kl_J, kl_R, kl_T, kl_N, Nat.le_refl, Nat.zero_le, List.map_nil, List.map_cons, List.sum_nil, List.sum_cons, c_I, c_J, c_R, c_T, va_rf, hI_wI, hJ_wJ, hR_wR, hI_J, hI_R, hJ_I, hJ_R, hR_I, hR_J, hN_I, hN_J, hN_R, wI_I, wJ_J, upd_at, updL_at, kR_s, Option.toList, List.append_nil, List.nil_append, List.cons_append, if_true, if_false, reduceIte, Bool.false_eq_true, not_true_eq_false, not_false_eq_true, true_and, and_true, false_and, and_false, true_or, or_true,  Nat.reduceEqDiff, Nat.reduceAdd, Nat.reduceLeDiff]
          exact e3
    · rw [if_neg (fun z => c1 z.1)]
      obtain ⟨h3, e3, kp3⟩ := ih (i + 1) (by omega) h bo fw o2 k v hb
      refine ⟨h3, fun Q => ?_, kp3⟩
      have e3 := e3 Q
      simp (implicitDefEqProofs := false) only [rX9_safe_57, rX9_safe_59, rX9_safe_60, rX9_safe_60b, rX9_safe_61, rX9_safe_64, rX9_safe_67, rX9_safe_68, rX9_safe_71, rX9_safe_73, rX9_safe_74, rX9_safe_75, rX9_safe_78, rX9_safe_80, rX9_safe_82, rX9_safe_85, rX9_safe_87, rX9_safe_90, rX9_safe_92, rX9_safe_95, rX9_safe_98, rX9_safe_101, rX9_safe_101b, rX9_safe_102, rX9_safe_105, rX9_safe_105b, rX9_safe_106, rX9_safe_108, rX9_safe_111, rX9_safe_111b, rX9_safe_112, rX9_safe_113, rX9_safe_116, rX9_safe_117, rX9_safe_118, rX9_safe_119, rX9_safe_120, rX9_safe_123, rX9_safe_125, kA_44, kB_44, kU0 hs, nU hs, k.2.1, k.2.2.1.2.2.2.1.2.1, sh, g1, bt_and, q1, c1, pCX9_safe, pSX9_safe, pOX9_safe, pLX9_safe, pCX9_bits, pSX9_bits, pOX9_bits, pLX9_bits, kl_I, kl_J, kl_R, kl_T, kl_N, Nat.le_refl, Nat.zero_le, List.map_nil, List.map_cons, List.sum_nil, List.sum_cons, c_I, c_J, c_R, c_T, va_rf, hI_wI, hJ_wJ, hR_wR, hI_J, hI_R, hJ_I, hJ_R, hR_I, hR_J, hN_I, hN_J, hN_R, wI_I, wJ_J, upd_at, updL_at, kR_s, Option.toList, List.append_nil, List.nil_append, List.cons_append, if_true, if_false, reduceIte, Bool.false_eq_true, not_true_eq_false, not_false_eq_true, true_and, and_true, false_and, and_false, true_or, or_true,  Nat.reduceEqDiff, Nat.reduceAdd, Nat.reduceLeDiff]
      rw [rX9_safe_127, nI_1]
      simp (implicitDefEqProofs := false) only [rX9_safe_130, kl_I, kl_J, kl_R, kl_T, kl_N, Nat.le_refl, Nat.zero_le, List.map_nil, List.map_cons, List.sum_nil, List.sum_cons, c_I, c_J, c_R, c_T, va_rf, hI_wI, hJ_wJ, hR_wR, hI_J, hI_R, hJ_I, hJ_R, hR_I, hR_J, hN_I, hN_J, hN_R, wI_I, wJ_J, upd_at, updL_at, kR_s, Option.toList, List.append_nil, List.nil_append, List.cons_append, if_true, if_false, reduceIte, Bool.false_eq_true, not_true_eq_false, not_false_eq_true, true_and, and_true, false_and, and_false, true_or, or_true,  Nat.reduceEqDiff, Nat.reduceAdd, Nat.reduceLeDiff]
      exact e3
theorem m_safe {d : Nat} {h : qH} {S : AS} {y : Int32} (I : MI h S) : ms 0 (d + 10) mX9_safe [.ref (44 : Nat), .int y] h (trS S (sSafe S y).1) (some (.int (sSafe S y).2)) := by
  rw [sSafe]
  have E : ∀ Q, WM (d + 10) mX9_safe [.ref (44 : Nat), .int y] h Q = WP (d + 10) mX9_safe (0, 0) 5 [some (.ref (44 : Nat)), some (.int y), none, none, none, none] [] (th h) Q := fun Q => by simp (implicitDefEqProofs := false) only [eX9_safe, rX9_safe_0, rX9_safe_0b, rX9_safe_1, rX9_safe_2, kA_44, kB_44, pCX9_safe, pSX9_safe, pOX9_safe, pLX9_safe, th, kl_I, kl_J, kl_R, kl_T, kl_N, Nat.le_refl, Nat.zero_le, List.map_nil, List.map_cons, List.sum_nil, List.sum_cons, c_I, c_J, c_R, c_T, va_rf, hI_wI, hJ_wJ, hR_wR, hI_J, hI_R, hJ_I, hJ_R, hR_I, hR_J, hN_I, hN_J, hN_R, wI_I, wJ_J, upd_at, updL_at, kR_s, Option.toList, List.append_nil, List.nil_append, List.cons_append, if_true, if_false, reduceIte, Bool.false_eq_true, not_true_eq_false, not_false_eq_true, true_and, and_true, false_and, and_false, true_or, or_true,  Nat.reduceEqDiff, Nat.reduceAdd, Nat.reduceLeDiff]
  by_cases c1 : aN (sA S) = 0
  · rw [if_pos c1]
    refine ms_of (v := 1) I (by decide) E ?_
    obtain ⟨F, r⟩ := MI_n (MI_th I) c1
    generalize th h = g at F r ⊢
    have rd := c_refusesDay (d := d + 8) (h := g) (b := false) (v := y) (lo := 0)
    rw [bI_f] at rd
    exact ⟨g, fun Q => by simp (implicitDefEqProofs := false) only [rX9_safe_5, rX9_safe_5b, rX9_safe_6, rX9_safe_6b, rX9_safe_7, rX9_safe_10, rX9_safe_10b, rX9_safe_13, rX9_safe_14, rX9_safe_17, rX9_safe_18, rX9_safe_19, rX9_safe_20, rX9_safe_23, rX9_safe_24, rX9_safe_25, rX9_safe_28, rX9_safe_28b, rX9_safe_29, rX9_safe_30, rX9_safe_33, kA_44, kB_44, r, rd, c_mrefused, show nI 1 = 1 from rfl, show ¬ (1 : Int32) ≤ 0 from by decide, pCX9_safe, pSX9_safe, pOX9_safe, pLX9_safe, pCX9_refusesDay, pSX9_refusesDay, pOX9_refusesDay, pLX9_refusesDay, pCX9_refused, pSX9_refused, pOX9_refused, pLX9_refused, kl_I, kl_J, kl_R, kl_T, kl_N, Nat.le_refl, Nat.zero_le, List.map_nil, List.map_cons, List.sum_nil, List.sum_cons, c_I, c_J, c_R, c_T, va_rf, hI_wI, hJ_wJ, hR_wR, hI_J, hI_R, hJ_I, hJ_R, hR_I, hR_J, hN_I, hN_J, hN_R, wI_I, wJ_J, upd_at, updL_at, kR_s, Option.toList, List.append_nil, List.nil_append, List.cons_append, if_true, if_false, reduceIte, Bool.false_eq_true, not_true_eq_false, not_false_eq_true, true_and, and_true, false_and, and_false, true_or, or_true,  Nat.reduceEqDiff, Nat.reduceAdd, Nat.reduceLeDiff], kp_refl⟩
  · rw [if_neg c1]
    have I1 := MI_th I
    obtain ⟨s, k, v, t1, t2, t3, t4, t5, ww⟩ := MI_y I1 c1
    have rd := c_refusesDay (d := d + 8) (h := th h) (b := true) (v := y) (lo := 0)
    rw [bI_t] at rd
    by_cases c2 : y < 0 ∨ 90 < y
    · rw [if_pos c2]
      refine ms_of (v := 2) I (by decide) E ?_
      generalize th h = g at k v rd ⊢
      exact ⟨g, fun Q => by simp (implicitDefEqProofs := false) only [rX9_safe_5, rX9_safe_5b, rX9_safe_6, rX9_safe_6b, rX9_safe_7, rX9_safe_10, rX9_safe_10b, rX9_safe_13, rX9_safe_14, rX9_safe_17, rX9_safe_18, rX9_safe_19, rX9_safe_20, rX9_safe_23, rX9_safe_24, rX9_safe_25, rX9_safe_28, rX9_safe_28b, rX9_safe_29, rX9_safe_30, rX9_safe_33, kA_44, kB_44, k.2.1, rd, c2, c_mrefused, show nI 2 = 2 from rfl, show ¬ (2 : Int32) ≤ 0 from by decide, Bool.true_eq_false, pCX9_safe, pSX9_safe, pOX9_safe, pLX9_safe, pCX9_refusesDay, pSX9_refusesDay, pOX9_refusesDay, pLX9_refusesDay, pCX9_refused, pSX9_refused, pOX9_refused, pLX9_refused, kl_I, kl_J, kl_R, kl_T, kl_N, Nat.le_refl, Nat.zero_le, List.map_nil, List.map_cons, List.sum_nil, List.sum_cons, c_I, c_J, c_R, c_T, va_rf, hI_wI, hJ_wJ, hR_wR, hI_J, hI_R, hJ_I, hJ_R, hR_I, hR_J, hN_I, hN_J, hN_R, wI_I, wJ_J, upd_at, updL_at, kR_s, Option.toList, List.append_nil, List.nil_append, List.cons_append, if_true, if_false, reduceIte, Bool.false_eq_true, not_true_eq_false, not_false_eq_true, true_and, and_true, false_and, and_false, true_or, or_true,  Nat.reduceEqDiff, Nat.reduceAdd, Nat.reduceLeDiff], kp_refl⟩
    · rw [if_neg c2]
      refine ms_of (v := 0) I (by decide) E ?_
      generalize th h = g at k v rd ⊢
      obtain ⟨i, hi, rfl⟩ := dy c2
      rw [nI_cl (by omega)]
      obtain ⟨h1, e1, x1, u1, a1⟩ := c_finds (d := d + 6) k v
      have k1 := mK_sx k x1 (by decide)
      have F1 := k1.1
      have v1 : vF (hI h1 46) (sA S) (sX S) := by rw [x1.2.2.2 46 (by decide)]; exact v
      have v9 : vp_in 9 10 := nI_vp (i := 9) (by omega) (by decide)
      have cl9 : (9 : Int32).toNatClampNeg = 9 := rfl
      have bb : ∀ Q, WM (d + 9) mX9_burntBy [.ref (44 : Nat), .int (nI (sX S).2.2)] h1 Q = Q (some (some (.int (nI (bbN (sA S) (sX S).1 (sX S).2.2))))) h1 := c_mbb (d := d + 9) (y := (sX S).2.2) k1.1 k1.2.1 k1.2.2.1 a1 (by omega)
      obtain ⟨h2, e2, k2⟩ := l_msafe (d := d + 6) (y := i) (al := bbN (sA S) (sX S).1 (sX S).2.2) t1 (bbN_lt ww) hi (2 ^ aN (sA S)) 0 (by omega) h1 none 7 (some (.int 0)) k1 v1 (.inl ⟨rfl, rfl⟩)
      refine ⟨h2, fun Q => ?_, kp_tr (kp_sx x1 (by decide)) k2⟩
      have e2 := e2 Q
      rw [oI_no, nI_0] at e2
      simp (implicitDefEqProofs := false) only [rX9_safe_5, rX9_safe_5b, rX9_safe_6, rX9_safe_6b, rX9_safe_7, rX9_safe_10, rX9_safe_10b, rX9_safe_13, rX9_safe_14, rX9_safe_17, rX9_safe_18, rX9_safe_19, rX9_safe_20, rX9_safe_23, rX9_safe_24, rX9_safe_25, rX9_safe_28, rX9_safe_28b, rX9_safe_29, rX9_safe_30, rX9_safe_33, rX9_safe_34, rX9_safe_34b, rX9_safe_35, rX9_safe_38, rX9_safe_38b, rX9_safe_39, rX9_safe_39b, rX9_safe_40, rX9_safe_43, rX9_safe_45, rX9_safe_46, rX9_safe_49, rX9_safe_50, rX9_safe_52, rX9_safe_54, rX9_safe_55, kA_44, kB_44, kA_46, kB_46, fin_44_5 F1, fin_44_15 F1, fin_44_16 F1, fin_44_17 F1, fin_44_18 F1, fin_44_21 F1, fin_44_23 F1, fin_44_24 F1, fin_44_25 F1, fin_44_29 F1, fin_44_33 F1, k.2.1, rd, c2, Bool.true_eq_false, show (0 : Int32) ≤ 0 from by decide, e1, v9, cl9, v1.2.2.2.2, bb, pCX9_safe, pSX9_safe, pOX9_safe, pLX9_safe, pCX9_refusesDay, pSX9_refusesDay, pOX9_refusesDay, pLX9_refusesDay, pCX9_finds, pSX9_finds, pOX9_finds, pLX9_finds, pCX9_burntBy, pSX9_burntBy, pOX9_burntBy, pLX9_burntBy, kl_I, kl_J, kl_R, kl_T, kl_N, Nat.le_refl, Nat.zero_le, List.map_nil, List.map_cons, List.sum_nil, List.sum_cons, c_I, c_J, c_R, c_T, va_rf, hI_wI, hJ_wJ, hR_wR, hI_J, hI_R, hJ_I, hJ_R, hR_I, hR_J, hN_I, hN_J, hN_R, wI_I, wJ_J, upd_at, updL_at, kR_s, Option.toList, List.append_nil, List.nil_append, List.cons_append, if_true, if_false, reduceIte, Bool.false_eq_true, not_true_eq_false, not_false_eq_true, true_and, and_true, false_and, and_false, true_or, or_true,  Nat.reduceEqDiff, Nat.reduceAdd, Nat.reduceLeDiff]
      exact e2
theorem cn_popc {r : Nat → Nat} : ∀ n, n ≤ 6 → popc 6 (bm (byP r 999) n) = cnN r n := by
  have key : ∀ b0 b1 b2 b3 b4 b5 : Bool, ∀ n, n ≤ 6 → popc 6 (bm (fun j => [b0, b1, b2, b3, b4, b5].getD j false) n) = (([b0, b1, b2, b3, b4, b5].take n).map Bool.toNat).sum := by decide +kernel
  intro n hn
  have k := key (byP r 999 0) (byP r 999 1) (byP r 999 2) (byP r 999 3) (byP r 999 4) (byP r 999 5) n hn
  rw [bm_cong (p := byP r 999) (q := fun j => [byP r 999 0, byP r 999 1, byP r 999 2, byP r 999 3, byP r 999 4, byP r 999 5].getD j false) (fun j hj => by
    rcases (show j = 0 ∨ j = 1 ∨ j = 2 ∨ j = 3 ∨ j = 4 ∨ j = 5 by omega) with rfl | rfl | rfl | rfl | rfl | rfl <;> rfl), k]
  have e : ∀ j, (byP r 999 j).toNat = if r j < 1000 then 1 else 0 := fun j => by
    unfold byP
    by_cases c : r j < 1000
    · rw [if_pos c, decide_eq_true (by omega)]; rfl
    · rw [if_neg c, decide_eq_false (by omega)]; rfl
  rcases (show n = 0 ∨ n = 1 ∨ n = 2 ∨ n = 3 ∨ n = 4 ∨ n = 5 ∨ n = 6 by omega) with rfl | rfl | rfl | rfl | rfl | rfl | rfl <;> simp only [List.take, List.map, List.sum_cons, List.sum_nil, e, cnN] <;> omega
theorem c_findsW {d : Nat} {h : qH} {s i : Nat} {a : aS} {x : sT} (F : Fin0 (hR h)) (r : hR h 44 3 = some s) (w : mSt h s a) (e22 : hI h 44 22 = nI i) (hi : i < 9) (v : vF (hI h 46) a x) : ∃ h', (∀ Q, WM (d + 3) mX9_finds [.ref (44 : Nat)] h Q = Q (some none) h') ∧ sx [47, 50] h h' ∧ atR h' a (sprN a (cutN a x.1) (some i) (ownN a x.1 63)) := by
  have ww := w.2.2.1
  have h6 := ww.1
  have x1 : sx [47] h (wI h 47 (fil 10 (hI h 46) (hI h 47))) := sx_w sx_refl (by simp)
  have v1 : vF (hI (wI h 47 (fil 10 (hI h 46) (hI h 47))) 47) a x := by rw [hI_wI, if_pos rfl]; exact vF_fil h6 v
  have F1 : Fin0 (hR (wI h 47 (fil 10 (hI h 46) (hI h 47)))) := F
  have cb := c_burnsAll (d := d) (wo := some i) F1 r (mSt_sx w x1 (by decide)) (cutN_lt ww x.1) (fun y hy => by cases hy; exact hi) (fun j hj => by rw [v1.1 j hj]; exact own_c ww hj) (own_6 ww) v1.2.1 (by rw [hI_wI, if_neg (by decide)]; exact e22)
  refine ⟨_, fun Q => ?_, sx_trans (sx_mono x1 (by simp)) (sx_w sx_refl (by simp)), at_mk ww (own_6 ww)⟩
  simp (implicitDefEqProofs := false) only [eX9_finds, rX9_finds_0, rX9_finds_0b, rX9_finds_1, rX9_finds_4, rX9_finds_4b, rX9_finds_5, rX9_finds_8, kA_44, kB_44, pCX9_finds, pSX9_finds, pOX9_finds, pLX9_finds, pCX9_works, pSX9_works, pOX9_works, pLX9_works, pCX9_burnsAll, pSX9_burnsAll, pOX9_burnsAll, pLX9_burnsAll, c_works (d := d + 2) F, cb, kl_I, kl_J, kl_R, kl_T, kl_N, Nat.le_refl, Nat.zero_le, List.map_nil, List.map_cons, List.sum_nil, List.sum_cons, c_I, c_J, c_R, c_T, va_rf, hI_wI, hJ_wJ, hR_wR, hI_J, hI_R, hJ_I, hJ_R, hR_I, hR_J, hN_I, hN_J, hN_R, wI_I, wJ_J, upd_at, updL_at, kR_s, Option.toList, List.append_nil, List.nil_append, List.cons_append, if_true, if_false, reduceIte, Bool.false_eq_true, not_true_eq_false, not_false_eq_true, true_and, and_true, false_and, and_false, true_or, or_true,  Nat.reduceEqDiff, Nat.reduceAdd, Nat.reduceLeDiff]
theorem l_mbC {d : Nat} {s : Nat} {a : aS} {x : sT} : ∀ (m i : Nat), i + m = aSp a → ∀ (h : qH) (bo : Option Nat) (fw : Nat) (F : Fin0 (hR h)) (r : hR h 44 3 = some s) (w : mSt h s a) (_ : vF (hI h 46) a x) (_ : fw ≤ 6), ∃ h1, (∀ Q, WP (d + 4) mX9_bestCut (0, 0) 32 [some (.ref (44 : Nat)), some (.int (nI fw)), some (.int (oI bo)), some (.int (nI i))] [] h Q = Q (some (some (.int (oI (bcL a x.1 m i bo fw))))) (tm h1 0)) ∧ kp (wI h 44 (upd (hI h 44) 22 (-1))) h1 := by
  intro m
  induction m with
  | zero =>
    intro i hi h bo fw F r w v hf
    obtain rfl : i = aSp a := by omega
    have hs := w.1
    refine ⟨wI h 44 (upd (hI h 44) 22 (-1)), fun Q => ?_, kp_refl⟩
    simp (implicitDefEqProofs := false) only [rX9_bestCut_32, rX9_bestCut_33, rX9_bestCut_33b, rX9_bestCut_34, rX9_bestCut_37, rX9_bestCut_40, rX9_bestCut_43, rX9_bestCut_43b, rX9_bestCut_44, rX9_bestCut_45, rX9_bestCut_48, rX9_bestCut_48b, rX9_bestCut_49, rX9_bestCut_52, rX9_bestCut_52b, rX9_bestCut_53, rX9_bestCut_56, rX9_bestCut_57, rX9_bestCut_60, rX9_bestCut_60b, rX9_bestCut_61, rX9_bestCut_64, rX9_bestCut_65, rX9_bestCut_66, rX9_bestCut_73, rX9_bestCut_73b, rX9_bestCut_74, rX9_bestCut_75, rX9_bestCut_78, rX9_bestCut_78b, rX9_bestCut_79, rX9_bestCut_80, rX9_bestCut_83, kA_44, kB_44, kU0 hs, nU hs, r, w.2.2.2.1.2.2.1, c_mgood, pCX9_bestCut, pSX9_bestCut, pOX9_bestCut, pLX9_bestCut, pCX9_good, pSX9_good, pOX9_good, pLX9_good, Int32.le_refl, bcL, kl_I, kl_J, kl_R, kl_T, kl_N, Nat.le_refl, Nat.zero_le, List.map_nil, List.map_cons, List.sum_nil, List.sum_cons, c_I, c_J, c_R, c_T, va_rf, hI_wI, hJ_wJ, hR_wR, hI_J, hI_R, hJ_I, hJ_R, hR_I, hR_J, hN_I, hN_J, hN_R, wI_I, wJ_J, upd_at, updL_at, kR_s, Option.toList, List.append_nil, List.nil_append, List.cons_append, if_true, if_false, reduceIte, Bool.false_eq_true, not_true_eq_false, not_false_eq_true, true_and, and_true, false_and, and_false, true_or, or_true,  Nat.reduceEqDiff, Nat.reduceAdd, Nat.reduceLeDiff]
  | succ m ih =>
    intro i hi h bo fw F r w v hf
    have hs := w.1
    have ww := w.2.2.1
    have h6 := ww.1
    have h9 := ww.2.2.2.2.1
    have g1 : ¬ nI (aSp a) ≤ nI i := nI_ge (by omega) (by omega)
    have Fg : Fin0 (hR (wI h 44 (upd (hI h 44) 22 (nI i)))) := F
    have wg : mSt (wI h 44 (upd (hI h 44) 22 (nI i))) s a := mSt_w w (by omega)
    obtain ⟨h1, e1, x1, a1⟩ := c_findsW (d := d) (h := wI h 44 (upd (hI h 44) 22 (nI i))) (i := i) Fg r wg (by rw [hI_wI, if_pos rfl, upd_at, if_pos rfl]) (by omega) (by rw [hI_wI, if_neg (by decide)]; exact v)
    have F1 := Fin_sx Fg x1
    have r1 : hR h1 44 3 = some s := by rw [x1.1]; exact r
    have w1 := mSt_sx wg x1 (by decide)
    have b2 := c_everBurnt (d := d + 2) F1 r1 w1 a1
    rw [cn_popc _ h6] at b2
    have b2 : ∀ Q, WM (d + 3) mX9_everBurnt [.ref (44 : Nat)] h1 Q = Q (some (some (.int (nI (evW a x.1 i))))) h1 := b2
    have e6 : evW a x.1 i ≤ 6 := Nat.le_trans (cnN_le _) h6
    have q1 : (nI fw ≤ nI (evW a x.1 i)) = (fw ≤ evW a x.1 i) := propext (nI_leI (by omega) (by omega))
    have v1 : vF (hI h1 46) a x := by rw [x1.2.2.2 46 (by decide), hI_wI, if_neg (by decide)]; exact v
    have kk : kp (wI h 44 (upd (hI h 44) 22 (-1))) (wI h1 44 (upd (hI h1 44) 22 (-1))) := by
      refine ⟨x1.1, x1.2.2.1, fun b hb => ⟨?_, by show hJ h1 b = hJ h b; rw [x1.2.1]; rfl⟩, fun j hj => ?_⟩
      · simp at hb
        rw [hI_wI, if_neg (by omega), hI_wI, if_neg (by omega), x1.2.2.2 b (by simp; omega), hI_wI, if_neg (by omega)]
      · rw [hI_wI, if_pos rfl, hI_wI, if_pos rfl, upd_at, upd_at, x1.2.2.2 44 (by decide), hI_wI, if_pos rfl, upd_at]
        split <;> rfl
    rw [bcL]
    by_cases c : evW a x.1 i < fw
    · rw [if_pos c]
      obtain ⟨h3, e3, kp3⟩ := ih (i + 1) (by omega) h1 (some i) (evW a x.1 i) F1 r1 w1 v1 (by omega)
      refine ⟨h3, fun Q => ?_, kp_tr kk kp3⟩
      have e3 := e3 Q
      simp (implicitDefEqProofs := false) only [rX9_bestCut_32, rX9_bestCut_33, rX9_bestCut_33b, rX9_bestCut_34, rX9_bestCut_37, rX9_bestCut_40, rX9_bestCut_43, rX9_bestCut_43b, rX9_bestCut_44, rX9_bestCut_45, rX9_bestCut_48, rX9_bestCut_48b, rX9_bestCut_49, rX9_bestCut_52, rX9_bestCut_52b, rX9_bestCut_53, rX9_bestCut_56, rX9_bestCut_57, rX9_bestCut_60, rX9_bestCut_60b, rX9_bestCut_61, rX9_bestCut_64, rX9_bestCut_65, rX9_bestCut_66, kA_44, kB_44, kU0 hs, nU hs, r, w.2.2.2.1.2.2.1, g1, e1, b2, q1, show ¬ fw ≤ evW a x.1 i from by omega, pCX9_bestCut, pSX9_bestCut, pOX9_bestCut, pLX9_bestCut, pCX9_finds, pSX9_finds, pOX9_finds, pLX9_finds, pCX9_everBurnt, pSX9_everBurnt, pOX9_everBurnt, pLX9_everBurnt, kl_I, kl_J, kl_R, kl_T, kl_N, Nat.le_refl, Nat.zero_le, List.map_nil, List.map_cons, List.sum_nil, List.sum_cons, c_I, c_J, c_R, c_T, va_rf, hI_wI, hJ_wJ, hR_wR, hI_J, hI_R, hJ_I, hJ_R, hR_I, hR_J, hN_I, hN_J, hN_R, wI_I, wJ_J, upd_at, updL_at, kR_s, Option.toList, List.append_nil, List.nil_append, List.cons_append, if_true, if_false, reduceIte, Bool.false_eq_true, not_true_eq_false, not_false_eq_true, true_and, and_true, false_and, and_false, true_or, or_true,  Nat.reduceEqDiff, Nat.reduceAdd, Nat.reduceLeDiff]
      rw [rX9_bestCut_67, nI_1]
      simp (implicitDefEqProofs := false) only [rX9_bestCut_70, kl_I, kl_J, kl_R, kl_T, kl_N, Nat.le_refl, Nat.zero_le, List.map_nil, List.map_cons, List.sum_nil, List.sum_cons, c_I, c_J, c_R, c_T, va_rf, hI_wI, hJ_wJ, hR_wR, hI_J, hI_R, hJ_I, hJ_R, hR_I, hR_J, hN_I, hN_J, hN_R, wI_I, wJ_J, upd_at, updL_at, kR_s, Option.toList, List.append_nil, List.nil_append, List.cons_append, if_true, if_false, reduceIte, Bool.false_eq_true, not_true_eq_false, not_false_eq_true, true_and, and_true, false_and, and_false, true_or, or_true,  Nat.reduceEqDiff, Nat.reduceAdd, Nat.reduceLeDiff]
      exact e3
    · rw [if_neg c]
      obtain ⟨h3, e3, kp3⟩ := ih (i + 1) (by omega) h1 bo fw F1 r1 w1 v1 hf
      refine ⟨h3, fun Q => ?_, kp_tr kk kp3⟩
      have e3 := e3 Q
      simp (implicitDefEqProofs := false) only [rX9_bestCut_32, rX9_bestCut_33, rX9_bestCut_33b, rX9_bestCut_34, rX9_bestCut_37, rX9_bestCut_40, rX9_bestCut_43, rX9_bestCut_43b, rX9_bestCut_44, rX9_bestCut_45, rX9_bestCut_48, rX9_bestCut_48b, rX9_bestCut_49, rX9_bestCut_52, rX9_bestCut_52b, rX9_bestCut_53, rX9_bestCut_56, rX9_bestCut_57, rX9_bestCut_60, rX9_bestCut_60b, rX9_bestCut_61, rX9_bestCut_64, rX9_bestCut_65, rX9_bestCut_66, kA_44, kB_44, kU0 hs, nU hs, r, w.2.2.2.1.2.2.1, g1, e1, b2, q1, show fw ≤ evW a x.1 i from by omega, pCX9_bestCut, pSX9_bestCut, pOX9_bestCut, pLX9_bestCut, pCX9_finds, pSX9_finds, pOX9_finds, pLX9_finds, pCX9_everBurnt, pSX9_everBurnt, pOX9_everBurnt, pLX9_everBurnt, kl_I, kl_J, kl_R, kl_T, kl_N, Nat.le_refl, Nat.zero_le, List.map_nil, List.map_cons, List.sum_nil, List.sum_cons, c_I, c_J, c_R, c_T, va_rf, hI_wI, hJ_wJ, hR_wR, hI_J, hI_R, hJ_I, hJ_R, hR_I, hR_J, hN_I, hN_J, hN_R, wI_I, wJ_J, upd_at, updL_at, kR_s, Option.toList, List.append_nil, List.nil_append, List.cons_append, if_true, if_false, reduceIte, Bool.false_eq_true, not_true_eq_false, not_false_eq_true, true_and, and_true, false_and, and_false, true_or, or_true,  Nat.reduceEqDiff, Nat.reduceAdd, Nat.reduceLeDiff]
      rw [rX9_bestCut_67, nI_1]
      simp (implicitDefEqProofs := false) only [rX9_bestCut_70, kl_I, kl_J, kl_R, kl_T, kl_N, Nat.le_refl, Nat.zero_le, List.map_nil, List.map_cons, List.sum_nil, List.sum_cons, c_I, c_J, c_R, c_T, va_rf, hI_wI, hJ_wJ, hR_wR, hI_J, hI_R, hJ_I, hJ_R, hR_I, hR_J, hN_I, hN_J, hN_R, wI_I, wJ_J, upd_at, updL_at, kR_s, Option.toList, List.append_nil, List.nil_append, List.cons_append, if_true, if_false, reduceIte, Bool.false_eq_true, not_true_eq_false, not_false_eq_true, true_and, and_true, false_and, and_false, true_or, or_true,  Nat.reduceEqDiff, Nat.reduceAdd, Nat.reduceLeDiff]
      exact e3
theorem m_bestCut {d : Nat} {h : qH} {S : AS} (I : MI h S) : ms 0 (d + 10) mX9_bestCut [.ref (44 : Nat)] h (trS S (sBestCut S).1) (some (.int (sBestCut S).2)) := by
  have E : ∀ Q, WM (d + 10) mX9_bestCut [.ref (44 : Nat)] h Q = WP (d + 10) mX9_bestCut (0, 0) 5 [some (.ref (44 : Nat)), none, none, none] [] (th h) Q := fun Q => by simp (implicitDefEqProofs := false) only [eX9_bestCut, rX9_bestCut_0, rX9_bestCut_0b, rX9_bestCut_1, rX9_bestCut_2, kA_44, kB_44, pCX9_bestCut, pSX9_bestCut, pOX9_bestCut, pLX9_bestCut, th, kl_I, kl_J, kl_R, kl_T, kl_N, Nat.le_refl, Nat.zero_le, List.map_nil, List.map_cons, List.sum_nil, List.sum_cons, c_I, c_J, c_R, c_T, va_rf, hI_wI, hJ_wJ, hR_wR, hI_J, hI_R, hJ_I, hJ_R, hR_I, hR_J, hN_I, hN_J, hN_R, wI_I, wJ_J, upd_at, updL_at, kR_s, Option.toList, List.append_nil, List.nil_append, List.cons_append, if_true, if_false, reduceIte, Bool.false_eq_true, not_true_eq_false, not_false_eq_true, true_and, and_true, false_and, and_false, true_or, or_true,  Nat.reduceEqDiff, Nat.reduceAdd, Nat.reduceLeDiff]
  rw [sBestCut]
  by_cases c1 : aN (sA S) = 0
  · rw [if_pos c1]
    refine ms_of (v := 1) I (by decide) E ?_
    obtain ⟨F, r⟩ := MI_n (MI_th I) c1
    generalize th h = g at F r ⊢
    exact ⟨g, fun Q => by simp (implicitDefEqProofs := false) only [rX9_bestCut_5, rX9_bestCut_5b, rX9_bestCut_6, rX9_bestCut_9, rX9_bestCut_9b, rX9_bestCut_12, rX9_bestCut_12b, rX9_bestCut_13, rX9_bestCut_14, rX9_bestCut_17, kA_44, kB_44, r, c_mrefused, show nI 1 = 1 from rfl, pCX9_bestCut, pSX9_bestCut, pOX9_bestCut, pLX9_bestCut, pCX9_refused, pSX9_refused, pOX9_refused, pLX9_refused, kl_I, kl_J, kl_R, kl_T, kl_N, Nat.le_refl, Nat.zero_le, List.map_nil, List.map_cons, List.sum_nil, List.sum_cons, c_I, c_J, c_R, c_T, va_rf, hI_wI, hJ_wJ, hR_wR, hI_J, hI_R, hJ_I, hJ_R, hR_I, hR_J, hN_I, hN_J, hN_R, wI_I, wJ_J, upd_at, updL_at, kR_s, Option.toList, List.append_nil, List.nil_append, List.cons_append, if_true, if_false, reduceIte, Bool.false_eq_true, not_true_eq_false, not_false_eq_true, true_and, and_true, false_and, and_false, true_or, or_true,  Nat.reduceEqDiff, Nat.reduceAdd, Nat.reduceLeDiff], kp_refl⟩
  · rw [if_neg c1]
    refine ms_of (v := 0) I (by decide) E ?_
    have I1 := MI_th I
    obtain ⟨s, k, v, t1, t2, t3, t4, t5, ww⟩ := MI_y I1 c1
    generalize th h = g at k v ⊢
    clear E I I1
    have h6 := ww.1
    have F := k.1
    have hs := k.2.2.1.1
    have f := k.2.2.1.2.1
    obtain ⟨h1, e1, x1, u1, a1⟩ := c_finds (d := d + 6) k v
    have k1 := mK_sx k x1 (by decide)
    have b1 : ∀ Q, WM (d + 9) mX9_everBurnt [.ref (44 : Nat)] h1 Q = Q (some (some (.int (nI (evN (sA S) (sX S).1))))) h1 := c_everBurnt (d := d + 8) k1.1 k1.2.1 k1.2.2.1 a1
    obtain ⟨h2, e2, k2⟩ := l_mbC (d := d + 6) (x := sX S) (aSp (sA S)) 0 (by omega) h1 none (evN (sA S) (sX S).1) k1.1 k1.2.1 k1.2.2.1 (by rw [x1.2.2.2 46 (by decide)]; exact v) (popc_le _ _)
    have same : wI h1 44 (upd (hI h1 44) 22 (-1)) = h1 := by
      have := k1.2.2.2
      rw [← this, upd_id, wI_same]
    rw [same] at k2
    refine ⟨h2, fun Q => ?_, kp_tr (kp_sx x1 (by decide)) k2⟩
    simp (implicitDefEqProofs := false) only [rX9_bestCut_5, rX9_bestCut_5b, rX9_bestCut_6, rX9_bestCut_9, rX9_bestCut_9b, rX9_bestCut_12, rX9_bestCut_12b, rX9_bestCut_13, rX9_bestCut_14, rX9_bestCut_17, rX9_bestCut_18, rX9_bestCut_18b, rX9_bestCut_19, rX9_bestCut_22, rX9_bestCut_22b, rX9_bestCut_23, rX9_bestCut_26, rX9_bestCut_27, rX9_bestCut_29, rX9_bestCut_30, rX9_bestCut_31, kA_44, kB_44, k.2.1, e1, b1, pCX9_bestCut, pSX9_bestCut, pOX9_bestCut, pLX9_bestCut, pCX9_finds, pSX9_finds, pOX9_finds, pLX9_finds, pCX9_everBurnt, pSX9_everBurnt, pOX9_everBurnt, pLX9_everBurnt, kl_I, kl_J, kl_R, kl_T, kl_N, Nat.le_refl, Nat.zero_le, List.map_nil, List.map_cons, List.sum_nil, List.sum_cons, c_I, c_J, c_R, c_T, va_rf, hI_wI, hJ_wJ, hR_wR, hI_J, hI_R, hJ_I, hJ_R, hR_I, hR_J, hN_I, hN_J, hN_R, wI_I, wJ_J, upd_at, updL_at, kR_s, Option.toList, List.append_nil, List.nil_append, List.cons_append, if_true, if_false, reduceIte, Bool.false_eq_true, not_true_eq_false, not_false_eq_true, true_and, and_true, false_and, and_false, true_or, or_true,  Nat.reduceEqDiff, Nat.reduceAdd, Nat.reduceLeDiff]
    exact e2 Q
