/-! ===== the model: two who ring, judge, sizes, led ===== -/
theorem c_gets {d : Nat} {h : qH} {S : AS} {s : Nat} {m t : Bool} (r0 : hR h 44 3 = some s) (w : mSt h s (sA S)) : ∀ Q, WM d mX9_gets [.ref (44 : Nat), .int (bI m), .int (bI t)] h Q = Q (some (some (.int (haN S m t)))) h := by
  intro Q
  have hs := w.1
  have w3 := w.2.2.2.1
  cases m <;> cases t <;> simp (implicitDefEqProofs := false) only [eX9_gets, rX9_gets_0, rX9_gets_1, rX9_gets_4, rX9_gets_5, rX9_gets_8, rX9_gets_9, rX9_gets_12, rX9_gets_13, rX9_gets_13b, rX9_gets_14, rX9_gets_17, rX9_gets_20, rX9_gets_21, rX9_gets_24, rX9_gets_25, rX9_gets_28, rX9_gets_29, rX9_gets_32, rX9_gets_33, kU0 hs, nU hs, kA_44, kB_44, r0, pCX9_gets, pSX9_gets, pOX9_gets, pLX9_gets, w3.1, haN, bI_t, bI_f, show ¬ (1 : Int32) = 0 from by decide, kl_I, kl_J, kl_R, kl_T, kl_N, Nat.le_refl, Nat.zero_le, List.map_nil, List.map_cons, List.sum_nil, List.sum_cons, c_I, c_J, c_R, c_T, va_rf, hI_wI, hJ_wJ, hR_wR, hI_J, hI_R, hJ_I, hJ_R, hR_I, hR_J, hN_I, hN_J, hN_R, wI_I, wJ_J, upd_at, updL_at, kR_s, Option.toList, List.append_nil, List.nil_append, List.cons_append, if_true, if_false, reduceIte, Bool.false_eq_true, not_true_eq_false, not_false_eq_true, true_and, and_true, false_and, and_false, true_or, or_true,  Nat.reduceEqDiff, Nat.reduceAdd, Nat.reduceLeDiff]
theorem c_stays9 {d : Nat} {h : qH} {S : AS} {s : Nat} {m t : Bool} (r0 : hR h 44 3 = some s) (w : mSt h s (sA S)) {v : Int32} : ∀ Q, WP (d + 1) mX9_isRest (0, 0) 24 [some (.ref (44 : Nat)), some (.int v), some (.int (bI m)), some (.int (bI t))] [] h Q = Q (some (some (.int (bI (stN S m t))))) h := by
  intro Q
  have c1 := c_gets (d := d) (m := m) (t := t) r0 w
  have c2 := c_gets (d := d) (m := !m) (t := t) r0 w
  have c3 := c_gets (d := d) (m := t) (t := m) r0 w
  have c4 := c_gets (d := d) (m := !t) (t := m) r0 w
  unfold stN
  by_cases q1 : haN S (!m) t ≤ haN S m t
  · have q1' : ¬ haN S m t < haN S (!m) t := Int32.not_lt.mpr q1
    by_cases q2 : haN S (!t) m ≤ haN S t m
    · have q2' : ¬ haN S t m < haN S (!t) m := Int32.not_lt.mpr q2
      cases m <;> cases t <;> (simp only [Bool.not_true, Bool.not_false, bI_t, bI_f] at c1 c2 c3 c4 q1 q2 q1' q2' ⊢; simp (implicitDefEqProofs := false) only [rX9_isRest_24, rX9_isRest_24b, rX9_isRest_25, rX9_isRest_26, rX9_isRest_29, rX9_isRest_30, rX9_isRest_33, rX9_isRest_34, rX9_isRest_35, rX9_isRest_38, rX9_isRest_38b, rX9_isRest_39, rX9_isRest_40, rX9_isRest_41, rX9_isRest_44, rX9_isRest_47, rX9_isRest_47b, rX9_isRest_48, rX9_isRest_49, rX9_isRest_52, rX9_isRest_53, rX9_isRest_56, rX9_isRest_57, rX9_isRest_58, rX9_isRest_61, rX9_isRest_61b, rX9_isRest_62, rX9_isRest_63, rX9_isRest_64, rX9_isRest_67, rX9_isRest_70, rX9_isRest_71, rX9_isRest_74, rX9_isRest_75, kA_44, kB_44, r0, pCX9_isRest, pSX9_isRest, pOX9_isRest, pLX9_isRest, pCX9_gets, pSX9_gets, pOX9_gets, pLX9_gets, c1, c2, c3, c4, q1, q2, q1', q2', decide_true, Bool.and_true, bI_t, bI_f, show ¬ (1 : Int32) = 0 from by decide, kl_I, kl_J, kl_R, kl_T, kl_N, Nat.le_refl, Nat.zero_le, List.map_nil, List.map_cons, List.sum_nil, List.sum_cons, c_I, c_J, c_R, c_T, va_rf, hI_wI, hJ_wJ, hR_wR, hI_J, hI_R, hJ_I, hJ_R, hR_I, hR_J, hN_I, hN_J, hN_R, wI_I, wJ_J, upd_at, updL_at, kR_s, Option.toList, List.append_nil, List.nil_append, List.cons_append, if_true, if_false, reduceIte, Bool.false_eq_true, not_true_eq_false, not_false_eq_true, true_and, and_true, false_and, and_false, true_or, or_true,  Nat.reduceEqDiff, Nat.reduceAdd, Nat.reduceLeDiff])
    · have q2' : haN S t m < haN S (!t) m := Int32.not_le.mp q2
      cases m <;> cases t <;> first | exact absurd q1 q2 | (simp only [Bool.not_true, Bool.not_false, bI_t, bI_f] at c1 c2 c3 c4 q1 q2 q1' q2' ⊢; simp (implicitDefEqProofs := false) only [rX9_isRest_24, rX9_isRest_24b, rX9_isRest_25, rX9_isRest_26, rX9_isRest_29, rX9_isRest_30, rX9_isRest_33, rX9_isRest_34, rX9_isRest_35, rX9_isRest_38, rX9_isRest_38b, rX9_isRest_39, rX9_isRest_40, rX9_isRest_41, rX9_isRest_44, rX9_isRest_47, rX9_isRest_47b, rX9_isRest_48, rX9_isRest_49, rX9_isRest_52, rX9_isRest_53, rX9_isRest_56, rX9_isRest_57, rX9_isRest_58, rX9_isRest_61, rX9_isRest_61b, rX9_isRest_62, rX9_isRest_63, rX9_isRest_64, rX9_isRest_67, rX9_isRest_70, rX9_isRest_71, rX9_isRest_74, rX9_isRest_75, kA_44, kB_44, r0, pCX9_isRest, pSX9_isRest, pOX9_isRest, pLX9_isRest, pCX9_gets, pSX9_gets, pOX9_gets, pLX9_gets, c1, c2, c3, c4, q1, q2, q1', q2', decide_true, decide_false, Bool.and_false, bI_t, bI_f, show ¬ (1 : Int32) = 0 from by decide, kl_I, kl_J, kl_R, kl_T, kl_N, Nat.le_refl, Nat.zero_le, List.map_nil, List.map_cons, List.sum_nil, List.sum_cons, c_I, c_J, c_R, c_T, va_rf, hI_wI, hJ_wJ, hR_wR, hI_J, hI_R, hJ_I, hJ_R, hR_I, hR_J, hN_I, hN_J, hN_R, wI_I, wJ_J, upd_at, updL_at, kR_s, Option.toList, List.append_nil, List.nil_append, List.cons_append, if_true, if_false, reduceIte, Bool.false_eq_true, not_true_eq_false, not_false_eq_true, true_and, and_true, false_and, and_false, true_or, or_true,  Nat.reduceEqDiff, Nat.reduceAdd, Nat.reduceLeDiff])
  · have q1' : haN S m t < haN S (!m) t := Int32.not_le.mp q1
    cases m <;> cases t <;> (simp only [Bool.not_true, Bool.not_false, bI_t, bI_f] at c1 c2 c3 c4 q1 q1' ⊢; simp (implicitDefEqProofs := false) only [rX9_isRest_24, rX9_isRest_24b, rX9_isRest_25, rX9_isRest_26, rX9_isRest_29, rX9_isRest_30, rX9_isRest_33, rX9_isRest_34, rX9_isRest_35, rX9_isRest_38, rX9_isRest_38b, rX9_isRest_39, rX9_isRest_40, rX9_isRest_41, rX9_isRest_44, rX9_isRest_47, rX9_isRest_47b, rX9_isRest_48, rX9_isRest_49, rX9_isRest_52, rX9_isRest_53, rX9_isRest_56, rX9_isRest_57, rX9_isRest_58, rX9_isRest_61, rX9_isRest_61b, rX9_isRest_62, rX9_isRest_63, rX9_isRest_64, rX9_isRest_67, rX9_isRest_70, rX9_isRest_71, rX9_isRest_74, rX9_isRest_75, kA_44, kB_44, r0, pCX9_isRest, pSX9_isRest, pOX9_isRest, pLX9_isRest, pCX9_gets, pSX9_gets, pOX9_gets, pLX9_gets, c1, c2, c3, c4, q1, q1', decide_false, Bool.false_and, bI_t, bI_f, show ¬ (1 : Int32) = 0 from by decide, kl_I, kl_J, kl_R, kl_T, kl_N, Nat.le_refl, Nat.zero_le, List.map_nil, List.map_cons, List.sum_nil, List.sum_cons, c_I, c_J, c_R, c_T, va_rf, hI_wI, hJ_wJ, hR_wR, hI_J, hI_R, hJ_I, hJ_R, hR_I, hR_J, hN_I, hN_J, hN_R, wI_I, wJ_J, upd_at, updL_at, kR_s, Option.toList, List.append_nil, List.nil_append, List.cons_append, if_true, if_false, reduceIte, Bool.false_eq_true, not_true_eq_false, not_false_eq_true, true_and, and_true, false_and, and_false, true_or, or_true,  Nat.reduceEqDiff, Nat.reduceAdd, Nat.reduceLeDiff])
theorem c_isRest {d : Nat} {h : qH} {S : AS} {s i : Nat} (r0 : hR h 44 3 = some s) (w : mSt h s (sA S)) (hi : i < 4) : ∀ Q, WM (d + 1) mX9_isRest [.ref (44 : Nat), .int (nI i)] h Q = Q (some (some (.int (bI (rsN S i))))) h := by
  intro Q
  rcases (show i = 0 ∨ i = 1 ∨ i = 2 ∨ i = 3 by omega) with rfl | rfl | rfl | rfl
  · have st := c_stays9 (d := d) (m := false) (t := false) (v := nI 0) r0 w Q
    simp only [bI_t, bI_f] at st
    simp (implicitDefEqProofs := false) only [eX9_isRest, rX9_isRest_0, rX9_isRest_1, rX9_isRest_2, rX9_isRest_5, rX9_isRest_6, rX9_isRest_9, rX9_isRest_10, rX9_isRest_11, rX9_isRest_12, rX9_isRest_13, rX9_isRest_14, rX9_isRest_15, rX9_isRest_18, rX9_isRest_19, rX9_isRest_22, rX9_isRest_23, kA_44, kB_44, pCX9_isRest, pSX9_isRest, pOX9_isRest, pLX9_isRest, show  nI 0 ≤ 1 from by decide, show nI 0 - nI 0 / 2 * 2 = 0 from by decide, show ¬ (2 : Int32) = 0 from by decide, show ¬ (0 : Int32) = 1 from by decide, st, kl_I, kl_J, kl_R, kl_T, kl_N, Nat.le_refl, Nat.zero_le, List.map_nil, List.map_cons, List.sum_nil, List.sum_cons, c_I, c_J, c_R, c_T, va_rf, hI_wI, hJ_wJ, hR_wR, hI_J, hI_R, hJ_I, hJ_R, hR_I, hR_J, hN_I, hN_J, hN_R, wI_I, wJ_J, upd_at, updL_at, kR_s, Option.toList, List.append_nil, List.nil_append, List.cons_append, if_true, if_false, reduceIte, Bool.false_eq_true, not_true_eq_false, not_false_eq_true, true_and, and_true, false_and, and_false, true_or, or_true,  Nat.reduceEqDiff, Nat.reduceAdd, Nat.reduceLeDiff]
    rfl
  · have st := c_stays9 (d := d) (m := false) (t := true) (v := nI 1) r0 w Q
    simp only [bI_t, bI_f] at st
    simp (implicitDefEqProofs := false) only [eX9_isRest, rX9_isRest_0, rX9_isRest_1, rX9_isRest_2, rX9_isRest_5, rX9_isRest_6, rX9_isRest_9, rX9_isRest_10, rX9_isRest_11, rX9_isRest_12, rX9_isRest_13, rX9_isRest_14, rX9_isRest_15, rX9_isRest_18, rX9_isRest_19, rX9_isRest_22, rX9_isRest_23, kA_44, kB_44, pCX9_isRest, pSX9_isRest, pOX9_isRest, pLX9_isRest, show  nI 1 ≤ 1 from by decide, show nI 1 - nI 1 / 2 * 2 = 1 from by decide, show ¬ (2 : Int32) = 0 from by decide, st, kl_I, kl_J, kl_R, kl_T, kl_N, Nat.le_refl, Nat.zero_le, List.map_nil, List.map_cons, List.sum_nil, List.sum_cons, c_I, c_J, c_R, c_T, va_rf, hI_wI, hJ_wJ, hR_wR, hI_J, hI_R, hJ_I, hJ_R, hR_I, hR_J, hN_I, hN_J, hN_R, wI_I, wJ_J, upd_at, updL_at, kR_s, Option.toList, List.append_nil, List.nil_append, List.cons_append, if_true, if_false, reduceIte, Bool.false_eq_true, not_true_eq_false, not_false_eq_true, true_and, and_true, false_and, and_false, true_or, or_true,  Nat.reduceEqDiff, Nat.reduceAdd, Nat.reduceLeDiff]
    rfl
  · have st := c_stays9 (d := d) (m := true) (t := false) (v := nI 2) r0 w Q
    simp only [bI_t, bI_f] at st
    simp (implicitDefEqProofs := false) only [eX9_isRest, rX9_isRest_0, rX9_isRest_1, rX9_isRest_2, rX9_isRest_5, rX9_isRest_6, rX9_isRest_9, rX9_isRest_10, rX9_isRest_11, rX9_isRest_12, rX9_isRest_13, rX9_isRest_14, rX9_isRest_15, rX9_isRest_18, rX9_isRest_19, rX9_isRest_22, rX9_isRest_23, kA_44, kB_44, pCX9_isRest, pSX9_isRest, pOX9_isRest, pLX9_isRest, show ¬ nI 2 ≤ 1 from by decide, show nI 2 - nI 2 / 2 * 2 = 0 from by decide, show ¬ (2 : Int32) = 0 from by decide, show ¬ (0 : Int32) = 1 from by decide, st, kl_I, kl_J, kl_R, kl_T, kl_N, Nat.le_refl, Nat.zero_le, List.map_nil, List.map_cons, List.sum_nil, List.sum_cons, c_I, c_J, c_R, c_T, va_rf, hI_wI, hJ_wJ, hR_wR, hI_J, hI_R, hJ_I, hJ_R, hR_I, hR_J, hN_I, hN_J, hN_R, wI_I, wJ_J, upd_at, updL_at, kR_s, Option.toList, List.append_nil, List.nil_append, List.cons_append, if_true, if_false, reduceIte, Bool.false_eq_true, not_true_eq_false, not_false_eq_true, true_and, and_true, false_and, and_false, true_or, or_true,  Nat.reduceEqDiff, Nat.reduceAdd, Nat.reduceLeDiff]
    rfl
  · have st := c_stays9 (d := d) (m := true) (t := true) (v := nI 3) r0 w Q
    simp only [bI_t, bI_f] at st
    simp (implicitDefEqProofs := false) only [eX9_isRest, rX9_isRest_0, rX9_isRest_1, rX9_isRest_2, rX9_isRest_5, rX9_isRest_6, rX9_isRest_9, rX9_isRest_10, rX9_isRest_11, rX9_isRest_12, rX9_isRest_13, rX9_isRest_14, rX9_isRest_15, rX9_isRest_18, rX9_isRest_19, rX9_isRest_22, rX9_isRest_23, kA_44, kB_44, pCX9_isRest, pSX9_isRest, pOX9_isRest, pLX9_isRest, show ¬ nI 3 ≤ 1 from by decide, show nI 3 - nI 3 / 2 * 2 = 1 from by decide, show ¬ (2 : Int32) = 0 from by decide, st, kl_I, kl_J, kl_R, kl_T, kl_N, Nat.le_refl, Nat.zero_le, List.map_nil, List.map_cons, List.sum_nil, List.sum_cons, c_I, c_J, c_R, c_T, va_rf, hI_wI, hJ_wJ, hR_wR, hI_J, hI_R, hJ_I, hJ_R, hR_I, hR_J, hN_I, hN_J, hN_R, wI_I, wJ_J, upd_at, updL_at, kR_s, Option.toList, List.append_nil, List.nil_append, List.cons_append, if_true, if_false, reduceIte, Bool.false_eq_true, not_true_eq_false, not_false_eq_true, true_and, and_true, false_and, and_false, true_or, or_true,  Nat.reduceEqDiff, Nat.reduceAdd, Nat.reduceLeDiff]
    rfl
theorem m_rings {d : Nat} {h : qH} {S : AS} {m t e : Bool} (I : MI h S) : ms 0 (d + 10) mX9_rings [.ref (44 : Nat), .int (bI m), .int (bI t), .int (bI e)] h (trS S (sRings S m t e).1) (some (.int (sRings S m t e).2)) := by
  have E : ∀ Q, WM (d + 10) mX9_rings [.ref (44 : Nat), .int (bI m), .int (bI t), .int (bI e)] h Q = WP (d + 10) mX9_rings (0, 0) 5 [some (.ref (44 : Nat)), some (.int (bI m)), some (.int (bI t)), some (.int (bI e))] [] (th h) Q := fun Q => by simp (implicitDefEqProofs := false) only [eX9_rings, rX9_rings_0, rX9_rings_0b, rX9_rings_1, rX9_rings_2, kA_44, kB_44, pCX9_rings, pSX9_rings, pOX9_rings, pLX9_rings, th, kl_I, kl_J, kl_R, kl_T, kl_N, Nat.le_refl, Nat.zero_le, List.map_nil, List.map_cons, List.sum_nil, List.sum_cons, c_I, c_J, c_R, c_T, va_rf, hI_wI, hJ_wJ, hR_wR, hI_J, hI_R, hJ_I, hJ_R, hR_I, hR_J, hN_I, hN_J, hN_R, wI_I, wJ_J, upd_at, updL_at, kR_s, Option.toList, List.append_nil, List.nil_append, List.cons_append, if_true, if_false, reduceIte, Bool.false_eq_true, not_true_eq_false, not_false_eq_true, true_and, and_true, false_and, and_false, true_or, or_true,  Nat.reduceEqDiff, Nat.reduceAdd, Nat.reduceLeDiff]
  rw [sRings]
  by_cases c1 : aN (sA S) = 0
  · rw [if_pos c1]
    refine ms_of (v := 1) I (by decide) E ?_
    obtain ⟨F, r⟩ := MI_n (MI_th I) c1
    generalize th h = g at F r ⊢
    exact ⟨g, fun Q => by simp (implicitDefEqProofs := false) only [rX9_rings_5, rX9_rings_5b, rX9_rings_6, rX9_rings_9, rX9_rings_9b, rX9_rings_12, rX9_rings_12b, rX9_rings_13, rX9_rings_14, rX9_rings_17, rX9_rings_20, rX9_rings_20b, rX9_rings_21, rX9_rings_22, rX9_rings_25, rX9_rings_25b, rX9_rings_26, rX9_rings_27, rX9_rings_28, rX9_rings_31, rX9_rings_34, rX9_rings_34b, rX9_rings_35, rX9_rings_36, rX9_rings_37, rX9_rings_40, rX9_rings_43, kA_44, kB_44, r, c_mlost (d := d + 8), show nI 1 = 1 from rfl, pCX9_rings, pSX9_rings, pOX9_rings, pLX9_rings, pCX9_lost, pSX9_lost, pOX9_lost, pLX9_lost, kl_I, kl_J, kl_R, kl_T, kl_N, Nat.le_refl, Nat.zero_le, List.map_nil, List.map_cons, List.sum_nil, List.sum_cons, c_I, c_J, c_R, c_T, va_rf, hI_wI, hJ_wJ, hR_wR, hI_J, hI_R, hJ_I, hJ_R, hR_I, hR_J, hN_I, hN_J, hN_R, wI_I, wJ_J, upd_at, updL_at, kR_s, Option.toList, List.append_nil, List.nil_append, List.cons_append, if_true, if_false, reduceIte, Bool.false_eq_true, not_true_eq_false, not_false_eq_true, true_and, and_true, false_and, and_false, true_or, or_true,  Nat.reduceEqDiff, Nat.reduceAdd, Nat.reduceLeDiff], kp_refl⟩
  · rw [if_neg c1]
    refine ms_of (v := 0) I (by decide) E ?_
    have I1 := MI_th I
    obtain ⟨s, k, v, t1, t2, t3, t4, t5, ww⟩ := MI_y I1 c1
    generalize th h = g at k v ⊢
    clear E I I1
    have h1 := c_gets (d := d + 9) (m := m) (t := t) k.2.1 k.2.2.1
    have h2 := c_gets (d := d + 9) (m := t) (t := m) k.2.1 k.2.2.1
    cases e with
    | true => exact ⟨g, fun Q => by simp (implicitDefEqProofs := false) only [rX9_rings_5, rX9_rings_5b, rX9_rings_6, rX9_rings_9, rX9_rings_9b, rX9_rings_12, rX9_rings_12b, rX9_rings_13, rX9_rings_14, rX9_rings_17, rX9_rings_20, rX9_rings_20b, rX9_rings_21, rX9_rings_22, rX9_rings_25, rX9_rings_25b, rX9_rings_26, rX9_rings_27, rX9_rings_28, rX9_rings_31, rX9_rings_34, rX9_rings_34b, rX9_rings_35, rX9_rings_36, rX9_rings_37, rX9_rings_40, rX9_rings_43, kA_44, kB_44, k.2.1, h1, h2, bI_t, show ¬ (1 : Int32) = 0 from by decide, c_mgood, nI_0, pCX9_rings, pSX9_rings, pOX9_rings, pLX9_rings, pCX9_gets, pSX9_gets, pOX9_gets, pLX9_gets, pCX9_good, pSX9_good, pOX9_good, pLX9_good, kl_I, kl_J, kl_R, kl_T, kl_N, Nat.le_refl, Nat.zero_le, List.map_nil, List.map_cons, List.sum_nil, List.sum_cons, c_I, c_J, c_R, c_T, va_rf, hI_wI, hJ_wJ, hR_wR, hI_J, hI_R, hJ_I, hJ_R, hR_I, hR_J, hN_I, hN_J, hN_R, wI_I, wJ_J, upd_at, updL_at, kR_s, Option.toList, List.append_nil, List.nil_append, List.cons_append, if_true, if_false, reduceIte, Bool.false_eq_true, not_true_eq_false, not_false_eq_true, true_and, and_true, false_and, and_false, true_or, or_true,  Nat.reduceEqDiff, Nat.reduceAdd, Nat.reduceLeDiff], kp_refl⟩
    | false => exact ⟨g, fun Q => by simp (implicitDefEqProofs := false) only [rX9_rings_5, rX9_rings_5b, rX9_rings_6, rX9_rings_9, rX9_rings_9b, rX9_rings_12, rX9_rings_12b, rX9_rings_13, rX9_rings_14, rX9_rings_17, rX9_rings_20, rX9_rings_20b, rX9_rings_21, rX9_rings_22, rX9_rings_25, rX9_rings_25b, rX9_rings_26, rX9_rings_27, rX9_rings_28, rX9_rings_31, rX9_rings_34, rX9_rings_34b, rX9_rings_35, rX9_rings_36, rX9_rings_37, rX9_rings_40, rX9_rings_43, kA_44, kB_44, k.2.1, h1, h2, bI_f, c_mgood, nI_0, Bool.false_eq_true, pCX9_rings, pSX9_rings, pOX9_rings, pLX9_rings, pCX9_gets, pSX9_gets, pOX9_gets, pLX9_gets, pCX9_good, pSX9_good, pOX9_good, pLX9_good, kl_I, kl_J, kl_R, kl_T, kl_N, Nat.le_refl, Nat.zero_le, List.map_nil, List.map_cons, List.sum_nil, List.sum_cons, c_I, c_J, c_R, c_T, va_rf, hI_wI, hJ_wJ, hR_wR, hI_J, hI_R, hJ_I, hJ_R, hR_I, hR_J, hN_I, hN_J, hN_R, wI_I, wJ_J, upd_at, updL_at, kR_s, Option.toList, List.append_nil, List.nil_append, List.cons_append, if_true, if_false, reduceIte, Bool.false_eq_true, not_true_eq_false, not_false_eq_true, true_and, and_true, false_and, and_false, true_or, or_true,  Nat.reduceEqDiff, Nat.reduceAdd, Nat.reduceLeDiff], kp_refl⟩
theorem l_mrests {d : Nat} {h : qH} {S : AS} {s : Nat} (r0 : hR h 44 3 = some s) (w : mSt h s (sA S)) {Q : Option (Option Value) → qH → Prop} : ∀ (k i : Nat), i + k = 4 → WP (d + 2) mX9_rests (0, 0) 22 [some (.ref (44 : Nat)), some (.int (nI (rsC S i))), some (.int (nI i))] [] h Q = Q (some (some (.int (nI (rsC S 4))))) (tm h 0) := by
  intro k
  induction k with
  | zero =>
    intro i hi
    obtain rfl : i = 4 := by omega
    simp (implicitDefEqProofs := false) only [rX9_rests_22, rX9_rests_23, rX9_rests_24, rX9_rests_27, rX9_rests_28, rX9_rests_28b, rX9_rests_29, rX9_rests_30, rX9_rests_33, rX9_rests_36, rX9_rests_37, rX9_rests_40, rX9_rests_41, rX9_rests_42, rX9_rests_49, rX9_rests_49b, rX9_rests_50, rX9_rests_51, rX9_rests_54, kA_44, kB_44, pCX9_rests, pSX9_rests, pOX9_rests, pLX9_rests, pCX9_good, pSX9_good, pOX9_good, pLX9_good, show (4 : Int32) ≤ nI 4 from by decide, c_mgood, kl_I, kl_J, kl_R, kl_T, kl_N, Nat.le_refl, Nat.zero_le, List.map_nil, List.map_cons, List.sum_nil, List.sum_cons, c_I, c_J, c_R, c_T, va_rf, hI_wI, hJ_wJ, hR_wR, hI_J, hI_R, hJ_I, hJ_R, hR_I, hR_J, hN_I, hN_J, hN_R, wI_I, wJ_J, upd_at, updL_at, kR_s, Option.toList, List.append_nil, List.nil_append, List.cons_append, if_true, if_false, reduceIte, Bool.false_eq_true, not_true_eq_false, not_false_eq_true, true_and, and_true, false_and, and_false, true_or, or_true,  Nat.reduceEqDiff, Nat.reduceAdd, Nat.reduceLeDiff]
  | succ k ih =>
    intro i hi
    have i1 := ih (i + 1) (by omega)
    have g1 : ¬ (4 : Int32) ≤ nI i := by rw [nge (x := i) (k := 4) (c := 4) rfl (by omega) (by omega)]; omega
    have st := c_isRest (d := d) (i := i) r0 w (by omega)
    rw [rsC] at i1
    cases hr : rsN S i with
    | true =>
      rw [hr, if_pos rfl] at i1
      rw [hr, bI_t] at st
      simp (implicitDefEqProofs := false) only [rX9_rests_22, rX9_rests_23, rX9_rests_24, rX9_rests_27, rX9_rests_28, rX9_rests_28b, rX9_rests_29, rX9_rests_30, rX9_rests_33, rX9_rests_36, rX9_rests_37, rX9_rests_40, rX9_rests_41, rX9_rests_42, kA_44, kB_44, pCX9_rests, pSX9_rests, pOX9_rests, pLX9_rests, pCX9_isRest, pSX9_isRest, pOX9_isRest, pLX9_isRest, g1, st, show ¬ (1 : Int32) = 0 from by decide, kl_I, kl_J, kl_R, kl_T, kl_N, Nat.le_refl, Nat.zero_le, List.map_nil, List.map_cons, List.sum_nil, List.sum_cons, c_I, c_J, c_R, c_T, va_rf, hI_wI, hJ_wJ, hR_wR, hI_J, hI_R, hJ_I, hJ_R, hR_I, hR_J, hN_I, hN_J, hN_R, wI_I, wJ_J, upd_at, updL_at, kR_s, Option.toList, List.append_nil, List.nil_append, List.cons_append, if_true, if_false, reduceIte, Bool.false_eq_true, not_true_eq_false, not_false_eq_true, true_and, and_true, false_and, and_false, true_or, or_true,  Nat.reduceEqDiff, Nat.reduceAdd, Nat.reduceLeDiff]
      rw [rX9_rests_43, nI_1, nI_1]
      simp (implicitDefEqProofs := false) only [rX9_rests_46, kl_I, kl_J, kl_R, kl_T, kl_N, Nat.le_refl, Nat.zero_le, List.map_nil, List.map_cons, List.sum_nil, List.sum_cons, c_I, c_J, c_R, c_T, va_rf, hI_wI, hJ_wJ, hR_wR, hI_J, hI_R, hJ_I, hJ_R, hR_I, hR_J, hN_I, hN_J, hN_R, wI_I, wJ_J, upd_at, updL_at, kR_s, Option.toList, List.append_nil, List.nil_append, List.cons_append, if_true, if_false, reduceIte, Bool.false_eq_true, not_true_eq_false, not_false_eq_true, true_and, and_true, false_and, and_false, true_or, or_true,  Nat.reduceEqDiff, Nat.reduceAdd, Nat.reduceLeDiff]
      exact i1
    | false =>
      rw [hr, if_neg (by decide)] at i1
      rw [hr, bI_f] at st
      simp (implicitDefEqProofs := false) only [rX9_rests_22, rX9_rests_23, rX9_rests_24, rX9_rests_27, rX9_rests_28, rX9_rests_28b, rX9_rests_29, rX9_rests_30, rX9_rests_33, rX9_rests_36, rX9_rests_37, rX9_rests_40, rX9_rests_41, rX9_rests_42, kA_44, kB_44, pCX9_rests, pSX9_rests, pOX9_rests, pLX9_rests, pCX9_isRest, pSX9_isRest, pOX9_isRest, pLX9_isRest, g1, st, show (0 : Int32) = nI 0 from rfl, nI_add, kl_I, kl_J, kl_R, kl_T, kl_N, Nat.le_refl, Nat.zero_le, List.map_nil, List.map_cons, List.sum_nil, List.sum_cons, c_I, c_J, c_R, c_T, va_rf, hI_wI, hJ_wJ, hR_wR, hI_J, hI_R, hJ_I, hJ_R, hR_I, hR_J, hN_I, hN_J, hN_R, wI_I, wJ_J, upd_at, updL_at, kR_s, Option.toList, List.append_nil, List.nil_append, List.cons_append, if_true, if_false, reduceIte, Bool.false_eq_true, not_true_eq_false, not_false_eq_true, true_and, and_true, false_and, and_false, true_or, or_true,  Nat.reduceEqDiff, Nat.reduceAdd, Nat.reduceLeDiff]
      rw [rX9_rests_43, nI_1]
      simp (implicitDefEqProofs := false) only [rX9_rests_46, kl_I, kl_J, kl_R, kl_T, kl_N, Nat.le_refl, Nat.zero_le, List.map_nil, List.map_cons, List.sum_nil, List.sum_cons, c_I, c_J, c_R, c_T, va_rf, hI_wI, hJ_wJ, hR_wR, hI_J, hI_R, hJ_I, hJ_R, hR_I, hR_J, hN_I, hN_J, hN_R, wI_I, wJ_J, upd_at, updL_at, kR_s, Option.toList, List.append_nil, List.nil_append, List.cons_append, if_true, if_false, reduceIte, Bool.false_eq_true, not_true_eq_false, not_false_eq_true, true_and, and_true, false_and, and_false, true_or, or_true,  Nat.reduceEqDiff, Nat.reduceAdd, Nat.reduceLeDiff]
      exact i1
theorem l_mrest {d : Nat} {h : qH} {S : AS} {s : Nat} (r0 : hR h 44 3 = some s) (w : mSt h s (sA S)) {Q : Option (Option Value) → qH → Prop} : ∀ (k i : Nat), i + k = 4 → WP (d + 2) mX9_rest (0, 0) 20 [some (.ref (44 : Nat)), some (.int (nI i))] [] h Q = Q (some (some (.int (oI (rsF S k i))))) (tm h 0) := by
  intro k
  induction k with
  | zero =>
    intro i hi
    obtain rfl : i = 4 := by omega
    simp (implicitDefEqProofs := false) only [rX9_rest_20, rX9_rest_21, rX9_rest_22, rX9_rest_25, rX9_rest_25b, rX9_rest_26, rX9_rest_27, rX9_rest_30, rX9_rest_33, rX9_rest_33b, rX9_rest_34, rX9_rest_36, rX9_rest_37, rX9_rest_38, rX9_rest_39, rX9_rest_40, rX9_rest_41, rX9_rest_42, rX9_rest_43, rX9_rest_44, rX9_rest_47, rX9_rest_54, rX9_rest_54b, rX9_rest_55, rX9_rest_57, rX9_rest_60, kA_44, kB_44, pCX9_rest, pSX9_rest, pOX9_rest, pLX9_rest, pCX9_good, pSX9_good, pOX9_good, pLX9_good, show (4 : Int32) ≤ nI 4 from by decide, c_mgood, rsF, oI_no, kl_I, kl_J, kl_R, kl_T, kl_N, Nat.le_refl, Nat.zero_le, List.map_nil, List.map_cons, List.sum_nil, List.sum_cons, c_I, c_J, c_R, c_T, va_rf, hI_wI, hJ_wJ, hR_wR, hI_J, hI_R, hJ_I, hJ_R, hR_I, hR_J, hN_I, hN_J, hN_R, wI_I, wJ_J, upd_at, updL_at, kR_s, Option.toList, List.append_nil, List.nil_append, List.cons_append, if_true, if_false, reduceIte, Bool.false_eq_true, not_true_eq_false, not_false_eq_true, true_and, and_true, false_and, and_false, true_or, or_true,  Nat.reduceEqDiff, Nat.reduceAdd, Nat.reduceLeDiff]
  | succ k ih =>
    intro i hi
    have i1 := ih (i + 1) (by omega)
    have g1 : ¬ (4 : Int32) ≤ nI i := by rw [nge (x := i) (k := 4) (c := 4) rfl (by omega) (by omega)]; omega
    have st := c_isRest (d := d) (i := i) r0 w (by omega)
    have g3 : nI i - nI i / 2 * 2 = nI (i % 2) := pk_rem (d := 2) (by omega) (by omega) (by omega)
    have g5 : nI i / 2 = nI (i / 2) := pk_div (d := 2) (by omega) (by omega) (by omega)
    have g3' : nI i - nI (i / 2) * 2 = nI (i % 2) := by rw [← g5]; exact g3
    have g6 : 10 * nI (i / 2) + nI (i % 2) = nI (i / 2 * 10 + i % 2) := by rw [show (10 : Int32) = nI 10 from rfl, nI_mul, nI_add, Nat.mul_comm]
    rw [rsF]
    cases hr : rsN S i with
    | true =>
      rw [if_pos rfl]
      rw [hr, bI_t] at st
      simp (implicitDefEqProofs := false) only [rX9_rest_20, rX9_rest_21, rX9_rest_22, rX9_rest_25, rX9_rest_25b, rX9_rest_26, rX9_rest_27, rX9_rest_30, rX9_rest_33, rX9_rest_33b, rX9_rest_34, rX9_rest_36, rX9_rest_37, rX9_rest_38, rX9_rest_39, rX9_rest_40, rX9_rest_41, rX9_rest_42, rX9_rest_43, rX9_rest_44, rX9_rest_47, kA_44, kB_44, pCX9_rest, pSX9_rest, pOX9_rest, pLX9_rest, pCX9_isRest, pSX9_isRest, pOX9_isRest, pLX9_isRest, pCX9_good, pSX9_good, pOX9_good, pLX9_good, g1, st, show ¬ (1 : Int32) = 0 from by decide, show ¬ (2 : Int32) = 0 from by decide, g5, g3', g6, c_mgood, oI_so, kl_I, kl_J, kl_R, kl_T, kl_N, Nat.le_refl, Nat.zero_le, List.map_nil, List.map_cons, List.sum_nil, List.sum_cons, c_I, c_J, c_R, c_T, va_rf, hI_wI, hJ_wJ, hR_wR, hI_J, hI_R, hJ_I, hJ_R, hR_I, hR_J, hN_I, hN_J, hN_R, wI_I, wJ_J, upd_at, updL_at, kR_s, Option.toList, List.append_nil, List.nil_append, List.cons_append, if_true, if_false, reduceIte, Bool.false_eq_true, not_true_eq_false, not_false_eq_true, true_and, and_true, false_and, and_false, true_or, or_true,  Nat.reduceEqDiff, Nat.reduceAdd, Nat.reduceLeDiff]
    | false =>
      rw [if_neg (by decide)]
      rw [hr, bI_f] at st
      simp (implicitDefEqProofs := false) only [rX9_rest_20, rX9_rest_21, rX9_rest_22, rX9_rest_25, rX9_rest_25b, rX9_rest_26, rX9_rest_27, rX9_rest_30, rX9_rest_33, rX9_rest_33b, rX9_rest_34, rX9_rest_36, rX9_rest_37, rX9_rest_38, rX9_rest_39, rX9_rest_40, rX9_rest_41, rX9_rest_42, rX9_rest_43, rX9_rest_44, rX9_rest_47, kA_44, kB_44, pCX9_rest, pSX9_rest, pOX9_rest, pLX9_rest, pCX9_isRest, pSX9_isRest, pOX9_isRest, pLX9_isRest, g1, st, kl_I, kl_J, kl_R, kl_T, kl_N, Nat.le_refl, Nat.zero_le, List.map_nil, List.map_cons, List.sum_nil, List.sum_cons, c_I, c_J, c_R, c_T, va_rf, hI_wI, hJ_wJ, hR_wR, hI_J, hI_R, hJ_I, hJ_R, hR_I, hR_J, hN_I, hN_J, hN_R, wI_I, wJ_J, upd_at, updL_at, kR_s, Option.toList, List.append_nil, List.nil_append, List.cons_append, if_true, if_false, reduceIte, Bool.false_eq_true, not_true_eq_false, not_false_eq_true, true_and, and_true, false_and, and_false, true_or, or_true,  Nat.reduceEqDiff, Nat.reduceAdd, Nat.reduceLeDiff]
      rw [rX9_rest_48, nI_1]
      simp (implicitDefEqProofs := false) only [rX9_rest_51, kl_I, kl_J, kl_R, kl_T, kl_N, Nat.le_refl, Nat.zero_le, List.map_nil, List.map_cons, List.sum_nil, List.sum_cons, c_I, c_J, c_R, c_T, va_rf, hI_wI, hJ_wJ, hR_wR, hI_J, hI_R, hJ_I, hJ_R, hR_I, hR_J, hN_I, hN_J, hN_R, wI_I, wJ_J, upd_at, updL_at, kR_s, Option.toList, List.append_nil, List.nil_append, List.cons_append, if_true, if_false, reduceIte, Bool.false_eq_true, not_true_eq_false, not_false_eq_true, true_and, and_true, false_and, and_false, true_or, or_true,  Nat.reduceEqDiff, Nat.reduceAdd, Nat.reduceLeDiff]
      exact i1
theorem m_rests {d : Nat} {h : qH} {S : AS} (I : MI h S) : ms 0 (d + 10) mX9_rests [.ref (44 : Nat)] h (trS S (sRests S).1) (some (.int (sRests S).2)) := by
  have E : ∀ Q, WM (d + 10) mX9_rests [.ref (44 : Nat)] h Q = WP (d + 10) mX9_rests (0, 0) 5 [some (.ref (44 : Nat)), none, none] [] (th h) Q := fun Q => by simp (implicitDefEqProofs := false) only [eX9_rests, rX9_rests_0, rX9_rests_0b, rX9_rests_1, rX9_rests_2, kA_44, kB_44, pCX9_rests, pSX9_rests, pOX9_rests, pLX9_rests, th, kl_I, kl_J, kl_R, kl_T, kl_N, Nat.le_refl, Nat.zero_le, List.map_nil, List.map_cons, List.sum_nil, List.sum_cons, c_I, c_J, c_R, c_T, va_rf, hI_wI, hJ_wJ, hR_wR, hI_J, hI_R, hJ_I, hJ_R, hR_I, hR_J, hN_I, hN_J, hN_R, wI_I, wJ_J, upd_at, updL_at, kR_s, Option.toList, List.append_nil, List.nil_append, List.cons_append, if_true, if_false, reduceIte, Bool.false_eq_true, not_true_eq_false, not_false_eq_true, true_and, and_true, false_and, and_false, true_or, or_true,  Nat.reduceEqDiff, Nat.reduceAdd, Nat.reduceLeDiff]
  rw [sRests]
  by_cases c1 : aN (sA S) = 0
  · rw [if_pos c1]
    refine ms_of (v := 1) I (by decide) E ?_
    obtain ⟨F, r⟩ := MI_n (MI_th I) c1
    generalize th h = g at F r ⊢
    exact ⟨g, fun Q => by simp (implicitDefEqProofs := false) only [rX9_rests_5, rX9_rests_5b, rX9_rests_6, rX9_rests_9, rX9_rests_9b, rX9_rests_12, rX9_rests_12b, rX9_rests_13, rX9_rests_14, rX9_rests_17, kA_44, kB_44, r, c_mrefused, show nI 1 = 1 from rfl, pCX9_rests, pSX9_rests, pOX9_rests, pLX9_rests, pCX9_refused, pSX9_refused, pOX9_refused, pLX9_refused, kl_I, kl_J, kl_R, kl_T, kl_N, Nat.le_refl, Nat.zero_le, List.map_nil, List.map_cons, List.sum_nil, List.sum_cons, c_I, c_J, c_R, c_T, va_rf, hI_wI, hJ_wJ, hR_wR, hI_J, hI_R, hJ_I, hJ_R, hR_I, hR_J, hN_I, hN_J, hN_R, wI_I, wJ_J, upd_at, updL_at, kR_s, Option.toList, List.append_nil, List.nil_append, List.cons_append, if_true, if_false, reduceIte, Bool.false_eq_true, not_true_eq_false, not_false_eq_true, true_and, and_true, false_and, and_false, true_or, or_true,  Nat.reduceEqDiff, Nat.reduceAdd, Nat.reduceLeDiff], kp_refl⟩
  · rw [if_neg c1]
    refine ms_of (v := 0) I (by decide) E ?_
    have I1 := MI_th I
    obtain ⟨s, k, v, t1, t2, t3, t4, t5, ww⟩ := MI_y I1 c1
    generalize th h = g at k v ⊢
    clear E I I1
    have h6 := ww.1
    have F := k.1
    have hs := k.2.2.1.1
    have f := k.2.2.1.2.1
    refine ⟨g, fun Q => ?_, kp_refl⟩
    have l := l_mrests (d := d + 8) (S := S) (Q := Q) k.2.1 k.2.2.1 4 0 (by omega)
    simp (implicitDefEqProofs := false) only [rX9_rests_5, rX9_rests_5b, rX9_rests_6, rX9_rests_9, rX9_rests_9b, rX9_rests_12, rX9_rests_12b, rX9_rests_13, rX9_rests_14, rX9_rests_17, rX9_rests_18, rX9_rests_19, rX9_rests_20, rX9_rests_21, kA_44, kB_44, k.2.1, pCX9_rests, pSX9_rests, pOX9_rests, pLX9_rests, kl_I, kl_J, kl_R, kl_T, kl_N, Nat.le_refl, Nat.zero_le, List.map_nil, List.map_cons, List.sum_nil, List.sum_cons, c_I, c_J, c_R, c_T, va_rf, hI_wI, hJ_wJ, hR_wR, hI_J, hI_R, hJ_I, hJ_R, hR_I, hR_J, hN_I, hN_J, hN_R, wI_I, wJ_J, upd_at, updL_at, kR_s, Option.toList, List.append_nil, List.nil_append, List.cons_append, if_true, if_false, reduceIte, Bool.false_eq_true, not_true_eq_false, not_false_eq_true, true_and, and_true, false_and, and_false, true_or, or_true,  Nat.reduceEqDiff, Nat.reduceAdd, Nat.reduceLeDiff]
    exact l
theorem m_rest {d : Nat} {h : qH} {S : AS} (I : MI h S) : ms 0 (d + 10) mX9_rest [.ref (44 : Nat)] h (trS S (sRest S).1) (some (.int (sRest S).2)) := by
  have E : ∀ Q, WM (d + 10) mX9_rest [.ref (44 : Nat)] h Q = WP (d + 10) mX9_rest (0, 0) 5 [some (.ref (44 : Nat)), none] [] (th h) Q := fun Q => by simp (implicitDefEqProofs := false) only [eX9_rest, rX9_rest_0, rX9_rest_0b, rX9_rest_1, rX9_rest_2, kA_44, kB_44, pCX9_rest, pSX9_rest, pOX9_rest, pLX9_rest, th, kl_I, kl_J, kl_R, kl_T, kl_N, Nat.le_refl, Nat.zero_le, List.map_nil, List.map_cons, List.sum_nil, List.sum_cons, c_I, c_J, c_R, c_T, va_rf, hI_wI, hJ_wJ, hR_wR, hI_J, hI_R, hJ_I, hJ_R, hR_I, hR_J, hN_I, hN_J, hN_R, wI_I, wJ_J, upd_at, updL_at, kR_s, Option.toList, List.append_nil, List.nil_append, List.cons_append, if_true, if_false, reduceIte, Bool.false_eq_true, not_true_eq_false, not_false_eq_true, true_and, and_true, false_and, and_false, true_or, or_true,  Nat.reduceEqDiff, Nat.reduceAdd, Nat.reduceLeDiff]
  rw [sRest]
  by_cases c1 : aN (sA S) = 0
  · rw [if_pos c1]
    refine ms_of (v := 1) I (by decide) E ?_
    obtain ⟨F, r⟩ := MI_n (MI_th I) c1
    generalize th h = g at F r ⊢
    exact ⟨g, fun Q => by simp (implicitDefEqProofs := false) only [rX9_rest_5, rX9_rest_5b, rX9_rest_6, rX9_rest_9, rX9_rest_9b, rX9_rest_12, rX9_rest_12b, rX9_rest_13, rX9_rest_14, rX9_rest_17, kA_44, kB_44, r, c_mrefused, show nI 1 = 1 from rfl, pCX9_rest, pSX9_rest, pOX9_rest, pLX9_rest, pCX9_refused, pSX9_refused, pOX9_refused, pLX9_refused, kl_I, kl_J, kl_R, kl_T, kl_N, Nat.le_refl, Nat.zero_le, List.map_nil, List.map_cons, List.sum_nil, List.sum_cons, c_I, c_J, c_R, c_T, va_rf, hI_wI, hJ_wJ, hR_wR, hI_J, hI_R, hJ_I, hJ_R, hR_I, hR_J, hN_I, hN_J, hN_R, wI_I, wJ_J, upd_at, updL_at, kR_s, Option.toList, List.append_nil, List.nil_append, List.cons_append, if_true, if_false, reduceIte, Bool.false_eq_true, not_true_eq_false, not_false_eq_true, true_and, and_true, false_and, and_false, true_or, or_true,  Nat.reduceEqDiff, Nat.reduceAdd, Nat.reduceLeDiff], kp_refl⟩
  · rw [if_neg c1]
    refine ms_of (v := 0) I (by decide) E ?_
    have I1 := MI_th I
    obtain ⟨s, k, v, t1, t2, t3, t4, t5, ww⟩ := MI_y I1 c1
    generalize th h = g at k v ⊢
    clear E I I1
    have h6 := ww.1
    have F := k.1
    have hs := k.2.2.1.1
    have f := k.2.2.1.2.1
    refine ⟨g, fun Q => ?_, kp_refl⟩
    have l := l_mrest (d := d + 8) (S := S) (Q := Q) k.2.1 k.2.2.1 4 0 (by omega)
    simp (implicitDefEqProofs := false) only [rX9_rest_5, rX9_rest_5b, rX9_rest_6, rX9_rest_9, rX9_rest_9b, rX9_rest_12, rX9_rest_12b, rX9_rest_13, rX9_rest_14, rX9_rest_17, rX9_rest_18, rX9_rest_19, kA_44, kB_44, k.2.1, pCX9_rest, pSX9_rest, pOX9_rest, pLX9_rest, kl_I, kl_J, kl_R, kl_T, kl_N, Nat.le_refl, Nat.zero_le, List.map_nil, List.map_cons, List.sum_nil, List.sum_cons, c_I, c_J, c_R, c_T, va_rf, hI_wI, hJ_wJ, hR_wR, hI_J, hI_R, hJ_I, hJ_R, hR_I, hR_J, hN_I, hN_J, hN_R, wI_I, wJ_J, upd_at, updL_at, kR_s, Option.toList, List.append_nil, List.nil_append, List.cons_append, if_true, if_false, reduceIte, Bool.false_eq_true, not_true_eq_false, not_false_eq_true, true_and, and_true, false_and, and_false, true_or, or_true,  Nat.reduceEqDiff, Nat.reduceAdd, Nat.reduceLeDiff]
    exact l
theorem l_as1 {d : Nat} {h : qH} (F : Fin0 (hR h)) {Q : Option (Option Value) → qH → Prop} : ∀ (k i : Nat), i + k = 10 → WP d mX9_asTold (0, 0) 2 [some (.ref (44 : Nat)), some (.int (nI i))] [] (wI h 47 (fil i (fun _ => 0) (hI h 47))) Q = WP d mX9_asTold (0, 0) 21 [some (.ref (44 : Nat)), some (.int 10)] [] (wI h 47 (fil 10 (fun _ => 0) (hI h 47))) Q := by
  intro k
  induction k with
  | zero =>
    intro i hi
    obtain rfl : i = 10 := by omega
    simp (implicitDefEqProofs := false) only [rX9_asTold_2, rX9_asTold_3, rX9_asTold_5, rX9_asTold_8, rX9_asTold_8b, rX9_asTold_9, rX9_asTold_12, rX9_asTold_13, rX9_asTold_14, pCX9_asTold, pSX9_asTold, pOX9_asTold, pLX9_asTold, show nI 10 = 10 from rfl, Int32.le_refl, kl_I, kl_J, kl_R, kl_T, kl_N, Nat.le_refl, Nat.zero_le, List.map_nil, List.map_cons, List.sum_nil, List.sum_cons, c_I, c_J, c_R, c_T, va_rf, hI_wI, hJ_wJ, hR_wR, hI_J, hI_R, hJ_I, hJ_R, hR_I, hR_J, hN_I, hN_J, hN_R, wI_I, wJ_J, upd_at, updL_at, kR_s, Option.toList, List.append_nil, List.nil_append, List.cons_append, if_true, if_false, reduceIte, Bool.false_eq_true, not_true_eq_false, not_false_eq_true, true_and, and_true, false_and, and_false, true_or, or_true,  Nat.reduceEqDiff, Nat.reduceAdd, Nat.reduceLeDiff]
  | succ k ih =>
    intro i hi
    have v10 : vp_in (nI i) 10 := nI_vp (by omega) (by decide)
    have cl : (nI i).toNatClampNeg = i := nI_cl (by omega)
    have i1 := ih (i + 1) (by omega)
    rw [← fil_s] at i1
    simp (implicitDefEqProofs := false) only [rX9_asTold_2, rX9_asTold_3, rX9_asTold_5, rX9_asTold_8, rX9_asTold_8b, rX9_asTold_9, rX9_asTold_12, rX9_asTold_13, rX9_asTold_14, kA_44, kB_44, kA_47, kB_47, fin_44_5 F, fin_44_15 F, fin_44_16 F, fin_44_17 F, fin_44_18 F, fin_44_21 F, fin_44_23 F, fin_44_24 F, fin_44_25 F, fin_44_29 F, fin_44_33 F, nge (x := i) (k := 10) (c := 10) rfl (by omega) (by omega), show ¬ 10 ≤ i from by omega, v10, cl, pCX9_asTold, pSX9_asTold, pOX9_asTold, pLX9_asTold, kl_I, kl_J, kl_R, kl_T, kl_N, Nat.le_refl, Nat.zero_le, List.map_nil, List.map_cons, List.sum_nil, List.sum_cons, c_I, c_J, c_R, c_T, va_rf, hI_wI, hJ_wJ, hR_wR, hI_J, hI_R, hJ_I, hJ_R, hR_I, hR_J, hN_I, hN_J, hN_R, wI_I, wJ_J, upd_at, updL_at, kR_s, Option.toList, List.append_nil, List.nil_append, List.cons_append, if_true, if_false, reduceIte, Bool.false_eq_true, not_true_eq_false, not_false_eq_true, true_and, and_true, false_and, and_false, true_or, or_true,  Nat.reduceEqDiff, Nat.reduceAdd, Nat.reduceLeDiff]
    rw [rX9_asTold_15, nI_1]
    simp (implicitDefEqProofs := false) only [rX9_asTold_18, kl_I, kl_J, kl_R, kl_T, kl_N, Nat.le_refl, Nat.zero_le, List.map_nil, List.map_cons, List.sum_nil, List.sum_cons, c_I, c_J, c_R, c_T, va_rf, hI_wI, hJ_wJ, hR_wR, hI_J, hI_R, hJ_I, hJ_R, hR_I, hR_J, hN_I, hN_J, hN_R, wI_I, wJ_J, upd_at, updL_at, kR_s, Option.toList, List.append_nil, List.nil_append, List.cons_append, if_true, if_false, reduceIte, Bool.false_eq_true, not_true_eq_false, not_false_eq_true, true_and, and_true, false_and, and_false, true_or, or_true,  Nat.reduceEqDiff, Nat.reduceAdd, Nat.reduceLeDiff]
    exact i1
theorem l_as2 {d : Nat} {h : qH} {s : Nat} {a : aS} {G : Nat → Int32} (F : Fin0 (hR h)) (r : hR h 44 3 = some s) (w : mSt h s a) {Q : Option (Option Value) → qH → Prop} : ∀ (k i : Nat), i + k = aN a → WP d mX9_asTold (0, 0) 23 [some (.ref (44 : Nat)), some (.int (nI i))] [] (wI h 47 (fil i (hI h (s + 2)) G)) Q = WP d mX9_asTold (0, 0) 55 [some (.ref (44 : Nat)), some (.int (nI (aN a)))] [] (wI h 47 (fil (aN a) (hI h (s + 2)) G)) Q := by
  have hs := w.1
  have f := w.2.1
  have h6 := w.2.2.1.1
  have e1 := w.2.2.2.1.2.1
  intro k
  induction k with
  | zero =>
    intro i hi
    obtain rfl : i = aN a := by omega
    simp (implicitDefEqProofs := false) only [rX9_asTold_23, rX9_asTold_24, rX9_asTold_24b, rX9_asTold_25, rX9_asTold_28, rX9_asTold_31, rX9_asTold_34, rX9_asTold_34b, rX9_asTold_35, rX9_asTold_38, rX9_asTold_39, rX9_asTold_39b, rX9_asTold_40, rX9_asTold_43, rX9_asTold_46, rX9_asTold_47, rX9_asTold_48, kA_44, kB_44, kA_47, kB_47, kU0 hs, nU hs, r, e1, pCX9_asTold, pSX9_asTold, pOX9_asTold, pLX9_asTold, Int32.le_refl, kl_I, kl_J, kl_R, kl_T, kl_N, Nat.le_refl, Nat.zero_le, List.map_nil, List.map_cons, List.sum_nil, List.sum_cons, c_I, c_J, c_R, c_T, va_rf, hI_wI, hJ_wJ, hR_wR, hI_J, hI_R, hJ_I, hJ_R, hR_I, hR_J, hN_I, hN_J, hN_R, wI_I, wJ_J, upd_at, updL_at, kR_s, Option.toList, List.append_nil, List.nil_append, List.cons_append, if_true, if_false, reduceIte, Bool.false_eq_true, not_true_eq_false, not_false_eq_true, true_and, and_true, false_and, and_false, true_or, or_true,  Nat.reduceEqDiff, Nat.reduceAdd, Nat.reduceLeDiff]
  | succ k ih =>
    intro i hi
    have hlt : i < aN a := by omega
    have g1 : ¬ nI (aN a) ≤ nI i := nI_ge hlt (by omega)
    have v10 : vp_in (nI i) 10 := nI_vp (by omega) (by decide)
    have v6 : vp_in (nI i) 6 := nI_vp (by omega) (by decide)
    have cl : (nI i).toNatClampNeg = i := nI_cl (by omega)
    have i1 := ih (i + 1) (by omega)
    rw [← fil_s] at i1
    simp (implicitDefEqProofs := false) only [rX9_asTold_23, rX9_asTold_24, rX9_asTold_24b, rX9_asTold_25, rX9_asTold_28, rX9_asTold_31, rX9_asTold_34, rX9_asTold_34b, rX9_asTold_35, rX9_asTold_38, rX9_asTold_39, rX9_asTold_39b, rX9_asTold_40, rX9_asTold_43, rX9_asTold_46, rX9_asTold_47, rX9_asTold_48, kA_44, kB_44, kA_47, kB_47, fin_44_5 F, fin_44_15 F, fin_44_16 F, fin_44_17 F, fin_44_18 F, fin_44_21 F, fin_44_23 F, fin_44_24 F, fin_44_25 F, fin_44_29 F, fin_44_33 F, kU0 hs, kU1 hs, kV1 hs, fU1 f, kU2 hs, kV2 hs, fU2 f, kU3 hs, kV3 hs, fU3 f, kU4 hs, kV4 hs, fU4 f, kU5 hs, kV5 hs, fU5 f, kU6 hs, kV6 hs, fU6 f, kU7 hs, kV7 hs, fU7 f, kU8 hs, kV8 hs, fU8 f, kU9 hs, kV9 hs, fU9 f, kU10 hs, kV10 hs, fU10 f, kU11 hs, kV11 hs, fU11 f, kU12 hs, kV12 hs, fU12 f, nU hs, nUk hs, r, e1, g1, v10, v6, cl, pCX9_asTold, pSX9_asTold, pOX9_asTold, pLX9_asTold, kl_I, kl_J, kl_R, kl_T, kl_N, Nat.le_refl, Nat.zero_le, List.map_nil, List.map_cons, List.sum_nil, List.sum_cons, c_I, c_J, c_R, c_T, va_rf, hI_wI, hJ_wJ, hR_wR, hI_J, hI_R, hJ_I, hJ_R, hR_I, hR_J, hN_I, hN_J, hN_R, wI_I, wJ_J, upd_at, updL_at, kR_s, Option.toList, List.append_nil, List.nil_append, List.cons_append, if_true, if_false, reduceIte, Bool.false_eq_true, not_true_eq_false, not_false_eq_true, true_and, and_true, false_and, and_false, true_or, or_true,  Nat.reduceEqDiff, Nat.reduceAdd, Nat.reduceLeDiff]
    rw [rX9_asTold_49, nI_1]
    simp (implicitDefEqProofs := false) only [rX9_asTold_52, kl_I, kl_J, kl_R, kl_T, kl_N, Nat.le_refl, Nat.zero_le, List.map_nil, List.map_cons, List.sum_nil, List.sum_cons, c_I, c_J, c_R, c_T, va_rf, hI_wI, hJ_wJ, hR_wR, hI_J, hI_R, hJ_I, hJ_R, hR_I, hR_J, hN_I, hN_J, hN_R, wI_I, wJ_J, upd_at, updL_at, kR_s, Option.toList, List.append_nil, List.nil_append, List.cons_append, if_true, if_false, reduceIte, Bool.false_eq_true, not_true_eq_false, not_false_eq_true, true_and, and_true, false_and, and_false, true_or, or_true,  Nat.reduceEqDiff, Nat.reduceAdd, Nat.reduceLeDiff]
    exact i1
theorem causeN_0 {a : aS} {j : Nat} : causeN a 0 j = aCs a j := by
  unfold causeN
  cases aCs a j <;> simp
theorem cutN_0 {a : aS} : cutN a 0 = 0 := by
  apply Nat.eq_of_testBit_eq
  intro i
  unfold cutN
  rw [bm_bit]
  simp [cutP]
theorem c_asTold {d : Nat} {h : qH} {s : Nat} {a : aS} (F : Fin0 (hR h)) (r : hR h 44 3 = some s) (w : mSt h s a) : ∃ G, (∀ Q, WM d mX9_asTold [.ref (44 : Nat)] h Q = Q (some none) (wI h 47 G)) ∧ vF G a (0, aPu a, 0) := by
  have hs := w.1
  have f := w.2.1
  have h6 := w.2.2.1.1
  refine ⟨upd (fil (aN a) (hI h (s + 2)) (fil 10 (fun _ => 0) (hI h 47))) 8 (nI (aPu a)), fun Q => ?_, fun j hj => ?_, ?_, ?_, ?_, ?_⟩
  · have e1 := l_as1 (d := d) (Q := Q) F 10 0 (by omega)
    rw [fil_0, wI_same] at e1
    have w1 := mSt_w (b := 47) (f := fil 10 (fun _ => 0) (hI h 47)) w (by omega)
    have e2 := l_as2 (d := d) (h := wI h 47 (fil 10 (fun _ => 0) (hI h 47))) (G := fil 10 (fun _ => 0) (hI h 47)) (Q := Q) F r w1 (aN a) 0 (by omega)
    rw [fil_0] at e2
    have n47 : (s + 2 = 47) = False := nUk hs 2 47 (by omega)
    simp (implicitDefEqProofs := false) only [wI_I, hI_wI, n47, kl_I, kl_J, kl_R, kl_T, kl_N, Nat.le_refl, Nat.zero_le, List.map_nil, List.map_cons, List.sum_nil, List.sum_cons, c_I, c_J, c_R, c_T, va_rf, hI_wI, hJ_wJ, hR_wR, hI_J, hI_R, hJ_I, hJ_R, hR_I, hR_J, hN_I, hN_J, hN_R, wI_I, wJ_J, upd_at, updL_at, kR_s, Option.toList, List.append_nil, List.nil_append, List.cons_append, if_true, if_false, reduceIte, Bool.false_eq_true, not_true_eq_false, not_false_eq_true, true_and, and_true, false_and, and_false, true_or, or_true,  Nat.reduceEqDiff, Nat.reduceAdd, Nat.reduceLeDiff] at e2
    have v8 : vp_in 8 10 := nI_vp (i := 8) (by omega) (by decide)
    have cl8 : (8 : Int32).toNatClampNeg = 8 := rfl
    have ep := w.2.2.2.1.2.2.2.2.2.2.2.2
    simp (implicitDefEqProofs := false) only [eX9_asTold, rX9_asTold_0, rX9_asTold_1, show (0 : Int32) = nI 0 from rfl, kl_I, kl_J, kl_R, kl_T, kl_N, Nat.le_refl, Nat.zero_le, List.map_nil, List.map_cons, List.sum_nil, List.sum_cons, c_I, c_J, c_R, c_T, va_rf, hI_wI, hJ_wJ, hR_wR, hI_J, hI_R, hJ_I, hJ_R, hR_I, hR_J, hN_I, hN_J, hN_R, wI_I, wJ_J, upd_at, updL_at, kR_s, Option.toList, List.append_nil, List.nil_append, List.cons_append, if_true, if_false, reduceIte, Bool.false_eq_true, not_true_eq_false, not_false_eq_true, true_and, and_true, false_and, and_false, true_or, or_true,  Nat.reduceEqDiff, Nat.reduceAdd, Nat.reduceLeDiff]
    rw [e1]
    simp (implicitDefEqProofs := false) only [rX9_asTold_21, rX9_asTold_22, kl_I, kl_J, kl_R, kl_T, kl_N, Nat.le_refl, Nat.zero_le, List.map_nil, List.map_cons, List.sum_nil, List.sum_cons, c_I, c_J, c_R, c_T, va_rf, hI_wI, hJ_wJ, hR_wR, hI_J, hI_R, hJ_I, hJ_R, hR_I, hR_J, hN_I, hN_J, hN_R, wI_I, wJ_J, upd_at, updL_at, kR_s, Option.toList, List.append_nil, List.nil_append, List.cons_append, if_true, if_false, reduceIte, Bool.false_eq_true, not_true_eq_false, not_false_eq_true, true_and, and_true, false_and, and_false, true_or, or_true,  Nat.reduceEqDiff, Nat.reduceAdd, Nat.reduceLeDiff]
    change WP d mX9_asTold (0, 0) 23 [some (.ref (44 : Nat)), some (.int (nI 0))] [] (wI h 47 (fil 10 (fun _ => 0) (hI h 47))) Q = _
    rw [e2]
    simp (implicitDefEqProofs := false) only [rX9_asTold_55, rX9_asTold_55b, rX9_asTold_56, rX9_asTold_59, rX9_asTold_61, rX9_asTold_61b, rX9_asTold_62, rX9_asTold_65, rX9_asTold_68, rX9_asTold_69, kA_44, kB_44, kA_47, kB_47, fin_44_5 F, fin_44_15 F, fin_44_16 F, fin_44_17 F, fin_44_18 F, fin_44_21 F, fin_44_23 F, fin_44_24 F, fin_44_25 F, fin_44_29 F, fin_44_33 F, kU0 hs, kU1 hs, kV1 hs, fU1 f, kU2 hs, kV2 hs, fU2 f, kU3 hs, kV3 hs, fU3 f, kU4 hs, kV4 hs, fU4 f, kU5 hs, kV5 hs, fU5 f, kU6 hs, kV6 hs, fU6 f, kU7 hs, kV7 hs, fU7 f, kU8 hs, kV8 hs, fU8 f, kU9 hs, kV9 hs, fU9 f, kU10 hs, kV10 hs, fU10 f, kU11 hs, kV11 hs, fU11 f, kU12 hs, kV12 hs, fU12 f, nU hs, nUk hs, r, ep, v8, cl8, pCX9_asTold, pSX9_asTold, pOX9_asTold, pLX9_asTold, kl_I, kl_J, kl_R, kl_T, kl_N, Nat.le_refl, Nat.zero_le, List.map_nil, List.map_cons, List.sum_nil, List.sum_cons, c_I, c_J, c_R, c_T, va_rf, hI_wI, hJ_wJ, hR_wR, hI_J, hI_R, hJ_I, hJ_R, hR_I, hR_J, hN_I, hN_J, hN_R, wI_I, wJ_J, upd_at, updL_at, kR_s, Option.toList, List.append_nil, List.nil_append, List.cons_append, if_true, if_false, reduceIte, Bool.false_eq_true, not_true_eq_false, not_false_eq_true, true_and, and_true, false_and, and_false, true_or, or_true,  Nat.reduceEqDiff, Nat.reduceAdd, Nat.reduceLeDiff]
    rfl
  · rw [upd_at, if_neg (by omega), fil_at hj, causeN_0]; exact (w.2.2.2.2.1 j hj).2.1
  · rw [upd_at, if_neg (by decide), fil, if_neg (by omega), fil, if_pos (by omega), cutN_0]; rfl
  · rw [upd_at, if_neg (by decide), fil, if_neg (by omega), fil, if_pos (by omega)]; rfl
  · rw [upd_at, if_pos rfl]
  · rw [upd_at, if_neg (by decide), fil, if_neg (by omega), fil, if_pos (by omega)]; rfl
noncomputable def wrL (a : aS) (r : Nat → Nat) : Nat → Nat → Option Nat
  | 0, _ => none
  | k + 1, i => if sooN (aN a) r (aPu a) (aRd a i) = aRf a i then wrL a r k (i + 1) else some i
theorem l_wrong {d : Nat} {h : qH} {s : Nat} {a : aS} {q : Nat → Nat} (F : Fin0 (hR h)) (r : hR h 44 3 = some s) (w : mSt h s a) (t : atR h a q) (e8 : hI h 47 8 = nI (aPu a)) {Q : Option (Option Value) → qH → Prop} : ∀ (k i : Nat), i + k = aRu a → WP (d + 2) mX9_wrong (0, 0) 6 [some (.ref (44 : Nat)), some (.int (nI i))] [] h Q = Q (some (some (.int (oI (wrL a q k i))))) h := by
  have hs := w.1
  have f := w.2.1
  have ww := w.2.2.1
  have h4 := ww.2.2.2.2.2.2.2.2.2.2.2.2.2.1
  have er := w.2.2.2.1.2.2.2.2.2.2.2.1
  have w8 := w.2.2.2.2.2.2.2.2
  have n6 := ww.1
  have p64 := p6 n6
  have pu := ww.2.2.2.1
  intro k
  induction k with
  | zero =>
    intro i hi
    obtain rfl : i = aRu a := by omega
    simp (implicitDefEqProofs := false) only [rX9_wrong_6, rX9_wrong_7, rX9_wrong_7b, rX9_wrong_8, rX9_wrong_11, rX9_wrong_14, rX9_wrong_17, rX9_wrong_17b, rX9_wrong_18, rX9_wrong_18b, rX9_wrong_19, rX9_wrong_22, rX9_wrong_25, rX9_wrong_26, rX9_wrong_27, rX9_wrong_30, rX9_wrong_30b, rX9_wrong_31, rX9_wrong_34, rX9_wrong_37, rX9_wrong_38, rX9_wrong_39, rX9_wrong_42, rX9_wrong_43, rX9_wrong_50, rX9_wrong_52, kA_44, kB_44, kU0 hs, nU hs, r, er, pCX9_wrong, pSX9_wrong, pOX9_wrong, pLX9_wrong, Int32.le_refl, wrL, oI_no, kl_I, kl_J, kl_R, kl_T, kl_N, Nat.le_refl, Nat.zero_le, List.map_nil, List.map_cons, List.sum_nil, List.sum_cons, c_I, c_J, c_R, c_T, va_rf, hI_wI, hJ_wJ, hR_wR, hI_J, hI_R, hJ_I, hJ_R, hR_I, hR_J, hN_I, hN_J, hN_R, wI_I, wJ_J, upd_at, updL_at, kR_s, Option.toList, List.append_nil, List.nil_append, List.cons_append, if_true, if_false, reduceIte, Bool.false_eq_true, not_true_eq_false, not_false_eq_true, true_and, and_true, false_and, and_false, true_or, or_true,  Nat.reduceEqDiff, Nat.reduceAdd, Nat.reduceLeDiff]
  | succ k ih =>
    intro i hi
    have c1 : i < aRu a := by omega
    have g1 : ¬ nI (aRu a) ≤ nI i := nI_ge c1 (by omega)
    have v4 : vp_in (nI i) 4 := nI_vp (by omega) (by decide)
    have cl : (nI i).toNatClampNeg = i := nI_cl (by omega)
    obtain ⟨e1, e2⟩ := w8 i c1
    obtain ⟨b1, b2⟩ := ww.2.2.2.2.2.2.2.2.2.2.2.2.2.2 i c1
    have nx := c_nextOn (d := d) (y := aRd a i) F r w t (by omega) (by omega) e8
    have qq := oI_inj (o := sooN (aN a) q (aPu a) (aRd a i)) (p := aRf a i) (fun x hx => by have := soo_lt hx; omega) (fun x hx => by have := b2 x hx; omega)
    rw [wrL]
    by_cases c : sooN (aN a) q (aPu a) (aRd a i) = aRf a i
    · rw [if_pos c]
      simp (implicitDefEqProofs := false) only [rX9_wrong_6, rX9_wrong_7, rX9_wrong_7b, rX9_wrong_8, rX9_wrong_11, rX9_wrong_14, rX9_wrong_17, rX9_wrong_17b, rX9_wrong_18, rX9_wrong_18b, rX9_wrong_19, rX9_wrong_22, rX9_wrong_25, rX9_wrong_26, rX9_wrong_27, rX9_wrong_30, rX9_wrong_30b, rX9_wrong_31, rX9_wrong_34, rX9_wrong_37, rX9_wrong_38, rX9_wrong_39, rX9_wrong_42, rX9_wrong_43, kA_44, kB_44, kU0 hs, kU1 hs, kV1 hs, fU1 f, kU2 hs, kV2 hs, fU2 f, kU3 hs, kV3 hs, fU3 f, kU4 hs, kV4 hs, fU4 f, kU5 hs, kV5 hs, fU5 f, kU6 hs, kV6 hs, fU6 f, kU7 hs, kV7 hs, fU7 f, kU8 hs, kV8 hs, fU8 f, kU9 hs, kV9 hs, fU9 f, kU10 hs, kV10 hs, fU10 f, kU11 hs, kV11 hs, fU11 f, kU12 hs, kV12 hs, fU12 f, nU hs, nUk hs, r, er, g1, v4, cl, e1, e2, nx, qq, c, pCX9_wrong, pSX9_wrong, pOX9_wrong, pLX9_wrong, pCX9_nextOn, pSX9_nextOn, pOX9_nextOn, pLX9_nextOn, kl_I, kl_J, kl_R, kl_T, kl_N, Nat.le_refl, Nat.zero_le, List.map_nil, List.map_cons, List.sum_nil, List.sum_cons, c_I, c_J, c_R, c_T, va_rf, hI_wI, hJ_wJ, hR_wR, hI_J, hI_R, hJ_I, hJ_R, hR_I, hR_J, hN_I, hN_J, hN_R, wI_I, wJ_J, upd_at, updL_at, kR_s, Option.toList, List.append_nil, List.nil_append, List.cons_append, if_true, if_false, reduceIte, Bool.false_eq_true, not_true_eq_false, not_false_eq_true, true_and, and_true, false_and, and_false, true_or, or_true,  Nat.reduceEqDiff, Nat.reduceAdd, Nat.reduceLeDiff]
      rw [rX9_wrong_44, nI_1]
      simp (implicitDefEqProofs := false) only [rX9_wrong_47, kl_I, kl_J, kl_R, kl_T, kl_N, Nat.le_refl, Nat.zero_le, List.map_nil, List.map_cons, List.sum_nil, List.sum_cons, c_I, c_J, c_R, c_T, va_rf, hI_wI, hJ_wJ, hR_wR, hI_J, hI_R, hJ_I, hJ_R, hR_I, hR_J, hN_I, hN_J, hN_R, wI_I, wJ_J, upd_at, updL_at, kR_s, Option.toList, List.append_nil, List.nil_append, List.cons_append, if_true, if_false, reduceIte, Bool.false_eq_true, not_true_eq_false, not_false_eq_true, true_and, and_true, false_and, and_false, true_or, or_true,  Nat.reduceEqDiff, Nat.reduceAdd, Nat.reduceLeDiff]
      exact ih (i + 1) (by omega)
    · rw [if_neg c]
      simp (implicitDefEqProofs := false) only [rX9_wrong_6, rX9_wrong_7, rX9_wrong_7b, rX9_wrong_8, rX9_wrong_11, rX9_wrong_14, rX9_wrong_17, rX9_wrong_17b, rX9_wrong_18, rX9_wrong_18b, rX9_wrong_19, rX9_wrong_22, rX9_wrong_25, rX9_wrong_26, rX9_wrong_27, rX9_wrong_30, rX9_wrong_30b, rX9_wrong_31, rX9_wrong_34, rX9_wrong_37, rX9_wrong_38, rX9_wrong_39, rX9_wrong_42, rX9_wrong_43, kA_44, kB_44, kU0 hs, kU1 hs, kV1 hs, fU1 f, kU2 hs, kV2 hs, fU2 f, kU3 hs, kV3 hs, fU3 f, kU4 hs, kV4 hs, fU4 f, kU5 hs, kV5 hs, fU5 f, kU6 hs, kV6 hs, fU6 f, kU7 hs, kV7 hs, fU7 f, kU8 hs, kV8 hs, fU8 f, kU9 hs, kV9 hs, fU9 f, kU10 hs, kV10 hs, fU10 f, kU11 hs, kV11 hs, fU11 f, kU12 hs, kV12 hs, fU12 f, nU hs, nUk hs, r, er, g1, v4, cl, e1, e2, nx, qq, c, oI_so, pCX9_wrong, pSX9_wrong, pOX9_wrong, pLX9_wrong, pCX9_nextOn, pSX9_nextOn, pOX9_nextOn, pLX9_nextOn, kl_I, kl_J, kl_R, kl_T, kl_N, Nat.le_refl, Nat.zero_le, List.map_nil, List.map_cons, List.sum_nil, List.sum_cons, c_I, c_J, c_R, c_T, va_rf, hI_wI, hJ_wJ, hR_wR, hI_J, hI_R, hJ_I, hJ_R, hR_I, hR_J, hN_I, hN_J, hN_R, wI_I, wJ_J, upd_at, updL_at, kR_s, Option.toList, List.append_nil, List.nil_append, List.cons_append, if_true, if_false, reduceIte, Bool.false_eq_true, not_true_eq_false, not_false_eq_true, true_and, and_true, false_and, and_false, true_or, or_true,  Nat.reduceEqDiff, Nat.reduceAdd, Nat.reduceLeDiff]
theorem ju_wr {a : aS} : ∀ k i, juL a k i = wrL a (dayN a 0) k i
  | 0, _ => rfl
  | k + 1, i => by rw [juL, wrL, ju_wr k (i + 1)]; rfl
theorem m_judge {d : Nat} {h : qH} {S : AS} (I : MI h S) : ms 0 (d + 10) mX9_judge [.ref (44 : Nat)] h (trS S (sJudge S).1) (some (.int (sJudge S).2)) := by
  have E : ∀ Q, WM (d + 10) mX9_judge [.ref (44 : Nat)] h Q = WP (d + 10) mX9_judge (0, 0) 5 [some (.ref (44 : Nat))] [] (th h) Q := fun Q => by simp (implicitDefEqProofs := false) only [eX9_judge, rX9_judge_0, rX9_judge_0b, rX9_judge_1, rX9_judge_2, kA_44, kB_44, pCX9_judge, pSX9_judge, pOX9_judge, pLX9_judge, th, kl_I, kl_J, kl_R, kl_T, kl_N, Nat.le_refl, Nat.zero_le, List.map_nil, List.map_cons, List.sum_nil, List.sum_cons, c_I, c_J, c_R, c_T, va_rf, hI_wI, hJ_wJ, hR_wR, hI_J, hI_R, hJ_I, hJ_R, hR_I, hR_J, hN_I, hN_J, hN_R, wI_I, wJ_J, upd_at, updL_at, kR_s, Option.toList, List.append_nil, List.nil_append, List.cons_append, if_true, if_false, reduceIte, Bool.false_eq_true, not_true_eq_false, not_false_eq_true, true_and, and_true, false_and, and_false, true_or, or_true,  Nat.reduceEqDiff, Nat.reduceAdd, Nat.reduceLeDiff]
  rw [sJudge]
  by_cases c1 : aN (sA S) = 0
  · rw [if_pos c1]
    refine ms_of (v := 1) I (by decide) E ?_
    obtain ⟨F, r⟩ := MI_n (MI_th I) c1
    generalize th h = g at F r ⊢
    exact ⟨g, fun Q => by simp (implicitDefEqProofs := false) only [rX9_judge_5, rX9_judge_5b, rX9_judge_6, rX9_judge_9, rX9_judge_9b, rX9_judge_12, rX9_judge_12b, rX9_judge_13, rX9_judge_14, rX9_judge_17, kA_44, kB_44, r, c_mrefused, show nI 1 = 1 from rfl, pCX9_judge, pSX9_judge, pOX9_judge, pLX9_judge, pCX9_refused, pSX9_refused, pOX9_refused, pLX9_refused, kl_I, kl_J, kl_R, kl_T, kl_N, Nat.le_refl, Nat.zero_le, List.map_nil, List.map_cons, List.sum_nil, List.sum_cons, c_I, c_J, c_R, c_T, va_rf, hI_wI, hJ_wJ, hR_wR, hI_J, hI_R, hJ_I, hJ_R, hR_I, hR_J, hN_I, hN_J, hN_R, wI_I, wJ_J, upd_at, updL_at, kR_s, Option.toList, List.append_nil, List.nil_append, List.cons_append, if_true, if_false, reduceIte, Bool.false_eq_true, not_true_eq_false, not_false_eq_true, true_and, and_true, false_and, and_false, true_or, or_true,  Nat.reduceEqDiff, Nat.reduceAdd, Nat.reduceLeDiff], kp_refl⟩
  · rw [if_neg c1]
    refine ms_of (v := 0) I (by decide) E ?_
    have I1 := MI_th I
    obtain ⟨s, k, v, t1, t2, t3, t4, t5, ww⟩ := MI_y I1 c1
    generalize th h = g at k v ⊢
    clear E I I1
    have h6 := ww.1
    have F := k.1
    have hs := k.2.2.1.1
    have f := k.2.2.1.2.1
    obtain ⟨G, e1, vG⟩ := c_asTold (d := d + 9) k.1 k.2.1 k.2.2.1
    have x1 : sx [47] g (wI g 47 G) := sx_w sx_refl (by simp)
    have v1 : vF (hI (wI g 47 G) 47) (sA S) (0, aPu (sA S), 0) := by rw [hI_wI, if_pos rfl]; exact vG
    have k1 := mK_sx k x1 (by decide)
    obtain ⟨h2, e2, x2, a2⟩ := c_bA (d := d + 6) k1 v1
    have k2 := mK_sx k1 x2 (by decide)
    refine ⟨h2, fun Q => ?_, kp_tr (kp_sx x1 (by decide)) (kp_sx x2 (by decide))⟩
    have l := fun Q => l_wrong (d := d + 7) (Q := Q) k2.1 k2.2.1 k2.2.2.1 a2 (by rw [x2.2.2.2 47 (by simp)]; exact v1.2.2.2.1) (aRu (sA S)) 0 (by omega)
    simp only at l
    have e3 : ∀ Q, WM (d + 9) mX9_wrong [.ref (44 : Nat)] (wI g 47 G) Q = Q (some (some (.int (oI (juL (sA S) (aRu (sA S)) 0))))) h2 := fun Q => by
      simp (implicitDefEqProofs := false) only [eX9_wrong, rX9_wrong_0, rX9_wrong_0b, rX9_wrong_1, rX9_wrong_4, rX9_wrong_5, kA_44, kB_44, e2, pCX9_wrong, pSX9_wrong, pOX9_wrong, pLX9_wrong, pCX9_burnsAll, pSX9_burnsAll, pOX9_burnsAll, pLX9_burnsAll, kl_I, kl_J, kl_R, kl_T, kl_N, Nat.le_refl, Nat.zero_le, List.map_nil, List.map_cons, List.sum_nil, List.sum_cons, c_I, c_J, c_R, c_T, va_rf, hI_wI, hJ_wJ, hR_wR, hI_J, hI_R, hJ_I, hJ_R, hR_I, hR_J, hN_I, hN_J, hN_R, wI_I, wJ_J, upd_at, updL_at, kR_s, Option.toList, List.append_nil, List.nil_append, List.cons_append, if_true, if_false, reduceIte, Bool.false_eq_true, not_true_eq_false, not_false_eq_true, true_and, and_true, false_and, and_false, true_or, or_true,  Nat.reduceEqDiff, Nat.reduceAdd, Nat.reduceLeDiff]
      rw [ju_wr]
      exact l Q
    simp (implicitDefEqProofs := false) only [rX9_judge_5, rX9_judge_5b, rX9_judge_6, rX9_judge_9, rX9_judge_9b, rX9_judge_12, rX9_judge_12b, rX9_judge_13, rX9_judge_14, rX9_judge_17, rX9_judge_18, rX9_judge_18b, rX9_judge_19, rX9_judge_22, rX9_judge_22b, rX9_judge_23, rX9_judge_23b, rX9_judge_24, rX9_judge_27, rX9_judge_30, kA_44, kB_44, k.2.1, e1, e3, c_mgood, nI_0, pCX9_judge, pSX9_judge, pOX9_judge, pLX9_judge, pCX9_asTold, pSX9_asTold, pOX9_asTold, pLX9_asTold, pCX9_wrong, pSX9_wrong, pOX9_wrong, pLX9_wrong, pCX9_good, pSX9_good, pOX9_good, pLX9_good, kl_I, kl_J, kl_R, kl_T, kl_N, Nat.le_refl, Nat.zero_le, List.map_nil, List.map_cons, List.sum_nil, List.sum_cons, c_I, c_J, c_R, c_T, va_rf, hI_wI, hJ_wJ, hR_wR, hI_J, hI_R, hJ_I, hJ_R, hR_I, hR_J, hN_I, hN_J, hN_R, wI_I, wJ_J, upd_at, updL_at, kR_s, Option.toList, List.append_nil, List.nil_append, List.cons_append, if_true, if_false, reduceIte, Bool.false_eq_true, not_true_eq_false, not_false_eq_true, true_and, and_true, false_and, and_false, true_or, or_true,  Nat.reduceEqDiff, Nat.reduceAdd, Nat.reduceLeDiff]
