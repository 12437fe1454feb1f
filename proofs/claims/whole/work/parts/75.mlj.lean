/-! ===== the model's reader: lines ===== -/
theorem hH_1 {b : Nat → Nat} {st : PS} {t : tK} {x : Nat} (h : hH b st t = .inr x) : t.1 = 1 := by
  unfold hH at h
  split at h
  · rename_i c; exact c.1
  · cases h
theorem sne {s k : Nat} (h : k ≠ 0) : (s = s + k) = False := by simp; omega
theorem n44 {s : Nat} (hs : mst s) : ∀ k, ¬ 44 = s + k := fun k => by obtain ⟨j, ej, -⟩ := hs; omega
theorem n44' {s : Nat} (hs : mst s) : ¬ 44 = s := by obtain ⟨j, ej, -⟩ := hs; omega
theorem c_hname {d : Nat} {h : qH} {s n : Nat} {tb : Nat → Int32} {st : PS} {t : tK} (r : RM h s n tb st t) : match hH (bB tb) st t with
    | .inr x => ∃ h', (∀ Q, WM (d + 8) mX9_readHouseName [.ref (44 : Nat)] h Q = Q (some (some (.int (nI x)))) h') ∧ rg9 s h h' ∧ RM h' s n tb st (tkN (bB tb) n t.2.2)
    | .inl e => ∃ h', (∀ Q, WM (d + 8) mX9_readHouseName [.ref (44 : Nat)] h Q = Q (some (some (.int 0))) h') ∧ rg9 s h h' ∧ RO h' s st e := by
  have hh := c_house9 (d := d) r
  cases hx : hH (bB tb) st t with
  | inl e =>
    rw [hx] at hh
    obtain ⟨h1, e1, x1, o⟩ := hh
    refine ⟨h1, fun Q => ?_, x1, o⟩
    simp (implicitDefEqProofs := false) only [eX9_readHouseName, rX9_readHouseName_0, rX9_readHouseName_0b, rX9_readHouseName_1, rX9_readHouseName_4, rX9_readHouseName_5, rX9_readHouseName_5b, rX9_readHouseName_6, rX9_readHouseName_9, rX9_readHouseName_10, kA_44, kB_44, e1, o_goesOn (d := d + 7) o.2.2.2.1, pCX9_readHouseName, pSX9_readHouseName, pOX9_readHouseName, pLX9_readHouseName, pCX9_houseAtHand, pSX9_houseAtHand, pOX9_houseAtHand, pLX9_houseAtHand, pCX9_goesOn, pSX9_goesOn, pOX9_goesOn, pLX9_goesOn, kl_I, kl_J, kl_R, kl_T, kl_N, Nat.le_refl, Nat.zero_le, List.map_nil, List.map_cons, List.sum_nil, List.sum_cons, c_I, c_J, c_R, c_T, va_rf, hI_wI, hJ_wJ, hR_wR, hI_J, hI_R, hJ_I, hJ_R, hR_I, hR_J, hN_I, hN_J, hN_R, wI_I, wJ_J, upd_at, updL_at, kR_s, Option.toList, List.append_nil, List.nil_append, List.cons_append, if_true, if_false, reduceIte, Bool.false_eq_true, not_true_eq_false, not_false_eq_true, true_and, and_true, false_and, and_false, true_or, or_true,  Nat.reduceEqDiff, Nat.reduceAdd, Nat.reduceLeDiff]
  | inr x =>
    rw [hx] at hh
    obtain ⟨h1, e1, x1, r1⟩ := c_st9 (d := d + 6) r (by have := hH_1 hx; omega)
    refine ⟨h1, fun Q => ?_, x1, r1⟩
    simp (implicitDefEqProofs := false) only [eX9_readHouseName, rX9_readHouseName_0, rX9_readHouseName_0b, rX9_readHouseName_1, rX9_readHouseName_4, rX9_readHouseName_5, rX9_readHouseName_5b, rX9_readHouseName_6, rX9_readHouseName_9, rX9_readHouseName_10, kA_44, kB_44, hh, e1, pCX9_readHouseName, pSX9_readHouseName, pOX9_readHouseName, pLX9_readHouseName, pCX9_houseAtHand, pSX9_houseAtHand, pOX9_houseAtHand, pLX9_houseAtHand, pCX9_goesOn, pSX9_goesOn, pOX9_goesOn, pLX9_goesOn, kl_I, kl_J, kl_R, kl_T, kl_N, Nat.le_refl, Nat.zero_le, List.map_nil, List.map_cons, List.sum_nil, List.sum_cons, c_I, c_J, c_R, c_T, va_rf, hI_wI, hJ_wJ, hR_wR, hI_J, hI_R, hJ_I, hJ_R, hR_I, hR_J, hN_I, hN_J, hN_R, wI_I, wJ_J, upd_at, updL_at, kR_s, Option.toList, List.append_nil, List.nil_append, List.cons_append, if_true, if_false, reduceIte, Bool.false_eq_true, not_true_eq_false, not_false_eq_true, true_and, and_true, false_and, and_false, true_or, or_true,  Nat.reduceEqDiff, Nat.reduceAdd, Nat.reduceLeDiff]
theorem l_isSpark {d : Nat} {h : qH} {s x y : Nat} {st : PS} (r : mRd h s st) (hx : x < 6) (hy : y < 6) {Q : Option (Option Value) → qH → Prop} : ∀ (k i : Nat), i + k = aSp st.1 → WP d mX8_isSpark (0, 0) 2 [some (.ref s), some (.int (nI x)), some (.int (nI y)), some (.int (nI i))] [] h Q = Q (some (some (.int (bI (decide (¬ spkL st.1 x y k i = none)))))) h := by
  have hs := r.1
  have f := r.2.1
  have ww := r.2.2.1
  have h6 := ww.1
  have h9 := ww.2.2.2.2.1
  have e1 := r.2.2.2.1.2.2.1
  intro k
  induction k with
  | zero =>
    intro i hi
    obtain rfl : i = aSp st.1 := by omega
    rw [spkL, decide_eq_false (by simp), bI_f]
    simp (implicitDefEqProofs := false) only [rX8_isSpark_2, rX8_isSpark_3, rX8_isSpark_3b, rX8_isSpark_4, rX8_isSpark_7, rX8_isSpark_10, rX8_isSpark_10b, rX8_isSpark_11, rX8_isSpark_14, rX8_isSpark_15, rX8_isSpark_16, rX8_isSpark_17, rX8_isSpark_20, rX8_isSpark_20b, rX8_isSpark_21, rX8_isSpark_24, rX8_isSpark_25, rX8_isSpark_26, rX8_isSpark_27, rX8_isSpark_30, rX8_isSpark_31, rX8_isSpark_38, rX8_isSpark_39, kU0 hs, e1, Int32.le_refl, pCX8_isSpark, pSX8_isSpark, pOX8_isSpark, pLX8_isSpark, kl_I, kl_J, kl_R, kl_T, kl_N, Nat.le_refl, Nat.zero_le, List.map_nil, List.map_cons, List.sum_nil, List.sum_cons, c_I, c_J, c_R, c_T, va_rf, hI_wI, hJ_wJ, hR_wR, hI_J, hI_R, hJ_I, hJ_R, hR_I, hR_J, hN_I, hN_J, hN_R, wI_I, wJ_J, upd_at, updL_at, kR_s, Option.toList, List.append_nil, List.nil_append, List.cons_append, if_true, if_false, reduceIte, Bool.false_eq_true, not_true_eq_false, not_false_eq_true, true_and, and_true, false_and, and_false, true_or, or_true,  Nat.reduceEqDiff, Nat.reduceAdd, Nat.reduceLeDiff]
  | succ k ih =>
    intro i hi
    have hlt : i < aSp st.1 := by omega
    have g1 : ¬ nI (aSp st.1) ≤ nI i := nI_ge hlt (by omega)
    have v9 : vp_in (nI i) 9 := nI_vp (by omega) (by decide)
    have cl : (nI i).toNatClampNeg = i := nI_cl (by omega)
    obtain ⟨x1, x2, -⟩ := r.2.2.2.2.2.1 i hlt
    obtain ⟨k1, k2, -⟩ := ww.2.2.2.2.2.1 i hlt
    have q1 : (nI (aFm st.1 i) = nI x) = (aFm st.1 i = x) := propext (nI_eq (by omega) (by omega))
    have q2 : (nI (aTo st.1 i) = nI y) = (aTo st.1 i = y) := propext (nI_eq (by omega) (by omega))
    have i1 := ih (i + 1) (by omega)
    rw [spkL]
    by_cases c1 : aFm st.1 i = x
    · by_cases c2 : aTo st.1 i = y
      · rw [if_pos ⟨c1, c2⟩, decide_eq_true (by simp), bI_t]
        simp (implicitDefEqProofs := false) only [rX8_isSpark_2, rX8_isSpark_3, rX8_isSpark_3b, rX8_isSpark_4, rX8_isSpark_7, rX8_isSpark_10, rX8_isSpark_10b, rX8_isSpark_11, rX8_isSpark_14, rX8_isSpark_15, rX8_isSpark_16, rX8_isSpark_17, rX8_isSpark_20, rX8_isSpark_20b, rX8_isSpark_21, rX8_isSpark_24, rX8_isSpark_25, rX8_isSpark_26, rX8_isSpark_27, rX8_isSpark_30, rX8_isSpark_31, kU0 hs, kU1 hs, kV1 hs, fU1 f, kU2 hs, kV2 hs, fU2 f, kU3 hs, kV3 hs, fU3 f, kU4 hs, kV4 hs, fU4 f, kU5 hs, kV5 hs, fU5 f, kU6 hs, kV6 hs, fU6 f, kU7 hs, kV7 hs, fU7 f, kU8 hs, kV8 hs, fU8 f, kU9 hs, kV9 hs, fU9 f, kU10 hs, kV10 hs, fU10 f, kU11 hs, kV11 hs, fU11 f, kU12 hs, kV12 hs, fU12 f, nU hs, nUk hs, e1, g1, v9, cl, x1, x2, q1.trans (eq_true c1), q2.trans (eq_true c2), pCX8_isSpark, pSX8_isSpark, pOX8_isSpark, pLX8_isSpark, kl_I, kl_J, kl_R, kl_T, kl_N, Nat.le_refl, Nat.zero_le, List.map_nil, List.map_cons, List.sum_nil, List.sum_cons, c_I, c_J, c_R, c_T, va_rf, hI_wI, hJ_wJ, hR_wR, hI_J, hI_R, hJ_I, hJ_R, hR_I, hR_J, hN_I, hN_J, hN_R, wI_I, wJ_J, upd_at, updL_at, kR_s, Option.toList, List.append_nil, List.nil_append, List.cons_append, if_true, if_false, reduceIte, Bool.false_eq_true, not_true_eq_false, not_false_eq_true, true_and, and_true, false_and, and_false, true_or, or_true,  Nat.reduceEqDiff, Nat.reduceAdd, Nat.reduceLeDiff]
      · rw [if_neg (fun q => c2 q.2)]
        simp (implicitDefEqProofs := false) only [rX8_isSpark_2, rX8_isSpark_3, rX8_isSpark_3b, rX8_isSpark_4, rX8_isSpark_7, rX8_isSpark_10, rX8_isSpark_10b, rX8_isSpark_11, rX8_isSpark_14, rX8_isSpark_15, rX8_isSpark_16, rX8_isSpark_17, rX8_isSpark_20, rX8_isSpark_20b, rX8_isSpark_21, rX8_isSpark_24, rX8_isSpark_25, rX8_isSpark_26, rX8_isSpark_27, rX8_isSpark_30, rX8_isSpark_31, kU0 hs, kU1 hs, kV1 hs, fU1 f, kU2 hs, kV2 hs, fU2 f, kU3 hs, kV3 hs, fU3 f, kU4 hs, kV4 hs, fU4 f, kU5 hs, kV5 hs, fU5 f, kU6 hs, kV6 hs, fU6 f, kU7 hs, kV7 hs, fU7 f, kU8 hs, kV8 hs, fU8 f, kU9 hs, kV9 hs, fU9 f, kU10 hs, kV10 hs, fU10 f, kU11 hs, kV11 hs, fU11 f, kU12 hs, kV12 hs, fU12 f, nU hs, nUk hs, e1, g1, v9, cl, x1, x2, q1.trans (eq_true c1), q2, c2, pCX8_isSpark, pSX8_isSpark, pOX8_isSpark, pLX8_isSpark, kl_I, kl_J, kl_R, kl_T, kl_N, Nat.le_refl, Nat.zero_le, List.map_nil, List.map_cons, List.sum_nil, List.sum_cons, c_I, c_J, c_R, c_T, va_rf, hI_wI, hJ_wJ, hR_wR, hI_J, hI_R, hJ_I, hJ_R, hR_I, hR_J, hN_I, hN_J, hN_R, wI_I, wJ_J, upd_at, updL_at, kR_s, Option.toList, List.append_nil, List.nil_append, List.cons_append, if_true, if_false, reduceIte, Bool.false_eq_true, not_true_eq_false, not_false_eq_true, true_and, and_true, false_and, and_false, true_or, or_true,  Nat.reduceEqDiff, Nat.reduceAdd, Nat.reduceLeDiff]
        rw [rX8_isSpark_32, nI_1]
        simp (implicitDefEqProofs := false) only [rX8_isSpark_35, kl_I, kl_J, kl_R, kl_T, kl_N, Nat.le_refl, Nat.zero_le, List.map_nil, List.map_cons, List.sum_nil, List.sum_cons, c_I, c_J, c_R, c_T, va_rf, hI_wI, hJ_wJ, hR_wR, hI_J, hI_R, hJ_I, hJ_R, hR_I, hR_J, hN_I, hN_J, hN_R, wI_I, wJ_J, upd_at, updL_at, kR_s, Option.toList, List.append_nil, List.nil_append, List.cons_append, if_true, if_false, reduceIte, Bool.false_eq_true, not_true_eq_false, not_false_eq_true, true_and, and_true, false_and, and_false, true_or, or_true,  Nat.reduceEqDiff, Nat.reduceAdd, Nat.reduceLeDiff]
        exact i1
    · rw [if_neg (fun q => c1 q.1)]
      simp (implicitDefEqProofs := false) only [rX8_isSpark_2, rX8_isSpark_3, rX8_isSpark_3b, rX8_isSpark_4, rX8_isSpark_7, rX8_isSpark_10, rX8_isSpark_10b, rX8_isSpark_11, rX8_isSpark_14, rX8_isSpark_15, rX8_isSpark_16, rX8_isSpark_17, rX8_isSpark_20, rX8_isSpark_20b, rX8_isSpark_21, rX8_isSpark_24, rX8_isSpark_25, rX8_isSpark_26, rX8_isSpark_27, rX8_isSpark_30, rX8_isSpark_31, kU0 hs, kU1 hs, kV1 hs, fU1 f, kU2 hs, kV2 hs, fU2 f, kU3 hs, kV3 hs, fU3 f, kU4 hs, kV4 hs, fU4 f, kU5 hs, kV5 hs, fU5 f, kU6 hs, kV6 hs, fU6 f, kU7 hs, kV7 hs, fU7 f, kU8 hs, kV8 hs, fU8 f, kU9 hs, kV9 hs, fU9 f, kU10 hs, kV10 hs, fU10 f, kU11 hs, kV11 hs, fU11 f, kU12 hs, kV12 hs, fU12 f, nU hs, nUk hs, e1, g1, v9, cl, x1, q1, c1, pCX8_isSpark, pSX8_isSpark, pOX8_isSpark, pLX8_isSpark, kl_I, kl_J, kl_R, kl_T, kl_N, Nat.le_refl, Nat.zero_le, List.map_nil, List.map_cons, List.sum_nil, List.sum_cons, c_I, c_J, c_R, c_T, va_rf, hI_wI, hJ_wJ, hR_wR, hI_J, hI_R, hJ_I, hJ_R, hR_I, hR_J, hN_I, hN_J, hN_R, wI_I, wJ_J, upd_at, updL_at, kR_s, Option.toList, List.append_nil, List.nil_append, List.cons_append, if_true, if_false, reduceIte, Bool.false_eq_true, not_true_eq_false, not_false_eq_true, true_and, and_true, false_and, and_false, true_or, or_true,  Nat.reduceEqDiff, Nat.reduceAdd, Nat.reduceLeDiff]
      rw [rX8_isSpark_32, nI_1]
      simp (implicitDefEqProofs := false) only [rX8_isSpark_35, kl_I, kl_J, kl_R, kl_T, kl_N, Nat.le_refl, Nat.zero_le, List.map_nil, List.map_cons, List.sum_nil, List.sum_cons, c_I, c_J, c_R, c_T, va_rf, hI_wI, hJ_wJ, hR_wR, hI_J, hI_R, hJ_I, hJ_R, hR_I, hR_J, hN_I, hN_J, hN_R, wI_I, wJ_J, upd_at, updL_at, kR_s, Option.toList, List.append_nil, List.nil_append, List.cons_append, if_true, if_false, reduceIte, Bool.false_eq_true, not_true_eq_false, not_false_eq_true, true_and, and_true, false_and, and_false, true_or, or_true,  Nat.reduceEqDiff, Nat.reduceAdd, Nat.reduceLeDiff]
      exact i1
theorem c_isSpark {d : Nat} {h : qH} {s x y : Nat} {st : PS} (r : mRd h s st) (hx : x < 6) (hy : y < 6) : ∀ Q, WM d mX8_isSpark [.ref s, .int (nI x), .int (nI y)] h Q = Q (some (some (.int (bI (decide (¬ spkN st.1 x y = none)))))) h := by
  intro Q
  simp (implicitDefEqProofs := false) only [eX8_isSpark, rX8_isSpark_0, rX8_isSpark_1, pCX8_isSpark, pSX8_isSpark, pOX8_isSpark, pLX8_isSpark, kl_I, kl_J, kl_R, kl_T, kl_N, Nat.le_refl, Nat.zero_le, List.map_nil, List.map_cons, List.sum_nil, List.sum_cons, c_I, c_J, c_R, c_T, va_rf, hI_wI, hJ_wJ, hR_wR, hI_J, hI_R, hJ_I, hJ_R, hR_I, hR_J, hN_I, hN_J, hN_R, wI_I, wJ_J, upd_at, updL_at, kR_s, Option.toList, List.append_nil, List.nil_append, List.cons_append, if_true, if_false, reduceIte, Bool.false_eq_true, not_true_eq_false, not_false_eq_true, true_and, and_true, false_and, and_false, true_or, or_true,  Nat.reduceEqDiff, Nat.reduceAdd, Nat.reduceLeDiff]
  exact l_isSpark r hx hy (aSp st.1) 0 (by omega)
theorem l_isUnk {d : Nat} {h : qH} {s x : Nat} {st : PS} (r : mRd h s st) (hx : x < 6) {Q : Option (Option Value) → qH → Prop} : ∀ (k i : Nat), i + k = aUn st.1 → WP d mX8_isUnknown (0, 0) 2 [some (.ref s), some (.int (nI x)), some (.int (nI i))] [] h Q = Q (some (some (.int (bI (unL st.1 x k i))))) h := by
  have hs := r.1
  have f := r.2.1
  have ww := r.2.2.1
  have h6 := ww.1
  have h2 := ww.2.2.2.2.2.2.2.2.2.2.1
  have e1 := r.2.2.2.1.2.2.2.2.2.2.1
  intro k
  induction k with
  | zero =>
    intro i hi
    obtain rfl : i = aUn st.1 := by omega
    rw [unL, bI_f]
    simp (implicitDefEqProofs := false) only [rX8_isUnknown_2, rX8_isUnknown_3, rX8_isUnknown_3b, rX8_isUnknown_4, rX8_isUnknown_7, rX8_isUnknown_10, rX8_isUnknown_10b, rX8_isUnknown_11, rX8_isUnknown_14, rX8_isUnknown_15, rX8_isUnknown_16, rX8_isUnknown_17, rX8_isUnknown_20, rX8_isUnknown_21, rX8_isUnknown_28, rX8_isUnknown_29, kU0 hs, e1, Int32.le_refl, pCX8_isUnknown, pSX8_isUnknown, pOX8_isUnknown, pLX8_isUnknown, kl_I, kl_J, kl_R, kl_T, kl_N, Nat.le_refl, Nat.zero_le, List.map_nil, List.map_cons, List.sum_nil, List.sum_cons, c_I, c_J, c_R, c_T, va_rf, hI_wI, hJ_wJ, hR_wR, hI_J, hI_R, hJ_I, hJ_R, hR_I, hR_J, hN_I, hN_J, hN_R, wI_I, wJ_J, upd_at, updL_at, kR_s, Option.toList, List.append_nil, List.nil_append, List.cons_append, if_true, if_false, reduceIte, Bool.false_eq_true, not_true_eq_false, not_false_eq_true, true_and, and_true, false_and, and_false, true_or, or_true,  Nat.reduceEqDiff, Nat.reduceAdd, Nat.reduceLeDiff]
  | succ k ih =>
    intro i hi
    have hlt : i < aUn st.1 := by omega
    have g1 : ¬ nI (aUn st.1) ≤ nI i := nI_ge hlt (by omega)
    have v2 : vp_in (nI i) 2 := nI_vp (by omega) (by decide)
    have cl : (nI i).toNatClampNeg = i := nI_cl (by omega)
    have x1 := r.2.2.2.2.2.2.2.1 i hlt
    have k1 := ww.2.2.2.2.2.2.2.2.2.2.2.1 i hlt
    have q1 : (nI (aUh st.1 i) = nI x) = (aUh st.1 i = x) := propext (nI_eq (by omega) (by omega))
    have i1 := ih (i + 1) (by omega)
    rw [unL]
    by_cases c1 : aUh st.1 i = x
    · rw [if_pos c1, bI_t]
      simp (implicitDefEqProofs := false) only [rX8_isUnknown_2, rX8_isUnknown_3, rX8_isUnknown_3b, rX8_isUnknown_4, rX8_isUnknown_7, rX8_isUnknown_10, rX8_isUnknown_10b, rX8_isUnknown_11, rX8_isUnknown_14, rX8_isUnknown_15, rX8_isUnknown_16, rX8_isUnknown_17, rX8_isUnknown_20, rX8_isUnknown_21, kU0 hs, kU1 hs, kV1 hs, fU1 f, kU2 hs, kV2 hs, fU2 f, kU3 hs, kV3 hs, fU3 f, kU4 hs, kV4 hs, fU4 f, kU5 hs, kV5 hs, fU5 f, kU6 hs, kV6 hs, fU6 f, kU7 hs, kV7 hs, fU7 f, kU8 hs, kV8 hs, fU8 f, kU9 hs, kV9 hs, fU9 f, kU10 hs, kV10 hs, fU10 f, kU11 hs, kV11 hs, fU11 f, kU12 hs, kV12 hs, fU12 f, nU hs, nUk hs, e1, g1, v2, cl, x1, q1.trans (eq_true c1), pCX8_isUnknown, pSX8_isUnknown, pOX8_isUnknown, pLX8_isUnknown, kl_I, kl_J, kl_R, kl_T, kl_N, Nat.le_refl, Nat.zero_le, List.map_nil, List.map_cons, List.sum_nil, List.sum_cons, c_I, c_J, c_R, c_T, va_rf, hI_wI, hJ_wJ, hR_wR, hI_J, hI_R, hJ_I, hJ_R, hR_I, hR_J, hN_I, hN_J, hN_R, wI_I, wJ_J, upd_at, updL_at, kR_s, Option.toList, List.append_nil, List.nil_append, List.cons_append, if_true, if_false, reduceIte, Bool.false_eq_true, not_true_eq_false, not_false_eq_true, true_and, and_true, false_and, and_false, true_or, or_true,  Nat.reduceEqDiff, Nat.reduceAdd, Nat.reduceLeDiff]
    · rw [if_neg c1]
      simp (implicitDefEqProofs := false) only [rX8_isUnknown_2, rX8_isUnknown_3, rX8_isUnknown_3b, rX8_isUnknown_4, rX8_isUnknown_7, rX8_isUnknown_10, rX8_isUnknown_10b, rX8_isUnknown_11, rX8_isUnknown_14, rX8_isUnknown_15, rX8_isUnknown_16, rX8_isUnknown_17, rX8_isUnknown_20, rX8_isUnknown_21, kU0 hs, kU1 hs, kV1 hs, fU1 f, kU2 hs, kV2 hs, fU2 f, kU3 hs, kV3 hs, fU3 f, kU4 hs, kV4 hs, fU4 f, kU5 hs, kV5 hs, fU5 f, kU6 hs, kV6 hs, fU6 f, kU7 hs, kV7 hs, fU7 f, kU8 hs, kV8 hs, fU8 f, kU9 hs, kV9 hs, fU9 f, kU10 hs, kV10 hs, fU10 f, kU11 hs, kV11 hs, fU11 f, kU12 hs, kV12 hs, fU12 f, nU hs, nUk hs, e1, g1, v2, cl, x1, q1, c1, pCX8_isUnknown, pSX8_isUnknown, pOX8_isUnknown, pLX8_isUnknown, kl_I, kl_J, kl_R, kl_T, kl_N, Nat.le_refl, Nat.zero_le, List.map_nil, List.map_cons, List.sum_nil, List.sum_cons, c_I, c_J, c_R, c_T, va_rf, hI_wI, hJ_wJ, hR_wR, hI_J, hI_R, hJ_I, hJ_R, hR_I, hR_J, hN_I, hN_J, hN_R, wI_I, wJ_J, upd_at, updL_at, kR_s, Option.toList, List.append_nil, List.nil_append, List.cons_append, if_true, if_false, reduceIte, Bool.false_eq_true, not_true_eq_false, not_false_eq_true, true_and, and_true, false_and, and_false, true_or, or_true,  Nat.reduceEqDiff, Nat.reduceAdd, Nat.reduceLeDiff]
      rw [rX8_isUnknown_22, nI_1]
      simp (implicitDefEqProofs := false) only [rX8_isUnknown_25, kl_I, kl_J, kl_R, kl_T, kl_N, Nat.le_refl, Nat.zero_le, List.map_nil, List.map_cons, List.sum_nil, List.sum_cons, c_I, c_J, c_R, c_T, va_rf, hI_wI, hJ_wJ, hR_wR, hI_J, hI_R, hJ_I, hJ_R, hR_I, hR_J, hN_I, hN_J, hN_R, wI_I, wJ_J, upd_at, updL_at, kR_s, Option.toList, List.append_nil, List.nil_append, List.cons_append, if_true, if_false, reduceIte, Bool.false_eq_true, not_true_eq_false, not_false_eq_true, true_and, and_true, false_and, and_false, true_or, or_true,  Nat.reduceEqDiff, Nat.reduceAdd, Nat.reduceLeDiff]
      exact i1
theorem c_isUnk {d : Nat} {h : qH} {s x : Nat} {st : PS} (r : mRd h s st) (hx : x < 6) : ∀ Q, WM d mX8_isUnknown [.ref s, .int (nI x)] h Q = Q (some (some (.int (bI (unL st.1 x (aUn st.1) 0))))) h := by
  intro Q
  simp (implicitDefEqProofs := false) only [eX8_isUnknown, rX8_isUnknown_0, rX8_isUnknown_1, pCX8_isUnknown, pSX8_isUnknown, pOX8_isUnknown, pLX8_isUnknown, kl_I, kl_J, kl_R, kl_T, kl_N, Nat.le_refl, Nat.zero_le, List.map_nil, List.map_cons, List.sum_nil, List.sum_cons, c_I, c_J, c_R, c_T, va_rf, hI_wI, hJ_wJ, hR_wR, hI_J, hI_R, hJ_I, hJ_R, hR_I, hR_J, hN_I, hN_J, hN_R, wI_I, wJ_J, upd_at, updL_at, kR_s, Option.toList, List.append_nil, List.nil_append, List.cons_append, if_true, if_false, reduceIte, Bool.false_eq_true, not_true_eq_false, not_false_eq_true, true_and, and_true, false_and, and_false, true_or, or_true,  Nat.reduceEqDiff, Nat.reduceAdd, Nat.reduceLeDiff]
  exact l_isUnk r hx (aUn st.1) 0 (by omega)
set_option maxHeartbeats 1000000 in
theorem c_rdPulled {d : Nat} {h : qH} {s n : Nat} {tb : Nat → Int32} {st : PS} {t : tK} (r : RM h s n tb st t) (h1 : t.1 = 1) : ∃ h', (∀ Q, WM (d + 9) mX9_readPulled [.ref (44 : Nat)] h Q = Q (some none) h') ∧ oc h h' s n tb (if st.2.2 = false then .inl (6, t.2.1) else lPulled (bB tb) n st (tkN (bB tb) n t.2.2)) := by
  have r4 := r.2.1
  have rd := r.2.2.1
  have hs := rd.1
  have fi := rd.2.1
  have ww := rd.2.2.1
  have h6 := ww.1
  have p64 := p6 h6
  obtain ⟨u0, u1, u2, u3, u4, u5, u6, u7, u20⟩ := rd.2.2.2.1
  have b1 := ww.2.2.2.2.1
  have b2 := ww.2.2.2.2.2.2.2.1
  have b3 := ww.2.2.2.2.2.2.2.2.2.2.1
  have b4 := ww.2.2.2.2.2.2.2.2.2.2.2.2.2.1
  obtain ⟨h1, e1, x1, q1⟩ := c_lineB (d := d + 6) (many := 0) (most := 1) r (by omega) (by omega) (by omega)
  have e1' : ∀ Q, WM (d + 8) mX9_lineBegins [.ref (44 : Nat), .int 0, .int 1] h Q = Q (some none) h1 := e1
  by_cases c0 : st.2.2 = true
  · rw [if_neg (by rw [c0]; simp)]
    rw [if_neg (show ¬ st.2.2 = false by rw [c0]; simp)] at q1
    rw [if_neg (by omega)] at q1
    obtain ⟨v0, v1, v2, v3, v4, v5, v6, v7, v20⟩ := q1.2.2.1.2.2.2.1
    have r41 := q1.2.1
    have n51 := RM_9 q1
    have hh := c_house9 (d := d + 1) q1
    generalize tkN (bB tb) n t.2.2 = t1 at q1 hh ⊢
    unfold lPulled
    cases hx : hH (bB tb) st t1 with
    | inl e =>
      rw [hx] at hh
      obtain ⟨h2, e2, x2, o⟩ := hh
      obtain ⟨o5, og, of, ow, on, orw, orp, oi, oh, ohn⟩ := ovf (d := d) o
      refine ⟨h2, fun Q => ?_, rg_tr x1 x2, st, o⟩
      simp (implicitDefEqProofs := false) only [eX9_readPulled, rX9_readPulled_0, rX9_readPulled_0b, rX9_readPulled_1, rX9_readPulled_2, rX9_readPulled_3, rX9_readPulled_6, rX9_readPulled_6b, rX9_readPulled_7, rX9_readPulled_10, rX9_readPulled_11, rX9_readPulled_11b, rX9_readPulled_12, rX9_readPulled_15, rX9_readPulled_16, rX9_readPulled_19, rX9_readPulled_19b, rX9_readPulled_20, rX9_readPulled_23, rX9_readPulled_26, rX9_readPulled_27, rX9_readPulled_30, rX9_readPulled_33, rX9_readPulled_33b, rX9_readPulled_34, rX9_readPulled_35, rX9_readPulled_38, rX9_readPulled_38b, rX9_readPulled_39, rX9_readPulled_42, rX9_readPulled_42b, rX9_readPulled_43, rX9_readPulled_46, rX9_readPulled_47, rX9_readPulled_50, rX9_readPulled_51, rX9_readPulled_51b, rX9_readPulled_52, rX9_readPulled_55, rX9_readPulled_55b, rX9_readPulled_56, rX9_readPulled_59, rX9_readPulled_60, rX9_readPulled_61, rX9_readPulled_62, rX9_readPulled_63, rX9_readPulled_66, rX9_readPulled_66b, rX9_readPulled_67, rX9_readPulled_70, rX9_readPulled_70b, rX9_readPulled_71, rX9_readPulled_74, rX9_readPulled_75, rX9_readPulled_76, rX9_readPulled_79, kA_44, kB_44, e1', e2, og, o5, pCX9_readPulled, pSX9_readPulled, pOX9_readPulled, pLX9_readPulled, pCX9_lineBegins, pSX9_lineBegins, pOX9_lineBegins, pLX9_lineBegins, pCX9_goesOn, pSX9_goesOn, pOX9_goesOn, pLX9_goesOn, pCX9_flaw, pSX9_flaw, pOX9_flaw, pLX9_flaw, pCX9_isWord, pSX9_isWord, pOX9_isWord, pLX9_isWord, pCX9_needs, pSX9_needs, pOX9_needs, pLX9_needs, pCX9_readWhole, pSX9_readWhole, pOX9_readWhole, pLX9_readWhole, pCX9_readPart, pSX9_readPart, pOX9_readPart, pLX9_readPart, pCX9_isName, pSX9_isName, pOX9_isName, pLX9_isName, pCX9_houseAtHand, pSX9_houseAtHand, pOX9_houseAtHand, pLX9_houseAtHand, pCX9_readHouseName, pSX9_readHouseName, pOX9_readHouseName, pLX9_readHouseName, pCX8_find, pSX8_find, pOX8_find, pLX8_find, pCX8_isSpark, pSX8_isSpark, pOX8_isSpark, pLX8_isSpark, pCX8_isUnknown, pSX8_isUnknown, pOX8_isUnknown, pLX8_isUnknown, pCX9_bit, pSX9_bit, pOX9_bit, pLX9_bit, kl_I, kl_J, kl_R, kl_T, kl_N, Nat.le_refl, Nat.zero_le, List.map_nil, List.map_cons, List.sum_nil, List.sum_cons, c_I, c_J, c_R, c_T, va_rf, hI_wI, hJ_wJ, hR_wR, hI_J, hI_R, hJ_I, hJ_R, hR_I, hR_J, hN_I, hN_J, hN_R, wI_I, wJ_J, upd_at, updL_at, kR_s, Option.toList, List.append_nil, List.nil_append, List.cons_append, if_true, if_false, reduceIte, Bool.false_eq_true, not_true_eq_false, not_false_eq_true, true_and, and_true, false_and, and_false, true_or, or_true,  Nat.reduceEqDiff, Nat.reduceAdd, Nat.reduceLeDiff]
    | inr x =>
      rw [hx] at hh
      have xl := hH_lt hx
      have pu := ww.2.2.2.1
      have bt := c_mbit (d := d + 8) (h := h1) (t := aPu st.1) (j := x) (by omega) (by omega)
      simp only [bd]
      cases hb : (aPu st.1).testBit x with
      | true =>
        rw [if_pos rfl]
        rw [hb, bI_t] at bt
        have fl : ∀ Q, WM (d + 8) mX9_flaw [.ref (44 : Nat), .int 3] h1 Q = Q (some none) (flH h1 (nI 3)) := c_fl9 (d := d + 8) (v := 3) n51
        have o := RO_fl 3 q1
        obtain ⟨o5, og, of, ow, on, orw, orp, oi, oh, ohn⟩ := ovf (d := d) o
        refine ⟨flH h1 (nI 3), fun Q => ?_, rg_tr x1 fl_rg, st, o⟩
        simp (implicitDefEqProofs := false) only [eX9_readPulled, rX9_readPulled_0, rX9_readPulled_0b, rX9_readPulled_1, rX9_readPulled_2, rX9_readPulled_3, rX9_readPulled_6, rX9_readPulled_6b, rX9_readPulled_7, rX9_readPulled_10, rX9_readPulled_11, rX9_readPulled_11b, rX9_readPulled_12, rX9_readPulled_15, rX9_readPulled_16, rX9_readPulled_19, rX9_readPulled_19b, rX9_readPulled_20, rX9_readPulled_23, rX9_readPulled_26, rX9_readPulled_27, rX9_readPulled_30, rX9_readPulled_33, rX9_readPulled_33b, rX9_readPulled_34, rX9_readPulled_35, rX9_readPulled_38, rX9_readPulled_38b, rX9_readPulled_39, rX9_readPulled_42, rX9_readPulled_42b, rX9_readPulled_43, rX9_readPulled_46, rX9_readPulled_47, rX9_readPulled_50, rX9_readPulled_51, rX9_readPulled_51b, rX9_readPulled_52, rX9_readPulled_55, rX9_readPulled_55b, rX9_readPulled_56, rX9_readPulled_59, rX9_readPulled_60, rX9_readPulled_61, rX9_readPulled_62, rX9_readPulled_63, rX9_readPulled_66, rX9_readPulled_66b, rX9_readPulled_67, rX9_readPulled_70, rX9_readPulled_70b, rX9_readPulled_71, rX9_readPulled_74, rX9_readPulled_75, rX9_readPulled_76, rX9_readPulled_79, kA_44, kB_44, kU0 hs, r41, e1', hh, n51, v20, bt, show ¬ (1 : Int32) = 0 from by decide, fl, og, o5, pCX9_readPulled, pSX9_readPulled, pOX9_readPulled, pLX9_readPulled, pCX9_lineBegins, pSX9_lineBegins, pOX9_lineBegins, pLX9_lineBegins, pCX9_goesOn, pSX9_goesOn, pOX9_goesOn, pLX9_goesOn, pCX9_flaw, pSX9_flaw, pOX9_flaw, pLX9_flaw, pCX9_isWord, pSX9_isWord, pOX9_isWord, pLX9_isWord, pCX9_needs, pSX9_needs, pOX9_needs, pLX9_needs, pCX9_readWhole, pSX9_readWhole, pOX9_readWhole, pLX9_readWhole, pCX9_readPart, pSX9_readPart, pOX9_readPart, pLX9_readPart, pCX9_isName, pSX9_isName, pOX9_isName, pLX9_isName, pCX9_houseAtHand, pSX9_houseAtHand, pOX9_houseAtHand, pLX9_houseAtHand, pCX9_readHouseName, pSX9_readHouseName, pOX9_readHouseName, pLX9_readHouseName, pCX8_find, pSX8_find, pOX8_find, pLX8_find, pCX8_isSpark, pSX8_isSpark, pOX8_isSpark, pLX8_isSpark, pCX8_isUnknown, pSX8_isUnknown, pOX8_isUnknown, pLX8_isUnknown, pCX9_bit, pSX9_bit, pOX9_bit, pLX9_bit, kl_I, kl_J, kl_R, kl_T, kl_N, Nat.le_refl, Nat.zero_le, List.map_nil, List.map_cons, List.sum_nil, List.sum_cons, c_I, c_J, c_R, c_T, va_rf, hI_wI, hJ_wJ, hR_wR, hI_J, hI_R, hJ_I, hJ_R, hR_I, hR_J, hN_I, hN_J, hN_R, wI_I, wJ_J, upd_at, updL_at, kR_s, Option.toList, List.append_nil, List.nil_append, List.cons_append, if_true, if_false, reduceIte, Bool.false_eq_true, not_true_eq_false, not_false_eq_true, true_and, and_true, false_and, and_false, true_or, or_true,  Nat.reduceEqDiff, Nat.reduceAdd, Nat.reduceLeDiff]
      | false =>
        rw [if_neg (by simp)]
        rw [hb, bI_f] at bt
        obtain ⟨h2, e2, x2, r2⟩ := c_st9 (d := d + 7) q1 (by have := hH_1 hx; omega)
        obtain ⟨y0, y1, y2, y3, y4, y5, y6, y7, y20⟩ := r2.2.2.1.2.2.2.1
        have r42 := r2.2.1
        have w2 := mRd_pu (x := x) r2.2.2.1 c0 xl hb
        have x3 : rg9 s h2 (wI h2 s (upd (upd (hI h2 s) 20 (nI (aPu st.1 ||| 2 ^ x))) 4 (nI (popc 6 (aPu st.1) + 1)))) := rg_w rg_refl (by omega) hs
        refine ⟨_, fun Q => ?_, rg_tr x1 (rg_tr x2 x3), RM_up r2 x3 (by rw [hI_wI, if_neg (n44' hs)]) rfl w2⟩
        simp (implicitDefEqProofs := false) only [eX9_readPulled, rX9_readPulled_0, rX9_readPulled_0b, rX9_readPulled_1, rX9_readPulled_2, rX9_readPulled_3, rX9_readPulled_6, rX9_readPulled_6b, rX9_readPulled_7, rX9_readPulled_10, rX9_readPulled_11, rX9_readPulled_11b, rX9_readPulled_12, rX9_readPulled_15, rX9_readPulled_16, rX9_readPulled_19, rX9_readPulled_19b, rX9_readPulled_20, rX9_readPulled_23, rX9_readPulled_26, rX9_readPulled_27, rX9_readPulled_30, rX9_readPulled_33, rX9_readPulled_33b, rX9_readPulled_34, rX9_readPulled_35, rX9_readPulled_38, rX9_readPulled_38b, rX9_readPulled_39, rX9_readPulled_42, rX9_readPulled_42b, rX9_readPulled_43, rX9_readPulled_46, rX9_readPulled_47, rX9_readPulled_50, rX9_readPulled_51, rX9_readPulled_51b, rX9_readPulled_52, rX9_readPulled_55, rX9_readPulled_55b, rX9_readPulled_56, rX9_readPulled_59, rX9_readPulled_60, rX9_readPulled_61, rX9_readPulled_62, rX9_readPulled_63, rX9_readPulled_66, rX9_readPulled_66b, rX9_readPulled_67, rX9_readPulled_70, rX9_readPulled_70b, rX9_readPulled_71, rX9_readPulled_74, rX9_readPulled_75, rX9_readPulled_76, rX9_readPulled_79, kA_44, kB_44, kU0 hs, r41, r42, e1', hh, n51, v20, bt, e2, RM_9 r2, y20, y4, bt_shl (j := x) (by omega), bt_or, nI_1, pCX9_readPulled, pSX9_readPulled, pOX9_readPulled, pLX9_readPulled, pCX9_lineBegins, pSX9_lineBegins, pOX9_lineBegins, pLX9_lineBegins, pCX9_goesOn, pSX9_goesOn, pOX9_goesOn, pLX9_goesOn, pCX9_flaw, pSX9_flaw, pOX9_flaw, pLX9_flaw, pCX9_isWord, pSX9_isWord, pOX9_isWord, pLX9_isWord, pCX9_needs, pSX9_needs, pOX9_needs, pLX9_needs, pCX9_readWhole, pSX9_readWhole, pOX9_readWhole, pLX9_readWhole, pCX9_readPart, pSX9_readPart, pOX9_readPart, pLX9_readPart, pCX9_isName, pSX9_isName, pOX9_isName, pLX9_isName, pCX9_houseAtHand, pSX9_houseAtHand, pOX9_houseAtHand, pLX9_houseAtHand, pCX9_readHouseName, pSX9_readHouseName, pOX9_readHouseName, pLX9_readHouseName, pCX8_find, pSX8_find, pOX8_find, pLX8_find, pCX8_isSpark, pSX8_isSpark, pOX8_isSpark, pLX8_isSpark, pCX8_isUnknown, pSX8_isUnknown, pOX8_isUnknown, pLX8_isUnknown, pCX9_bit, pSX9_bit, pOX9_bit, pLX9_bit, kl_I, kl_J, kl_R, kl_T, kl_N, Nat.le_refl, Nat.zero_le, List.map_nil, List.map_cons, List.sum_nil, List.sum_cons, c_I, c_J, c_R, c_T, va_rf, hI_wI, hJ_wJ, hR_wR, hI_J, hI_R, hJ_I, hJ_R, hR_I, hR_J, hN_I, hN_J, hN_R, wI_I, wJ_J, upd_at, updL_at, kR_s, Option.toList, List.append_nil, List.nil_append, List.cons_append, if_true, if_false, reduceIte, Bool.false_eq_true, not_true_eq_false, not_false_eq_true, true_and, and_true, false_and, and_false, true_or, or_true,  Nat.reduceEqDiff, Nat.reduceAdd, Nat.reduceLeDiff]
  · have c0' : st.2.2 = false := by simpa using c0
    rw [if_pos c0']
    obtain ⟨z1, z2, z3, z4, z5⟩ := rd.2.2.2.2.2.2.2.2.2.2.2 c0'
    rw [if_neg (by omega), if_pos c0'] at q1
    obtain ⟨o5, og, of, ow, on, orw, orp, oi, oh, ohn⟩ := ovf (d := d) q1
    have r41 := q1.2.1
    have rd1 := q1.2.2.1
    have F1 := q1.1
    obtain ⟨v0, v1, v2, v3, v4, v5, v6, v7, v20⟩ := rd1.2.2.2.1
    refine ⟨h1, fun Q => ?_, x1, st, q1⟩
    
    simp (implicitDefEqProofs := false) only [eX9_readPulled, rX9_readPulled_0, rX9_readPulled_0b, rX9_readPulled_1, rX9_readPulled_2, rX9_readPulled_3, rX9_readPulled_6, rX9_readPulled_6b, rX9_readPulled_7, rX9_readPulled_10, rX9_readPulled_11, rX9_readPulled_11b, rX9_readPulled_12, rX9_readPulled_15, rX9_readPulled_16, rX9_readPulled_19, rX9_readPulled_19b, rX9_readPulled_20, rX9_readPulled_23, rX9_readPulled_26, rX9_readPulled_27, rX9_readPulled_30, rX9_readPulled_33, rX9_readPulled_33b, rX9_readPulled_34, rX9_readPulled_35, rX9_readPulled_38, rX9_readPulled_38b, rX9_readPulled_39, rX9_readPulled_42, rX9_readPulled_42b, rX9_readPulled_43, rX9_readPulled_46, rX9_readPulled_47, rX9_readPulled_50, rX9_readPulled_51, rX9_readPulled_51b, rX9_readPulled_52, rX9_readPulled_55, rX9_readPulled_55b, rX9_readPulled_56, rX9_readPulled_59, rX9_readPulled_60, rX9_readPulled_61, rX9_readPulled_62, rX9_readPulled_63, rX9_readPulled_66, rX9_readPulled_66b, rX9_readPulled_67, rX9_readPulled_70, rX9_readPulled_70b, rX9_readPulled_71, rX9_readPulled_74, rX9_readPulled_75, rX9_readPulled_76, rX9_readPulled_79, kA_44, kB_44, fin_44_5 F1, fin_44_15 F1, fin_44_16 F1, fin_44_17 F1, fin_44_18 F1, fin_44_21 F1, fin_44_23 F1, fin_44_24 F1, fin_44_25 F1, fin_44_29 F1, fin_44_33 F1, kU0 hs, kU1 hs, kV1 hs, fU1 fi, kU2 hs, kV2 hs, fU2 fi, kU3 hs, kV3 hs, fU3 fi, kU4 hs, kV4 hs, fU4 fi, kU5 hs, kV5 hs, fU5 fi, kU6 hs, kV6 hs, fU6 fi, kU7 hs, kV7 hs, fU7 fi, kU8 hs, kV8 hs, fU8 fi, kU9 hs, kV9 hs, fU9 fi, kU10 hs, kV10 hs, fU10 fi, kU11 hs, kV11 hs, fU11 fi, kU12 hs, kV12 hs, fU12 fi, nU hs, nUk hs, r4, r41, u1, u2, u5, u6, u7, e1', v0, v1, v2, v3, v4, v5, v6, v7, og, of, ow, orw, oi, oh, ohn, o5, pCX9_readPulled, pSX9_readPulled, pOX9_readPulled, pLX9_readPulled, pCX9_lineBegins, pSX9_lineBegins, pOX9_lineBegins, pLX9_lineBegins, pCX9_goesOn, pSX9_goesOn, pOX9_goesOn, pLX9_goesOn, pCX9_flaw, pSX9_flaw, pOX9_flaw, pLX9_flaw, pCX9_isWord, pSX9_isWord, pOX9_isWord, pLX9_isWord, pCX9_needs, pSX9_needs, pOX9_needs, pLX9_needs, pCX9_readWhole, pSX9_readWhole, pOX9_readWhole, pLX9_readWhole, pCX9_readPart, pSX9_readPart, pOX9_readPart, pLX9_readPart, pCX9_isName, pSX9_isName, pOX9_isName, pLX9_isName, pCX9_houseAtHand, pSX9_houseAtHand, pOX9_houseAtHand, pLX9_houseAtHand, pCX9_readHouseName, pSX9_readHouseName, pOX9_readHouseName, pLX9_readHouseName, pCX8_find, pSX8_find, pOX8_find, pLX8_find, kl_I, kl_J, kl_R, kl_T, kl_N, Nat.le_refl, Nat.zero_le, List.map_nil, List.map_cons, List.sum_nil, List.sum_cons, c_I, c_J, c_R, c_T, va_rf, hI_wI, hJ_wJ, hR_wR, hI_J, hI_R, hJ_I, hJ_R, hR_I, hR_J, hN_I, hN_J, hN_R, wI_I, wJ_J, upd_at, updL_at, kR_s, Option.toList, List.append_nil, List.nil_append, List.cons_append, if_true, if_false, reduceIte, Bool.false_eq_true, not_true_eq_false, not_false_eq_true, true_and, and_true, false_and, and_false, true_or, or_true,  Nat.reduceEqDiff, Nat.reduceAdd, Nat.reduceLeDiff]
set_option maxHeartbeats 1000000 in
theorem c_rdUnknown {d : Nat} {h : qH} {s n : Nat} {tb : Nat → Int32} {st : PS} {t : tK} (r : RM h s n tb st t) (h1 : t.1 = 1) : ∃ h', (∀ Q, WM (d + 9) mX9_readUnknown [.ref (44 : Nat)] h Q = Q (some none) h') ∧ oc h h' s n tb (if st.2.2 = false then .inl (6, t.2.1) else if 2 ≤ aUn st.1 then .inl (5, t.2.1) else lUnknown (bB tb) n st (tkN (bB tb) n t.2.2)) := by
  have r4 := r.2.1
  have rd := r.2.2.1
  have hs := rd.1
  have fi := rd.2.1
  have ww := rd.2.2.1
  have h6 := ww.1
  have p64 := p6 h6
  obtain ⟨u0, u1, u2, u3, u4, u5, u6, u7, u20⟩ := rd.2.2.2.1
  have b1 := ww.2.2.2.2.1
  have b2 := ww.2.2.2.2.2.2.2.1
  have b3 := ww.2.2.2.2.2.2.2.2.2.2.1
  have b4 := ww.2.2.2.2.2.2.2.2.2.2.2.2.2.1
  obtain ⟨h1, e1, x1, q1⟩ := c_lineB (d := d + 6) (many := aUn st.1) (most := 2) r (by omega) (by omega) (by omega)
  have e1' : ∀ Q, WM (d + 8) mX9_lineBegins [.ref (44 : Nat), .int (nI (aUn st.1)), .int 2] h Q = Q (some none) h1 := e1
  by_cases c0 : st.2.2 = true
  · rw [if_neg (by rw [c0]; simp)]
    rw [if_neg (show ¬ st.2.2 = false by rw [c0]; simp)] at q1
    by_cases c1 : 2 ≤ aUn st.1
    · rw [if_pos c1]
      rw [if_pos (by omega)] at q1
      obtain ⟨o5, og, of, ow, on, orw, orp, oi, oh, ohn⟩ := ovf (d := d) q1
      have r41 := q1.2.1
      have rd1 := q1.2.2.1
      have F1 := q1.1
      obtain ⟨v0, v1, v2, v3, v4, v5, v6, v7, v20⟩ := rd1.2.2.2.1
      refine ⟨h1, fun Q => ?_, x1, st, q1⟩
      
      simp (implicitDefEqProofs := false) only [eX9_readUnknown, rX9_readUnknown_0, rX9_readUnknown_0b, rX9_readUnknown_1, rX9_readUnknown_1b, rX9_readUnknown_2, rX9_readUnknown_5, rX9_readUnknown_8, rX9_readUnknown_9, rX9_readUnknown_12, rX9_readUnknown_12b, rX9_readUnknown_13, rX9_readUnknown_16, rX9_readUnknown_17, rX9_readUnknown_17b, rX9_readUnknown_18, rX9_readUnknown_21, rX9_readUnknown_22, rX9_readUnknown_25, rX9_readUnknown_25b, rX9_readUnknown_26, rX9_readUnknown_29, rX9_readUnknown_30, rX9_readUnknown_33, rX9_readUnknown_36, rX9_readUnknown_36b, rX9_readUnknown_37, rX9_readUnknown_38, rX9_readUnknown_41, rX9_readUnknown_41b, rX9_readUnknown_42, rX9_readUnknown_45, rX9_readUnknown_45b, rX9_readUnknown_46, rX9_readUnknown_49, rX9_readUnknown_50, rX9_readUnknown_53, rX9_readUnknown_54, rX9_readUnknown_54b, rX9_readUnknown_55, rX9_readUnknown_58, rX9_readUnknown_61, rX9_readUnknown_61b, rX9_readUnknown_62, rX9_readUnknown_65, rX9_readUnknown_68, rX9_readUnknown_69, rX9_readUnknown_70, rX9_readUnknown_70b, rX9_readUnknown_71, rX9_readUnknown_74, rX9_readUnknown_74b, rX9_readUnknown_75, rX9_readUnknown_78, rX9_readUnknown_79, rX9_readUnknown_80, rX9_readUnknown_83, kA_44, kB_44, fin_44_5 F1, fin_44_15 F1, fin_44_16 F1, fin_44_17 F1, fin_44_18 F1, fin_44_21 F1, fin_44_23 F1, fin_44_24 F1, fin_44_25 F1, fin_44_29 F1, fin_44_33 F1, kU0 hs, kU1 hs, kV1 hs, fU1 fi, kU2 hs, kV2 hs, fU2 fi, kU3 hs, kV3 hs, fU3 fi, kU4 hs, kV4 hs, fU4 fi, kU5 hs, kV5 hs, fU5 fi, kU6 hs, kV6 hs, fU6 fi, kU7 hs, kV7 hs, fU7 fi, kU8 hs, kV8 hs, fU8 fi, kU9 hs, kV9 hs, fU9 fi, kU10 hs, kV10 hs, fU10 fi, kU11 hs, kV11 hs, fU11 fi, kU12 hs, kV12 hs, fU12 fi, nU hs, nUk hs, r4, r41, u1, u2, u5, u6, u7, e1', v0, v1, v2, v3, v4, v5, v6, v7, og, of, ow, orw, oi, oh, ohn, o5, pCX9_readUnknown, pSX9_readUnknown, pOX9_readUnknown, pLX9_readUnknown, pCX9_lineBegins, pSX9_lineBegins, pOX9_lineBegins, pLX9_lineBegins, pCX9_goesOn, pSX9_goesOn, pOX9_goesOn, pLX9_goesOn, pCX9_flaw, pSX9_flaw, pOX9_flaw, pLX9_flaw, pCX9_isWord, pSX9_isWord, pOX9_isWord, pLX9_isWord, pCX9_needs, pSX9_needs, pOX9_needs, pLX9_needs, pCX9_readWhole, pSX9_readWhole, pOX9_readWhole, pLX9_readWhole, pCX9_readPart, pSX9_readPart, pOX9_readPart, pLX9_readPart, pCX9_isName, pSX9_isName, pOX9_isName, pLX9_isName, pCX9_houseAtHand, pSX9_houseAtHand, pOX9_houseAtHand, pLX9_houseAtHand, pCX9_readHouseName, pSX9_readHouseName, pOX9_readHouseName, pLX9_readHouseName, pCX8_find, pSX8_find, pOX8_find, pLX8_find, kl_I, kl_J, kl_R, kl_T, kl_N, Nat.le_refl, Nat.zero_le, List.map_nil, List.map_cons, List.sum_nil, List.sum_cons, c_I, c_J, c_R, c_T, va_rf, hI_wI, hJ_wJ, hR_wR, hI_J, hI_R, hJ_I, hJ_R, hR_I, hR_J, hN_I, hN_J, hN_R, wI_I, wJ_J, upd_at, updL_at, kR_s, Option.toList, List.append_nil, List.nil_append, List.cons_append, if_true, if_false, reduceIte, Bool.false_eq_true, not_true_eq_false, not_false_eq_true, true_and, and_true, false_and, and_false, true_or, or_true,  Nat.reduceEqDiff, Nat.reduceAdd, Nat.reduceLeDiff]
    · rw [if_neg c1]
      rw [if_neg (by omega)] at q1
      obtain ⟨v0, v1, v2, v3, v4, v5, v6, v7, v20⟩ := q1.2.2.1.2.2.2.1
      have r41 := q1.2.1
      have n51 := RM_9 q1
      have hh := c_house9 (d := d + 1) q1
      generalize tkN (bB tb) n t.2.2 = t1 at q1 hh ⊢
      unfold lUnknown
      cases hx : hH (bB tb) st t1 with
      | inl e =>
        rw [hx] at hh
        obtain ⟨h2, e2, x2, o⟩ := hh
        obtain ⟨o5, og, of, ow, on, orw, orp, oi, oh, ohn⟩ := ovf (d := d) o
        refine ⟨h2, fun Q => ?_, rg_tr x1 x2, st, o⟩
        simp (implicitDefEqProofs := false) only [eX9_readUnknown, rX9_readUnknown_0, rX9_readUnknown_0b, rX9_readUnknown_1, rX9_readUnknown_1b, rX9_readUnknown_2, rX9_readUnknown_5, rX9_readUnknown_8, rX9_readUnknown_9, rX9_readUnknown_12, rX9_readUnknown_12b, rX9_readUnknown_13, rX9_readUnknown_16, rX9_readUnknown_17, rX9_readUnknown_17b, rX9_readUnknown_18, rX9_readUnknown_21, rX9_readUnknown_22, rX9_readUnknown_25, rX9_readUnknown_25b, rX9_readUnknown_26, rX9_readUnknown_29, rX9_readUnknown_30, rX9_readUnknown_33, rX9_readUnknown_36, rX9_readUnknown_36b, rX9_readUnknown_37, rX9_readUnknown_38, rX9_readUnknown_41, rX9_readUnknown_41b, rX9_readUnknown_42, rX9_readUnknown_45, rX9_readUnknown_45b, rX9_readUnknown_46, rX9_readUnknown_49, rX9_readUnknown_50, rX9_readUnknown_53, rX9_readUnknown_54, rX9_readUnknown_54b, rX9_readUnknown_55, rX9_readUnknown_58, rX9_readUnknown_61, rX9_readUnknown_61b, rX9_readUnknown_62, rX9_readUnknown_65, rX9_readUnknown_68, rX9_readUnknown_69, rX9_readUnknown_70, rX9_readUnknown_70b, rX9_readUnknown_71, rX9_readUnknown_74, rX9_readUnknown_74b, rX9_readUnknown_75, rX9_readUnknown_78, rX9_readUnknown_79, rX9_readUnknown_80, rX9_readUnknown_83, kA_44, kB_44, kU0 hs, r4, u6, e1', e2, og, o5, pCX9_readUnknown, pSX9_readUnknown, pOX9_readUnknown, pLX9_readUnknown, pCX9_lineBegins, pSX9_lineBegins, pOX9_lineBegins, pLX9_lineBegins, pCX9_goesOn, pSX9_goesOn, pOX9_goesOn, pLX9_goesOn, pCX9_flaw, pSX9_flaw, pOX9_flaw, pLX9_flaw, pCX9_isWord, pSX9_isWord, pOX9_isWord, pLX9_isWord, pCX9_needs, pSX9_needs, pOX9_needs, pLX9_needs, pCX9_readWhole, pSX9_readWhole, pOX9_readWhole, pLX9_readWhole, pCX9_readPart, pSX9_readPart, pOX9_readPart, pLX9_readPart, pCX9_isName, pSX9_isName, pOX9_isName, pLX9_isName, pCX9_houseAtHand, pSX9_houseAtHand, pOX9_houseAtHand, pLX9_houseAtHand, pCX9_readHouseName, pSX9_readHouseName, pOX9_readHouseName, pLX9_readHouseName, pCX8_find, pSX8_find, pOX8_find, pLX8_find, pCX8_isSpark, pSX8_isSpark, pOX8_isSpark, pLX8_isSpark, pCX8_isUnknown, pSX8_isUnknown, pOX8_isUnknown, pLX8_isUnknown, pCX9_bit, pSX9_bit, pOX9_bit, pLX9_bit, kl_I, kl_J, kl_R, kl_T, kl_N, Nat.le_refl, Nat.zero_le, List.map_nil, List.map_cons, List.sum_nil, List.sum_cons, c_I, c_J, c_R, c_T, va_rf, hI_wI, hJ_wJ, hR_wR, hI_J, hI_R, hJ_I, hJ_R, hR_I, hR_J, hN_I, hN_J, hN_R, wI_I, wJ_J, upd_at, updL_at, kR_s, Option.toList, List.append_nil, List.nil_append, List.cons_append, if_true, if_false, reduceIte, Bool.false_eq_true, not_true_eq_false, not_false_eq_true, true_and, and_true, false_and, and_false, true_or, or_true,  Nat.reduceEqDiff, Nat.reduceAdd, Nat.reduceLeDiff]
      | inr x =>
        rw [hx] at hh
        have xl := hH_lt hx
        have iu := c_isUnk (d := d + 8) (x := x) q1.2.2.1 (by omega)
        simp only [bd]
        cases hb : unL st.1 x (aUn st.1) 0 with
        | true =>
          rw [if_pos rfl]
          rw [hb, bI_t] at iu
          have fl : ∀ Q, WM (d + 8) mX9_flaw [.ref (44 : Nat), .int 3] h1 Q = Q (some none) (flH h1 (nI 3)) := c_fl9 (d := d + 8) (v := 3) n51
          have o := RO_fl 3 q1
          obtain ⟨o5, og, of, ow, on, orw, orp, oi, oh, ohn⟩ := ovf (d := d) o
          refine ⟨flH h1 (nI 3), fun Q => ?_, rg_tr x1 fl_rg, st, o⟩
          simp (implicitDefEqProofs := false) only [eX9_readUnknown, rX9_readUnknown_0, rX9_readUnknown_0b, rX9_readUnknown_1, rX9_readUnknown_1b, rX9_readUnknown_2, rX9_readUnknown_5, rX9_readUnknown_8, rX9_readUnknown_9, rX9_readUnknown_12, rX9_readUnknown_12b, rX9_readUnknown_13, rX9_readUnknown_16, rX9_readUnknown_17, rX9_readUnknown_17b, rX9_readUnknown_18, rX9_readUnknown_21, rX9_readUnknown_22, rX9_readUnknown_25, rX9_readUnknown_25b, rX9_readUnknown_26, rX9_readUnknown_29, rX9_readUnknown_30, rX9_readUnknown_33, rX9_readUnknown_36, rX9_readUnknown_36b, rX9_readUnknown_37, rX9_readUnknown_38, rX9_readUnknown_41, rX9_readUnknown_41b, rX9_readUnknown_42, rX9_readUnknown_45, rX9_readUnknown_45b, rX9_readUnknown_46, rX9_readUnknown_49, rX9_readUnknown_50, rX9_readUnknown_53, rX9_readUnknown_54, rX9_readUnknown_54b, rX9_readUnknown_55, rX9_readUnknown_58, rX9_readUnknown_61, rX9_readUnknown_61b, rX9_readUnknown_62, rX9_readUnknown_65, rX9_readUnknown_68, rX9_readUnknown_69, rX9_readUnknown_70, rX9_readUnknown_70b, rX9_readUnknown_71, rX9_readUnknown_74, rX9_readUnknown_74b, rX9_readUnknown_75, rX9_readUnknown_78, rX9_readUnknown_79, rX9_readUnknown_80, rX9_readUnknown_83, kA_44, kB_44, kU0 hs, r4, u6, r41, e1', hh, n51, iu, show ¬ (1 : Int32) = 0 from by decide, fl, og, o5, pCX9_readUnknown, pSX9_readUnknown, pOX9_readUnknown, pLX9_readUnknown, pCX9_lineBegins, pSX9_lineBegins, pOX9_lineBegins, pLX9_lineBegins, pCX9_goesOn, pSX9_goesOn, pOX9_goesOn, pLX9_goesOn, pCX9_flaw, pSX9_flaw, pOX9_flaw, pLX9_flaw, pCX9_isWord, pSX9_isWord, pOX9_isWord, pLX9_isWord, pCX9_needs, pSX9_needs, pOX9_needs, pLX9_needs, pCX9_readWhole, pSX9_readWhole, pOX9_readWhole, pLX9_readWhole, pCX9_readPart, pSX9_readPart, pOX9_readPart, pLX9_readPart, pCX9_isName, pSX9_isName, pOX9_isName, pLX9_isName, pCX9_houseAtHand, pSX9_houseAtHand, pOX9_houseAtHand, pLX9_houseAtHand, pCX9_readHouseName, pSX9_readHouseName, pOX9_readHouseName, pLX9_readHouseName, pCX8_find, pSX8_find, pOX8_find, pLX8_find, pCX8_isSpark, pSX8_isSpark, pOX8_isSpark, pLX8_isSpark, pCX8_isUnknown, pSX8_isUnknown, pOX8_isUnknown, pLX8_isUnknown, pCX9_bit, pSX9_bit, pOX9_bit, pLX9_bit, kl_I, kl_J, kl_R, kl_T, kl_N, Nat.le_refl, Nat.zero_le, List.map_nil, List.map_cons, List.sum_nil, List.sum_cons, c_I, c_J, c_R, c_T, va_rf, hI_wI, hJ_wJ, hR_wR, hI_J, hI_R, hJ_I, hJ_R, hR_I, hR_J, hN_I, hN_J, hN_R, wI_I, wJ_J, upd_at, updL_at, kR_s, Option.toList, List.append_nil, List.nil_append, List.cons_append, if_true, if_false, reduceIte, Bool.false_eq_true, not_true_eq_false, not_false_eq_true, true_and, and_true, false_and, and_false, true_or, or_true,  Nat.reduceEqDiff, Nat.reduceAdd, Nat.reduceLeDiff]
        | false =>
          rw [if_neg (by simp)]
          rw [hb, bI_f] at iu
          obtain ⟨h2, e2, x2, r2⟩ := c_st9 (d := d + 7) q1 (by have := hH_1 hx; omega)
          obtain ⟨y0, y1, y2, y3, y4, y5, y6, y7, y20⟩ := r2.2.2.1.2.2.2.1
          have r42 := r2.2.1
          have fi2 := r2.2.2.1.2.1
          have w2 := mRd_un (x := x) r2.2.2.1 c0 (by omega) xl hb
          have vi : vp_in (nI (aUn st.1)) 2 := nI_vp (by omega) (by decide)
          have cl : (nI (aUn st.1)).toNatClampNeg = aUn st.1 := nI_cl (by omega)
          have x3 : rg9 s h2 (wI (wI h2 (s + 9) (upd (hI h2 (s + 9)) (aUn st.1) (nI x))) s (upd (hI h2 s) 6 (nI (aUn st.1 + 1)))) := rg_w (rg_w rg_refl (by omega) hs) (by omega) hs
          refine ⟨_, fun Q => ?_, rg_tr x1 (rg_tr x2 x3), RM_up r2 x3 (by rw [hI_wI, if_neg (n44' hs), hI_wI, if_neg (n44 hs 9)]) rfl w2⟩
          simp (implicitDefEqProofs := false) only [eX9_readUnknown, rX9_readUnknown_0, rX9_readUnknown_0b, rX9_readUnknown_1, rX9_readUnknown_1b, rX9_readUnknown_2, rX9_readUnknown_5, rX9_readUnknown_8, rX9_readUnknown_9, rX9_readUnknown_12, rX9_readUnknown_12b, rX9_readUnknown_13, rX9_readUnknown_16, rX9_readUnknown_17, rX9_readUnknown_17b, rX9_readUnknown_18, rX9_readUnknown_21, rX9_readUnknown_22, rX9_readUnknown_25, rX9_readUnknown_25b, rX9_readUnknown_26, rX9_readUnknown_29, rX9_readUnknown_30, rX9_readUnknown_33, rX9_readUnknown_36, rX9_readUnknown_36b, rX9_readUnknown_37, rX9_readUnknown_38, rX9_readUnknown_41, rX9_readUnknown_41b, rX9_readUnknown_42, rX9_readUnknown_45, rX9_readUnknown_45b, rX9_readUnknown_46, rX9_readUnknown_49, rX9_readUnknown_50, rX9_readUnknown_53, rX9_readUnknown_54, rX9_readUnknown_54b, rX9_readUnknown_55, rX9_readUnknown_58, rX9_readUnknown_61, rX9_readUnknown_61b, rX9_readUnknown_62, rX9_readUnknown_65, rX9_readUnknown_68, rX9_readUnknown_69, rX9_readUnknown_70, rX9_readUnknown_70b, rX9_readUnknown_71, rX9_readUnknown_74, rX9_readUnknown_74b, rX9_readUnknown_75, rX9_readUnknown_78, rX9_readUnknown_79, rX9_readUnknown_80, rX9_readUnknown_83, kA_44, kB_44, kU0 hs, kU1 hs, kV1 hs, fU1 fi2, kU2 hs, kV2 hs, fU2 fi2, kU3 hs, kV3 hs, fU3 fi2, kU4 hs, kV4 hs, fU4 fi2, kU5 hs, kV5 hs, fU5 fi2, kU6 hs, kV6 hs, fU6 fi2, kU7 hs, kV7 hs, fU7 fi2, kU8 hs, kV8 hs, fU8 fi2, kU9 hs, kV9 hs, fU9 fi2, kU10 hs, kV10 hs, fU10 fi2, kU11 hs, kV11 hs, fU11 fi2, kU12 hs, kV12 hs, fU12 fi2, nU hs, nUk hs, r4, u6, r41, r42, e1', hh, n51, iu, e2, RM_9 r2, y6, vi, cl, nI_1, sne (s := s) (k := 9) (by decide), hWa, hWb, hWc, hWd, pCX9_readUnknown, pSX9_readUnknown, pOX9_readUnknown, pLX9_readUnknown, pCX9_lineBegins, pSX9_lineBegins, pOX9_lineBegins, pLX9_lineBegins, pCX9_goesOn, pSX9_goesOn, pOX9_goesOn, pLX9_goesOn, pCX9_flaw, pSX9_flaw, pOX9_flaw, pLX9_flaw, pCX9_isWord, pSX9_isWord, pOX9_isWord, pLX9_isWord, pCX9_needs, pSX9_needs, pOX9_needs, pLX9_needs, pCX9_readWhole, pSX9_readWhole, pOX9_readWhole, pLX9_readWhole, pCX9_readPart, pSX9_readPart, pOX9_readPart, pLX9_readPart, pCX9_isName, pSX9_isName, pOX9_isName, pLX9_isName, pCX9_houseAtHand, pSX9_houseAtHand, pOX9_houseAtHand, pLX9_houseAtHand, pCX9_readHouseName, pSX9_readHouseName, pOX9_readHouseName, pLX9_readHouseName, pCX8_find, pSX8_find, pOX8_find, pLX8_find, pCX8_isSpark, pSX8_isSpark, pOX8_isSpark, pLX8_isSpark, pCX8_isUnknown, pSX8_isUnknown, pOX8_isUnknown, pLX8_isUnknown, pCX9_bit, pSX9_bit, pOX9_bit, pLX9_bit, kl_I, kl_J, kl_R, kl_T, kl_N, Nat.le_refl, Nat.zero_le, List.map_nil, List.map_cons, List.sum_nil, List.sum_cons, c_I, c_J, c_R, c_T, va_rf, hI_wI, hJ_wJ, hR_wR, hI_J, hI_R, hJ_I, hJ_R, hR_I, hR_J, hN_I, hN_J, hN_R, wI_I, wJ_J, upd_at, updL_at, kR_s, Option.toList, List.append_nil, List.nil_append, List.cons_append, if_true, if_false, reduceIte, Bool.false_eq_true, not_true_eq_false, not_false_eq_true, true_and, and_true, false_and, and_false, true_or, or_true,  Nat.reduceEqDiff, Nat.reduceAdd, Nat.reduceLeDiff]
  · have c0' : st.2.2 = false := by simpa using c0
    rw [if_pos c0']
    obtain ⟨z1, z2, z3, z4, z5⟩ := rd.2.2.2.2.2.2.2.2.2.2.2 c0'
    rw [if_neg (by omega), if_pos c0'] at q1
    obtain ⟨o5, og, of, ow, on, orw, orp, oi, oh, ohn⟩ := ovf (d := d) q1
    have r41 := q1.2.1
    have rd1 := q1.2.2.1
    have F1 := q1.1
    obtain ⟨v0, v1, v2, v3, v4, v5, v6, v7, v20⟩ := rd1.2.2.2.1
    refine ⟨h1, fun Q => ?_, x1, st, q1⟩
    
    simp (implicitDefEqProofs := false) only [eX9_readUnknown, rX9_readUnknown_0, rX9_readUnknown_0b, rX9_readUnknown_1, rX9_readUnknown_1b, rX9_readUnknown_2, rX9_readUnknown_5, rX9_readUnknown_8, rX9_readUnknown_9, rX9_readUnknown_12, rX9_readUnknown_12b, rX9_readUnknown_13, rX9_readUnknown_16, rX9_readUnknown_17, rX9_readUnknown_17b, rX9_readUnknown_18, rX9_readUnknown_21, rX9_readUnknown_22, rX9_readUnknown_25, rX9_readUnknown_25b, rX9_readUnknown_26, rX9_readUnknown_29, rX9_readUnknown_30, rX9_readUnknown_33, rX9_readUnknown_36, rX9_readUnknown_36b, rX9_readUnknown_37, rX9_readUnknown_38, rX9_readUnknown_41, rX9_readUnknown_41b, rX9_readUnknown_42, rX9_readUnknown_45, rX9_readUnknown_45b, rX9_readUnknown_46, rX9_readUnknown_49, rX9_readUnknown_50, rX9_readUnknown_53, rX9_readUnknown_54, rX9_readUnknown_54b, rX9_readUnknown_55, rX9_readUnknown_58, rX9_readUnknown_61, rX9_readUnknown_61b, rX9_readUnknown_62, rX9_readUnknown_65, rX9_readUnknown_68, rX9_readUnknown_69, rX9_readUnknown_70, rX9_readUnknown_70b, rX9_readUnknown_71, rX9_readUnknown_74, rX9_readUnknown_74b, rX9_readUnknown_75, rX9_readUnknown_78, rX9_readUnknown_79, rX9_readUnknown_80, rX9_readUnknown_83, kA_44, kB_44, fin_44_5 F1, fin_44_15 F1, fin_44_16 F1, fin_44_17 F1, fin_44_18 F1, fin_44_21 F1, fin_44_23 F1, fin_44_24 F1, fin_44_25 F1, fin_44_29 F1, fin_44_33 F1, kU0 hs, kU1 hs, kV1 hs, fU1 fi, kU2 hs, kV2 hs, fU2 fi, kU3 hs, kV3 hs, fU3 fi, kU4 hs, kV4 hs, fU4 fi, kU5 hs, kV5 hs, fU5 fi, kU6 hs, kV6 hs, fU6 fi, kU7 hs, kV7 hs, fU7 fi, kU8 hs, kV8 hs, fU8 fi, kU9 hs, kV9 hs, fU9 fi, kU10 hs, kV10 hs, fU10 fi, kU11 hs, kV11 hs, fU11 fi, kU12 hs, kV12 hs, fU12 fi, nU hs, nUk hs, r4, r41, u1, u2, u5, u6, u7, e1', v0, v1, v2, v3, v4, v5, v6, v7, og, of, ow, orw, oi, oh, ohn, o5, pCX9_readUnknown, pSX9_readUnknown, pOX9_readUnknown, pLX9_readUnknown, pCX9_lineBegins, pSX9_lineBegins, pOX9_lineBegins, pLX9_lineBegins, pCX9_goesOn, pSX9_goesOn, pOX9_goesOn, pLX9_goesOn, pCX9_flaw, pSX9_flaw, pOX9_flaw, pLX9_flaw, pCX9_isWord, pSX9_isWord, pOX9_isWord, pLX9_isWord, pCX9_needs, pSX9_needs, pOX9_needs, pLX9_needs, pCX9_readWhole, pSX9_readWhole, pOX9_readWhole, pLX9_readWhole, pCX9_readPart, pSX9_readPart, pOX9_readPart, pLX9_readPart, pCX9_isName, pSX9_isName, pOX9_isName, pLX9_isName, pCX9_houseAtHand, pSX9_houseAtHand, pOX9_houseAtHand, pLX9_houseAtHand, pCX9_readHouseName, pSX9_readHouseName, pOX9_readHouseName, pLX9_readHouseName, pCX8_find, pSX8_find, pOX8_find, pLX8_find, kl_I, kl_J, kl_R, kl_T, kl_N, Nat.le_refl, Nat.zero_le, List.map_nil, List.map_cons, List.sum_nil, List.sum_cons, c_I, c_J, c_R, c_T, va_rf, hI_wI, hJ_wJ, hR_wR, hI_J, hI_R, hJ_I, hJ_R, hR_I, hR_J, hN_I, hN_J, hN_R, wI_I, wJ_J, upd_at, updL_at, kR_s, Option.toList, List.append_nil, List.nil_append, List.cons_append, if_true, if_false, reduceIte, Bool.false_eq_true, not_true_eq_false, not_false_eq_true, true_and, and_true, false_and, and_false, true_or, or_true,  Nat.reduceEqDiff, Nat.reduceAdd, Nat.reduceLeDiff]
theorem l_dw {d : Nat} {h : qH} {s n : Nat} {tb : Nat → Int32} {st : PS} {t : tK} {z1 : Int32} {o2 : Option Value} (r : RM h s n tb st t) : ∀ Q, WP (d + 9) mX9_readDoes (0, 0) 40 [some (.ref (44 : Nat)), some (.int z1), o2] [] h Q = WP (d + 9) mX9_readDoes (0, 0) 83 [some (.ref (44 : Nat)), some (.int z1), o2] [.int (mI (doW (bB tb) t))] h Q := by
  intro Q
  have i0 := c_mw (d := d + 3) 18 r (by decide)
  have i1 := c_mw (d := d + 3) 19 r (by decide)
  have i2 := c_mw (d := d + 3) 20 r (by decide)
  unfold doW
  rw [rsvL]
  by_cases c0 : isW (bB tb) t 18 = true
  · rw [if_pos c0]
    rw [c0, bI_t] at i0
    simp (implicitDefEqProofs := false) only [rX9_readDoes_40, rX9_readDoes_40b, rX9_readDoes_41, rX9_readDoes_44, rX9_readDoes_47, rX9_readDoes_50, rX9_readDoes_51, rX9_readDoes_54, rX9_readDoes_54b, rX9_readDoes_55, rX9_readDoes_58, rX9_readDoes_61, rX9_readDoes_64, rX9_readDoes_65, rX9_readDoes_68, rX9_readDoes_68b, rX9_readDoes_69, rX9_readDoes_72, rX9_readDoes_75, rX9_readDoes_78, rX9_readDoes_79, rX9_readDoes_82, kA_44, kB_44, i0, show ¬ (1 : Int32) = 0 from by decide, Option.map_some, mI_so, show nI (18 - 17) = 1 from rfl, pCX9_readDoes, pSX9_readDoes, pOX9_readDoes, pLX9_readDoes, pCX9_isWord, pSX9_isWord, pOX9_isWord, pLX9_isWord, kl_I, kl_J, kl_R, kl_T, kl_N, Nat.le_refl, Nat.zero_le, List.map_nil, List.map_cons, List.sum_nil, List.sum_cons, c_I, c_J, c_R, c_T, va_rf, hI_wI, hJ_wJ, hR_wR, hI_J, hI_R, hJ_I, hJ_R, hR_I, hR_J, hN_I, hN_J, hN_R, wI_I, wJ_J, upd_at, updL_at, kR_s, Option.toList, List.append_nil, List.nil_append, List.cons_append, if_true, if_false, reduceIte, Bool.false_eq_true, not_true_eq_false, not_false_eq_true, true_and, and_true, false_and, and_false, true_or, or_true,  Nat.reduceEqDiff, Nat.reduceAdd, Nat.reduceLeDiff]
  rw [if_neg c0, rsvL]
  have c0f : isW (bB tb) t 18 = false := by simpa using c0
  rw [c0f, bI_f] at i0
  by_cases c1 : isW (bB tb) t 19 = true
  · rw [if_pos c1]
    rw [c1, bI_t] at i1
    simp (implicitDefEqProofs := false) only [rX9_readDoes_40, rX9_readDoes_40b, rX9_readDoes_41, rX9_readDoes_44, rX9_readDoes_47, rX9_readDoes_50, rX9_readDoes_51, rX9_readDoes_54, rX9_readDoes_54b, rX9_readDoes_55, rX9_readDoes_58, rX9_readDoes_61, rX9_readDoes_64, rX9_readDoes_65, rX9_readDoes_68, rX9_readDoes_68b, rX9_readDoes_69, rX9_readDoes_72, rX9_readDoes_75, rX9_readDoes_78, rX9_readDoes_79, rX9_readDoes_82, kA_44, kB_44, i0, i1, show ¬ (1 : Int32) = 0 from by decide, Option.map_some, mI_so, show nI (19 - 17) = 2 from rfl, show nI (18 + 1 - 17) = 2 from rfl, pCX9_readDoes, pSX9_readDoes, pOX9_readDoes, pLX9_readDoes, pCX9_isWord, pSX9_isWord, pOX9_isWord, pLX9_isWord, kl_I, kl_J, kl_R, kl_T, kl_N, Nat.le_refl, Nat.zero_le, List.map_nil, List.map_cons, List.sum_nil, List.sum_cons, c_I, c_J, c_R, c_T, va_rf, hI_wI, hJ_wJ, hR_wR, hI_J, hI_R, hJ_I, hJ_R, hR_I, hR_J, hN_I, hN_J, hN_R, wI_I, wJ_J, upd_at, updL_at, kR_s, Option.toList, List.append_nil, List.nil_append, List.cons_append, if_true, if_false, reduceIte, Bool.false_eq_true, not_true_eq_false, not_false_eq_true, true_and, and_true, false_and, and_false, true_or, or_true,  Nat.reduceEqDiff, Nat.reduceAdd, Nat.reduceLeDiff]
    try rfl
  rw [if_neg c1, rsvL]
  have c1f : isW (bB tb) t 19 = false := by simpa using c1
  rw [c1f, bI_f] at i1
  by_cases c2 : isW (bB tb) t 20 = true
  · rw [if_pos c2]
    rw [c2, bI_t] at i2
    simp (implicitDefEqProofs := false) only [rX9_readDoes_40, rX9_readDoes_40b, rX9_readDoes_41, rX9_readDoes_44, rX9_readDoes_47, rX9_readDoes_50, rX9_readDoes_51, rX9_readDoes_54, rX9_readDoes_54b, rX9_readDoes_55, rX9_readDoes_58, rX9_readDoes_61, rX9_readDoes_64, rX9_readDoes_65, rX9_readDoes_68, rX9_readDoes_68b, rX9_readDoes_69, rX9_readDoes_72, rX9_readDoes_75, rX9_readDoes_78, rX9_readDoes_79, rX9_readDoes_82, kA_44, kB_44, i0, i1, i2, show ¬ (1 : Int32) = 0 from by decide, Option.map_some, mI_so, pCX9_readDoes, pSX9_readDoes, pOX9_readDoes, pLX9_readDoes, pCX9_isWord, pSX9_isWord, pOX9_isWord, pLX9_isWord, kl_I, kl_J, kl_R, kl_T, kl_N, Nat.le_refl, Nat.zero_le, List.map_nil, List.map_cons, List.sum_nil, List.sum_cons, c_I, c_J, c_R, c_T, va_rf, hI_wI, hJ_wJ, hR_wR, hI_J, hI_R, hJ_I, hJ_R, hR_I, hR_J, hN_I, hN_J, hN_R, wI_I, wJ_J, upd_at, updL_at, kR_s, Option.toList, List.append_nil, List.nil_append, List.cons_append, if_true, if_false, reduceIte, Bool.false_eq_true, not_true_eq_false, not_false_eq_true, true_and, and_true, false_and, and_false, true_or, or_true,  Nat.reduceEqDiff, Nat.reduceAdd, Nat.reduceLeDiff]
    try rfl
  rw [if_neg c2, rsvL]
  have c2f : isW (bB tb) t 20 = false := by simpa using c2
  rw [c2f, bI_f] at i2
  simp (implicitDefEqProofs := false) only [rX9_readDoes_40, rX9_readDoes_40b, rX9_readDoes_41, rX9_readDoes_44, rX9_readDoes_47, rX9_readDoes_50, rX9_readDoes_51, rX9_readDoes_54, rX9_readDoes_54b, rX9_readDoes_55, rX9_readDoes_58, rX9_readDoes_61, rX9_readDoes_64, rX9_readDoes_65, rX9_readDoes_68, rX9_readDoes_68b, rX9_readDoes_69, rX9_readDoes_72, rX9_readDoes_75, rX9_readDoes_78, rX9_readDoes_79, rX9_readDoes_82, kA_44, kB_44, i0, i1, i2, Option.map_none, mI_no, pCX9_readDoes, pSX9_readDoes, pOX9_readDoes, pLX9_readDoes, pCX9_isWord, pSX9_isWord, pOX9_isWord, pLX9_isWord, kl_I, kl_J, kl_R, kl_T, kl_N, Nat.le_refl, Nat.zero_le, List.map_nil, List.map_cons, List.sum_nil, List.sum_cons, c_I, c_J, c_R, c_T, va_rf, hI_wI, hJ_wJ, hR_wR, hI_J, hI_R, hJ_I, hJ_R, hR_I, hR_J, hN_I, hN_J, hN_R, wI_I, wJ_J, upd_at, updL_at, kR_s, Option.toList, List.append_nil, List.nil_append, List.cons_append, if_true, if_false, reduceIte, Bool.false_eq_true, not_true_eq_false, not_false_eq_true, true_and, and_true, false_and, and_false, true_or, or_true,  Nat.reduceEqDiff, Nat.reduceAdd, Nat.reduceLeDiff]
theorem doW_b {b : Nat → Nat} {t : tK} {v : Nat} (h : doW b t = some v) : ¬ v = 0 ∧ v ≤ 3 ∧ t.1 = 1 := by
  unfold doW at h
  cases hr : rsvL b t 3 18 with
  | none => rw [hr] at h; cases h
  | some j =>
    rw [hr] at h
    simp only [Option.map_some, Option.some.injEq] at h
    obtain ⟨h1, h2, h3⟩ := rsvL_b hr
    unfold isW at h3
    exact ⟨by omega, by omega, (of_decide_eq_true h3).1⟩
theorem kdN_1 {b : Nat → Nat} {t : tK} {v : Nat} (h : kdN b t = some v) : t.1 = 1 := by
  unfold kdN at h
  cases hr : rsvL b t 4 10 with
  | none => rw [hr] at h; cases h
  | some j =>
    obtain ⟨h1, h2, h3⟩ := rsvL_b hr
    unfold isW at h3
    exact (of_decide_eq_true h3).1
set_option maxHeartbeats 1000000 in
theorem c_rdDoes {d : Nat} {h : qH} {s n : Nat} {tb : Nat → Int32} {st : PS} {t : tK} (r : RM h s n tb st t) (h1 : t.1 = 1) : ∃ h', (∀ Q, WM (d + 9) mX9_readDoes [.ref (44 : Nat)] h Q = Q (some none) h') ∧ oc h h' s n tb (if st.2.2 = false then .inl (6, t.2.1) else lDoes (bB tb) n st (tkN (bB tb) n t.2.2)) := by
  have r4 := r.2.1
  have rd := r.2.2.1
  have hs := rd.1
  have fi := rd.2.1
  have ww := rd.2.2.1
  have h6 := ww.1
  have p64 := p6 h6
  obtain ⟨u0, u1, u2, u3, u4, u5, u6, u7, u20⟩ := rd.2.2.2.1
  have b1 := ww.2.2.2.2.1
  have b2 := ww.2.2.2.2.2.2.2.1
  have b3 := ww.2.2.2.2.2.2.2.2.2.2.1
  have b4 := ww.2.2.2.2.2.2.2.2.2.2.2.2.2.1
  obtain ⟨h1, e1, x1, q1⟩ := c_lineB (d := d + 6) (many := 0) (most := 1) r (by omega) (by omega) (by omega)
  have e1' : ∀ Q, WM (d + 8) mX9_lineBegins [.ref (44 : Nat), .int 0, .int 1] h Q = Q (some none) h1 := e1
  by_cases c0 : st.2.2 = true
  · rw [if_neg (by rw [c0]; simp)]
    rw [if_neg (show ¬ st.2.2 = false by rw [c0]; simp)] at q1
    rw [if_neg (by omega)] at q1
    obtain ⟨v0, v1, v2, v3, v4, v5, v6, v7, v20⟩ := q1.2.2.1.2.2.2.1
    have r41 := q1.2.1
    have n51 := RM_9 q1
    have hh := c_house9 (d := d + 1) q1
    generalize tkN (bB tb) n t.2.2 = t1 at q1 hh ⊢
    unfold lDoes
    cases hx : hH (bB tb) st t1 with
    | inl e =>
      rw [hx] at hh
      obtain ⟨h2, e2, x2, o⟩ := hh
      obtain ⟨o5, og, of, ow, on, orw, orp, oi, oh, ohn⟩ := ovf (d := d) o
      refine ⟨h2, fun Q => ?_, rg_tr x1 x2, st, o⟩
      simp (implicitDefEqProofs := false) only [eX9_readDoes, rX9_readDoes_0, rX9_readDoes_0b, rX9_readDoes_1, rX9_readDoes_2, rX9_readDoes_3, rX9_readDoes_6, rX9_readDoes_6b, rX9_readDoes_7, rX9_readDoes_10, rX9_readDoes_11, rX9_readDoes_11b, rX9_readDoes_12, rX9_readDoes_15, rX9_readDoes_16, rX9_readDoes_19, rX9_readDoes_19b, rX9_readDoes_20, rX9_readDoes_23, rX9_readDoes_26, rX9_readDoes_27, rX9_readDoes_28, rX9_readDoes_31, rX9_readDoes_31b, rX9_readDoes_32, rX9_readDoes_33, rX9_readDoes_36, rX9_readDoes_36b, rX9_readDoes_37, rX9_readDoes_40, rX9_readDoes_40b, rX9_readDoes_41, rX9_readDoes_44, rX9_readDoes_47, rX9_readDoes_50, rX9_readDoes_51, rX9_readDoes_54, rX9_readDoes_54b, rX9_readDoes_55, rX9_readDoes_58, rX9_readDoes_61, rX9_readDoes_64, rX9_readDoes_65, rX9_readDoes_68, rX9_readDoes_68b, rX9_readDoes_69, rX9_readDoes_72, rX9_readDoes_75, rX9_readDoes_78, rX9_readDoes_79, rX9_readDoes_82, rX9_readDoes_83, rX9_readDoes_84, rX9_readDoes_85, rX9_readDoes_86, rX9_readDoes_89, rX9_readDoes_89b, rX9_readDoes_90, rX9_readDoes_91, rX9_readDoes_94, rX9_readDoes_94b, rX9_readDoes_95, rX9_readDoes_98, rX9_readDoes_98b, rX9_readDoes_99, rX9_readDoes_102, rX9_readDoes_103, rX9_readDoes_106, rX9_readDoes_107, rX9_readDoes_107b, rX9_readDoes_108, rX9_readDoes_111, rX9_readDoes_114, rX9_readDoes_115, rX9_readDoes_116, rX9_readDoes_117, rX9_readDoes_117b, rX9_readDoes_118, rX9_readDoes_121, rX9_readDoes_121b, rX9_readDoes_122, rX9_readDoes_125, rX9_readDoes_126, rX9_readDoes_127, rX9_readDoes_130, kA_44, kB_44, e1', e2, og, of, ow, o5, pCX9_readDoes, pSX9_readDoes, pOX9_readDoes, pLX9_readDoes, pCX9_lineBegins, pSX9_lineBegins, pOX9_lineBegins, pLX9_lineBegins, pCX9_goesOn, pSX9_goesOn, pOX9_goesOn, pLX9_goesOn, pCX9_flaw, pSX9_flaw, pOX9_flaw, pLX9_flaw, pCX9_isWord, pSX9_isWord, pOX9_isWord, pLX9_isWord, pCX9_needs, pSX9_needs, pOX9_needs, pLX9_needs, pCX9_readWhole, pSX9_readWhole, pOX9_readWhole, pLX9_readWhole, pCX9_readPart, pSX9_readPart, pOX9_readPart, pLX9_readPart, pCX9_isName, pSX9_isName, pOX9_isName, pLX9_isName, pCX9_houseAtHand, pSX9_houseAtHand, pOX9_houseAtHand, pLX9_houseAtHand, pCX9_readHouseName, pSX9_readHouseName, pOX9_readHouseName, pLX9_readHouseName, pCX8_find, pSX8_find, pOX8_find, pLX8_find, pCX8_isSpark, pSX8_isSpark, pOX8_isSpark, pLX8_isSpark, pCX8_isUnknown, pSX8_isUnknown, pOX8_isUnknown, pLX8_isUnknown, pCX9_bit, pSX9_bit, pOX9_bit, pLX9_bit, kl_I, kl_J, kl_R, kl_T, kl_N, Nat.le_refl, Nat.zero_le, List.map_nil, List.map_cons, List.sum_nil, List.sum_cons, c_I, c_J, c_R, c_T, va_rf, hI_wI, hJ_wJ, hR_wR, hI_J, hI_R, hJ_I, hJ_R, hR_I, hR_J, hN_I, hN_J, hN_R, wI_I, wJ_J, upd_at, updL_at, kR_s, Option.toList, List.append_nil, List.nil_append, List.cons_append, if_true, if_false, reduceIte, Bool.false_eq_true, not_true_eq_false, not_false_eq_true, true_and, and_true, false_and, and_false, true_or, or_true,  Nat.reduceEqDiff, Nat.reduceAdd, Nat.reduceLeDiff]
    | inr x =>
      rw [hx] at hh
      have xl := hH_lt hx
      have fi1 := q1.2.2.1.2.1
      have dx := (q1.2.2.1.2.2.2.2.1 x xl).2.2.2
      have d3 := (ww.2.2.1 x xl).2.2.2
      have v6' : vp_in (nI x) 6 := nI_vp (by omega) (by decide)
      have clx : (nI x).toNatClampNeg = x := nI_cl (by omega)
      have ql : (nI (aDo st.1 x) ≤ 0) = (aDo st.1 x ≤ 0) := nle (x := aDo st.1 x) (k := 0) (c := 0) rfl (by omega) (by omega)
      simp only [bd]
      by_cases cd : aDo st.1 x = 0
      · rw [if_pos cd]
        obtain ⟨h2, e2, x2, r2⟩ := c_st9 (d := d + 7) q1 (by have := hH_1 hx; omega)
        have dw := l_dw (d := d) (z1 := nI x) (o2 := none) r2
        have st1 : ∀ Q X, WP (d + 9) mX9_readDoes (0, 0) 83 [some (.ref (44 : Nat)), some (.int (nI x)), none] [.int (mI (doW (bB tb) (tkN (bB tb) n t1.2.2)))] h2 Q = X → WM (d + 9) mX9_readDoes [.ref (44 : Nat)] h Q = X := fun Q X hX => by
          simp (implicitDefEqProofs := false) only [eX9_readDoes, rX9_readDoes_0, rX9_readDoes_0b, rX9_readDoes_1, rX9_readDoes_2, rX9_readDoes_3, rX9_readDoes_6, rX9_readDoes_6b, rX9_readDoes_7, rX9_readDoes_10, rX9_readDoes_11, rX9_readDoes_11b, rX9_readDoes_12, rX9_readDoes_15, rX9_readDoes_16, rX9_readDoes_19, rX9_readDoes_19b, rX9_readDoes_20, rX9_readDoes_23, rX9_readDoes_26, rX9_readDoes_27, rX9_readDoes_28, rX9_readDoes_31, rX9_readDoes_31b, rX9_readDoes_32, rX9_readDoes_33, rX9_readDoes_36, rX9_readDoes_36b, rX9_readDoes_37, kA_44, kB_44, kU0 hs, kU1 hs, kV1 hs, fU1 fi1, kU2 hs, kV2 hs, fU2 fi1, kU3 hs, kV3 hs, fU3 fi1, kU4 hs, kV4 hs, fU4 fi1, kU5 hs, kV5 hs, fU5 fi1, kU6 hs, kV6 hs, fU6 fi1, kU7 hs, kV7 hs, fU7 fi1, kU8 hs, kV8 hs, fU8 fi1, kU9 hs, kV9 hs, fU9 fi1, kU10 hs, kV10 hs, fU10 fi1, kU11 hs, kV11 hs, fU11 fi1, kU12 hs, kV12 hs, fU12 fi1, nU hs, nUk hs, r41, e1', hh, n51, v6', clx, dx, ql, show aDo st.1 x ≤ 0 from by omega, e2, pCX9_readDoes, pSX9_readDoes, pOX9_readDoes, pLX9_readDoes, pCX9_lineBegins, pSX9_lineBegins, pOX9_lineBegins, pLX9_lineBegins, pCX9_goesOn, pSX9_goesOn, pOX9_goesOn, pLX9_goesOn, pCX9_flaw, pSX9_flaw, pOX9_flaw, pLX9_flaw, pCX9_isWord, pSX9_isWord, pOX9_isWord, pLX9_isWord, pCX9_needs, pSX9_needs, pOX9_needs, pLX9_needs, pCX9_readWhole, pSX9_readWhole, pOX9_readWhole, pLX9_readWhole, pCX9_readPart, pSX9_readPart, pOX9_readPart, pLX9_readPart, pCX9_isName, pSX9_isName, pOX9_isName, pLX9_isName, pCX9_houseAtHand, pSX9_houseAtHand, pOX9_houseAtHand, pLX9_houseAtHand, pCX9_readHouseName, pSX9_readHouseName, pOX9_readHouseName, pLX9_readHouseName, pCX8_find, pSX8_find, pOX8_find, pLX8_find, pCX8_isSpark, pSX8_isSpark, pOX8_isSpark, pLX8_isSpark, pCX8_isUnknown, pSX8_isUnknown, pOX8_isUnknown, pLX8_isUnknown, pCX9_bit, pSX9_bit, pOX9_bit, pLX9_bit, kl_I, kl_J, kl_R, kl_T, kl_N, Nat.le_refl, Nat.zero_le, List.map_nil, List.map_cons, List.sum_nil, List.sum_cons, c_I, c_J, c_R, c_T, va_rf, hI_wI, hJ_wJ, hR_wR, hI_J, hI_R, hJ_I, hJ_R, hR_I, hR_J, hN_I, hN_J, hN_R, wI_I, wJ_J, upd_at, updL_at, kR_s, Option.toList, List.append_nil, List.nil_append, List.cons_append, if_true, if_false, reduceIte, Bool.false_eq_true, not_true_eq_false, not_false_eq_true, true_and, and_true, false_and, and_false, true_or, or_true,  Nat.reduceEqDiff, Nat.reduceAdd, Nat.reduceLeDiff]
          rw [dw]
          exact hX
        have n52 := RM_9 r2
        generalize tkN (bB tb) n t1.2.2 = t2 at r2 st1 ⊢
        cases hd : doW (bB tb) t2 with
        | none =>
          rw [hd, mI_no] at st1
          have fl : ∀ Q, WM (d + 8) mX9_flaw [.ref (44 : Nat), .int 1] h2 Q = Q (some none) (flH h2 (nI 1)) := c_fl9 (d := d + 8) (v := 1) n52
          have o := RO_fl 1 r2
          obtain ⟨o5, og, of, ow, on, orw, orp, oi, oh, ohn⟩ := ovf (d := d) o
          refine ⟨flH h2 (nI 1), fun Q => st1 Q _ ?_, rg_tr x1 (rg_tr x2 fl_rg), st, o⟩
          simp (implicitDefEqProofs := false) only [rX9_readDoes_83, rX9_readDoes_84, rX9_readDoes_85, rX9_readDoes_86, rX9_readDoes_89, rX9_readDoes_89b, rX9_readDoes_90, rX9_readDoes_91, rX9_readDoes_94, rX9_readDoes_94b, rX9_readDoes_95, rX9_readDoes_98, rX9_readDoes_98b, rX9_readDoes_99, rX9_readDoes_102, rX9_readDoes_103, rX9_readDoes_106, kA_44, kB_44, fl, og, o5, pCX9_readDoes, pSX9_readDoes, pOX9_readDoes, pLX9_readDoes, pCX9_lineBegins, pSX9_lineBegins, pOX9_lineBegins, pLX9_lineBegins, pCX9_goesOn, pSX9_goesOn, pOX9_goesOn, pLX9_goesOn, pCX9_flaw, pSX9_flaw, pOX9_flaw, pLX9_flaw, pCX9_isWord, pSX9_isWord, pOX9_isWord, pLX9_isWord, pCX9_needs, pSX9_needs, pOX9_needs, pLX9_needs, pCX9_readWhole, pSX9_readWhole, pOX9_readWhole, pLX9_readWhole, pCX9_readPart, pSX9_readPart, pOX9_readPart, pLX9_readPart, pCX9_isName, pSX9_isName, pOX9_isName, pLX9_isName, pCX9_houseAtHand, pSX9_houseAtHand, pOX9_houseAtHand, pLX9_houseAtHand, pCX9_readHouseName, pSX9_readHouseName, pOX9_readHouseName, pLX9_readHouseName, pCX8_find, pSX8_find, pOX8_find, pLX8_find, pCX8_isSpark, pSX8_isSpark, pOX8_isSpark, pLX8_isSpark, pCX8_isUnknown, pSX8_isUnknown, pOX8_isUnknown, pLX8_isUnknown, pCX9_bit, pSX9_bit, pOX9_bit, pLX9_bit, kl_I, kl_J, kl_R, kl_T, kl_N, Nat.le_refl, Nat.zero_le, List.map_nil, List.map_cons, List.sum_nil, List.sum_cons, c_I, c_J, c_R, c_T, va_rf, hI_wI, hJ_wJ, hR_wR, hI_J, hI_R, hJ_I, hJ_R, hR_I, hR_J, hN_I, hN_J, hN_R, wI_I, wJ_J, upd_at, updL_at, kR_s, Option.toList, List.append_nil, List.nil_append, List.cons_append, if_true, if_false, reduceIte, Bool.false_eq_true, not_true_eq_false, not_false_eq_true, true_and, and_true, false_and, and_false, true_or, or_true,  Nat.reduceEqDiff, Nat.reduceAdd, Nat.reduceLeDiff]
        | some v =>
          rw [hd, mI_so] at st1
          obtain ⟨d1, d2, d3'⟩ := doW_b hd
          have nv := nM (x := v) (by omega)
          obtain ⟨h3, e3, x3, r3⟩ := c_st9 (d := d + 7) r2 (by omega)
          obtain ⟨y0, y1, y2, y3, y4, y5, y6, y7, y20⟩ := r3.2.2.1.2.2.2.1
          have r43 := r3.2.1
          have fi3 := r3.2.2.1.2.1
          have w3 := mRd_do (x := x) (v := v) r3.2.2.1 c0 xl cd d1 d2
          have x4 : rg9 s h3 (wI (wI h3 (s + 4) (upd (hI h3 (s + 4)) x (nI v))) s (upd (hI h3 s) 3 (nI (doN st.1 (aN st.1) + 1)))) := rg_w (rg_w rg_refl (by omega) hs) (by omega) hs
          refine ⟨_, fun Q => st1 Q _ ?_, rg_tr x1 (rg_tr x2 (rg_tr x3 x4)), RM_up r3 x4 (by rw [hI_wI, if_neg (n44' hs), hI_wI, if_neg (n44 hs 4)]) rfl w3⟩
          simp (implicitDefEqProofs := false) only [rX9_readDoes_83, rX9_readDoes_84, rX9_readDoes_85, rX9_readDoes_86, rX9_readDoes_89, rX9_readDoes_89b, rX9_readDoes_90, rX9_readDoes_91, rX9_readDoes_94, rX9_readDoes_94b, rX9_readDoes_95, rX9_readDoes_98, rX9_readDoes_98b, rX9_readDoes_99, rX9_readDoes_102, rX9_readDoes_103, rX9_readDoes_106, rX9_readDoes_107, rX9_readDoes_107b, rX9_readDoes_108, rX9_readDoes_111, rX9_readDoes_114, rX9_readDoes_115, rX9_readDoes_116, rX9_readDoes_117, rX9_readDoes_117b, rX9_readDoes_118, rX9_readDoes_121, rX9_readDoes_121b, rX9_readDoes_122, rX9_readDoes_125, rX9_readDoes_126, rX9_readDoes_127, rX9_readDoes_130, kA_44, kB_44, kU0 hs, kU1 hs, kV1 hs, fU1 fi3, kU2 hs, kV2 hs, fU2 fi3, kU3 hs, kV3 hs, fU3 fi3, kU4 hs, kV4 hs, fU4 fi3, kU5 hs, kV5 hs, fU5 fi3, kU6 hs, kV6 hs, fU6 fi3, kU7 hs, kV7 hs, fU7 fi3, kU8 hs, kV8 hs, fU8 fi3, kU9 hs, kV9 hs, fU9 fi3, kU10 hs, kV10 hs, fU10 fi3, kU11 hs, kV11 hs, fU11 fi3, kU12 hs, kV12 hs, fU12 fi3, nU hs, nUk hs, r43, nv, e3, RM_9 r3, v6', clx, y3, nI_1, sne (s := s) (k := 4) (by decide), hWa, hWb, hWc, hWd, pCX9_readDoes, pSX9_readDoes, pOX9_readDoes, pLX9_readDoes, pCX9_lineBegins, pSX9_lineBegins, pOX9_lineBegins, pLX9_lineBegins, pCX9_goesOn, pSX9_goesOn, pOX9_goesOn, pLX9_goesOn, pCX9_flaw, pSX9_flaw, pOX9_flaw, pLX9_flaw, pCX9_isWord, pSX9_isWord, pOX9_isWord, pLX9_isWord, pCX9_needs, pSX9_needs, pOX9_needs, pLX9_needs, pCX9_readWhole, pSX9_readWhole, pOX9_readWhole, pLX9_readWhole, pCX9_readPart, pSX9_readPart, pOX9_readPart, pLX9_readPart, pCX9_isName, pSX9_isName, pOX9_isName, pLX9_isName, pCX9_houseAtHand, pSX9_houseAtHand, pOX9_houseAtHand, pLX9_houseAtHand, pCX9_readHouseName, pSX9_readHouseName, pOX9_readHouseName, pLX9_readHouseName, pCX8_find, pSX8_find, pOX8_find, pLX8_find, pCX8_isSpark, pSX8_isSpark, pOX8_isSpark, pLX8_isSpark, pCX8_isUnknown, pSX8_isUnknown, pOX8_isUnknown, pLX8_isUnknown, pCX9_bit, pSX9_bit, pOX9_bit, pLX9_bit, kl_I, kl_J, kl_R, kl_T, kl_N, Nat.le_refl, Nat.zero_le, List.map_nil, List.map_cons, List.sum_nil, List.sum_cons, c_I, c_J, c_R, c_T, va_rf, hI_wI, hJ_wJ, hR_wR, hI_J, hI_R, hJ_I, hJ_R, hR_I, hR_J, hN_I, hN_J, hN_R, wI_I, wJ_J, upd_at, updL_at, kR_s, Option.toList, List.append_nil, List.nil_append, List.cons_append, if_true, if_false, reduceIte, Bool.false_eq_true, not_true_eq_false, not_false_eq_true, true_and, and_true, false_and, and_false, true_or, or_true,  Nat.reduceEqDiff, Nat.reduceAdd, Nat.reduceLeDiff]
      · rw [if_neg cd]
        have fl : ∀ Q, WM (d + 8) mX9_flaw [.ref (44 : Nat), .int 3] h1 Q = Q (some none) (flH h1 (nI 3)) := c_fl9 (d := d + 8) (v := 3) n51
        have o := RO_fl 3 q1
        obtain ⟨o5, og, of, ow, on, orw, orp, oi, oh, ohn⟩ := ovf (d := d) o
        refine ⟨flH h1 (nI 3), fun Q => ?_, rg_tr x1 fl_rg, st, o⟩
        simp (implicitDefEqProofs := false) only [eX9_readDoes, rX9_readDoes_0, rX9_readDoes_0b, rX9_readDoes_1, rX9_readDoes_2, rX9_readDoes_3, rX9_readDoes_6, rX9_readDoes_6b, rX9_readDoes_7, rX9_readDoes_10, rX9_readDoes_11, rX9_readDoes_11b, rX9_readDoes_12, rX9_readDoes_15, rX9_readDoes_16, rX9_readDoes_19, rX9_readDoes_19b, rX9_readDoes_20, rX9_readDoes_23, rX9_readDoes_26, rX9_readDoes_27, rX9_readDoes_28, rX9_readDoes_31, rX9_readDoes_31b, rX9_readDoes_32, rX9_readDoes_33, rX9_readDoes_36, rX9_readDoes_36b, rX9_readDoes_37, rX9_readDoes_40, rX9_readDoes_40b, rX9_readDoes_41, rX9_readDoes_44, rX9_readDoes_47, rX9_readDoes_50, rX9_readDoes_51, rX9_readDoes_54, rX9_readDoes_54b, rX9_readDoes_55, rX9_readDoes_58, rX9_readDoes_61, rX9_readDoes_64, rX9_readDoes_65, rX9_readDoes_68, rX9_readDoes_68b, rX9_readDoes_69, rX9_readDoes_72, rX9_readDoes_75, rX9_readDoes_78, rX9_readDoes_79, rX9_readDoes_82, rX9_readDoes_83, rX9_readDoes_84, rX9_readDoes_85, rX9_readDoes_86, rX9_readDoes_89, rX9_readDoes_89b, rX9_readDoes_90, rX9_readDoes_91, rX9_readDoes_94, rX9_readDoes_94b, rX9_readDoes_95, rX9_readDoes_98, rX9_readDoes_98b, rX9_readDoes_99, rX9_readDoes_102, rX9_readDoes_103, rX9_readDoes_106, rX9_readDoes_107, rX9_readDoes_107b, rX9_readDoes_108, rX9_readDoes_111, rX9_readDoes_114, rX9_readDoes_115, rX9_readDoes_116, rX9_readDoes_117, rX9_readDoes_117b, rX9_readDoes_118, rX9_readDoes_121, rX9_readDoes_121b, rX9_readDoes_122, rX9_readDoes_125, rX9_readDoes_126, rX9_readDoes_127, rX9_readDoes_130, kA_44, kB_44, kU0 hs, kU1 hs, kV1 hs, fU1 fi1, kU2 hs, kV2 hs, fU2 fi1, kU3 hs, kV3 hs, fU3 fi1, kU4 hs, kV4 hs, fU4 fi1, kU5 hs, kV5 hs, fU5 fi1, kU6 hs, kV6 hs, fU6 fi1, kU7 hs, kV7 hs, fU7 fi1, kU8 hs, kV8 hs, fU8 fi1, kU9 hs, kV9 hs, fU9 fi1, kU10 hs, kV10 hs, fU10 fi1, kU11 hs, kV11 hs, fU11 fi1, kU12 hs, kV12 hs, fU12 fi1, nU hs, nUk hs, r41, e1', hh, n51, v6', clx, dx, ql, show ¬ aDo st.1 x ≤ 0 from by omega, fl, og, of, ow, o5, pCX9_readDoes, pSX9_readDoes, pOX9_readDoes, pLX9_readDoes, pCX9_lineBegins, pSX9_lineBegins, pOX9_lineBegins, pLX9_lineBegins, pCX9_goesOn, pSX9_goesOn, pOX9_goesOn, pLX9_goesOn, pCX9_flaw, pSX9_flaw, pOX9_flaw, pLX9_flaw, pCX9_isWord, pSX9_isWord, pOX9_isWord, pLX9_isWord, pCX9_needs, pSX9_needs, pOX9_needs, pLX9_needs, pCX9_readWhole, pSX9_readWhole, pOX9_readWhole, pLX9_readWhole, pCX9_readPart, pSX9_readPart, pOX9_readPart, pLX9_readPart, pCX9_isName, pSX9_isName, pOX9_isName, pLX9_isName, pCX9_houseAtHand, pSX9_houseAtHand, pOX9_houseAtHand, pLX9_houseAtHand, pCX9_readHouseName, pSX9_readHouseName, pOX9_readHouseName, pLX9_readHouseName, pCX8_find, pSX8_find, pOX8_find, pLX8_find, pCX8_isSpark, pSX8_isSpark, pOX8_isSpark, pLX8_isSpark, pCX8_isUnknown, pSX8_isUnknown, pOX8_isUnknown, pLX8_isUnknown, pCX9_bit, pSX9_bit, pOX9_bit, pLX9_bit, kl_I, kl_J, kl_R, kl_T, kl_N, Nat.le_refl, Nat.zero_le, List.map_nil, List.map_cons, List.sum_nil, List.sum_cons, c_I, c_J, c_R, c_T, va_rf, hI_wI, hJ_wJ, hR_wR, hI_J, hI_R, hJ_I, hJ_R, hR_I, hR_J, hN_I, hN_J, hN_R, wI_I, wJ_J, upd_at, updL_at, kR_s, Option.toList, List.append_nil, List.nil_append, List.cons_append, if_true, if_false, reduceIte, Bool.false_eq_true, not_true_eq_false, not_false_eq_true, true_and, and_true, false_and, and_false, true_or, or_true,  Nat.reduceEqDiff, Nat.reduceAdd, Nat.reduceLeDiff]
  · have c0' : st.2.2 = false := by simpa using c0
    rw [if_pos c0']
    obtain ⟨z1, z2, z3, z4, z5⟩ := rd.2.2.2.2.2.2.2.2.2.2.2 c0'
    rw [if_neg (by omega), if_pos c0'] at q1
    obtain ⟨o5, og, of, ow, on, orw, orp, oi, oh, ohn⟩ := ovf (d := d) q1
    have r41 := q1.2.1
    have rd1 := q1.2.2.1
    have F1 := q1.1
    obtain ⟨v0, v1, v2, v3, v4, v5, v6, v7, v20⟩ := rd1.2.2.2.1
    refine ⟨h1, fun Q => ?_, x1, st, q1⟩
    
    simp (implicitDefEqProofs := false) only [eX9_readDoes, rX9_readDoes_0, rX9_readDoes_0b, rX9_readDoes_1, rX9_readDoes_2, rX9_readDoes_3, rX9_readDoes_6, rX9_readDoes_6b, rX9_readDoes_7, rX9_readDoes_10, rX9_readDoes_11, rX9_readDoes_11b, rX9_readDoes_12, rX9_readDoes_15, rX9_readDoes_16, rX9_readDoes_19, rX9_readDoes_19b, rX9_readDoes_20, rX9_readDoes_23, rX9_readDoes_26, rX9_readDoes_27, rX9_readDoes_28, rX9_readDoes_31, rX9_readDoes_31b, rX9_readDoes_32, rX9_readDoes_33, rX9_readDoes_36, rX9_readDoes_36b, rX9_readDoes_37, rX9_readDoes_40, rX9_readDoes_40b, rX9_readDoes_41, rX9_readDoes_44, rX9_readDoes_47, rX9_readDoes_50, rX9_readDoes_51, rX9_readDoes_54, rX9_readDoes_54b, rX9_readDoes_55, rX9_readDoes_58, rX9_readDoes_61, rX9_readDoes_64, rX9_readDoes_65, rX9_readDoes_68, rX9_readDoes_68b, rX9_readDoes_69, rX9_readDoes_72, rX9_readDoes_75, rX9_readDoes_78, rX9_readDoes_79, rX9_readDoes_82, rX9_readDoes_83, rX9_readDoes_84, rX9_readDoes_85, rX9_readDoes_86, rX9_readDoes_89, rX9_readDoes_89b, rX9_readDoes_90, rX9_readDoes_91, rX9_readDoes_94, rX9_readDoes_94b, rX9_readDoes_95, rX9_readDoes_98, rX9_readDoes_98b, rX9_readDoes_99, rX9_readDoes_102, rX9_readDoes_103, rX9_readDoes_106, rX9_readDoes_107, rX9_readDoes_107b, rX9_readDoes_108, rX9_readDoes_111, rX9_readDoes_114, rX9_readDoes_115, rX9_readDoes_116, rX9_readDoes_117, rX9_readDoes_117b, rX9_readDoes_118, rX9_readDoes_121, rX9_readDoes_121b, rX9_readDoes_122, rX9_readDoes_125, rX9_readDoes_126, rX9_readDoes_127, rX9_readDoes_130, kA_44, kB_44, fin_44_5 F1, fin_44_15 F1, fin_44_16 F1, fin_44_17 F1, fin_44_18 F1, fin_44_21 F1, fin_44_23 F1, fin_44_24 F1, fin_44_25 F1, fin_44_29 F1, fin_44_33 F1, kU0 hs, kU1 hs, kV1 hs, fU1 fi, kU2 hs, kV2 hs, fU2 fi, kU3 hs, kV3 hs, fU3 fi, kU4 hs, kV4 hs, fU4 fi, kU5 hs, kV5 hs, fU5 fi, kU6 hs, kV6 hs, fU6 fi, kU7 hs, kV7 hs, fU7 fi, kU8 hs, kV8 hs, fU8 fi, kU9 hs, kV9 hs, fU9 fi, kU10 hs, kV10 hs, fU10 fi, kU11 hs, kV11 hs, fU11 fi, kU12 hs, kV12 hs, fU12 fi, nU hs, nUk hs, r4, r41, u1, u2, u5, u6, u7, e1', v0, v1, v2, v3, v4, v5, v6, v7, og, of, ow, orw, oi, oh, ohn, o5, pCX9_readDoes, pSX9_readDoes, pOX9_readDoes, pLX9_readDoes, pCX9_lineBegins, pSX9_lineBegins, pOX9_lineBegins, pLX9_lineBegins, pCX9_goesOn, pSX9_goesOn, pOX9_goesOn, pLX9_goesOn, pCX9_flaw, pSX9_flaw, pOX9_flaw, pLX9_flaw, pCX9_isWord, pSX9_isWord, pOX9_isWord, pLX9_isWord, pCX9_needs, pSX9_needs, pOX9_needs, pLX9_needs, pCX9_readWhole, pSX9_readWhole, pOX9_readWhole, pLX9_readWhole, pCX9_readPart, pSX9_readPart, pOX9_readPart, pLX9_readPart, pCX9_isName, pSX9_isName, pOX9_isName, pLX9_isName, pCX9_houseAtHand, pSX9_houseAtHand, pOX9_houseAtHand, pLX9_houseAtHand, pCX9_readHouseName, pSX9_readHouseName, pOX9_readHouseName, pLX9_readHouseName, pCX8_find, pSX8_find, pOX8_find, pLX8_find, kl_I, kl_J, kl_R, kl_T, kl_N, Nat.le_refl, Nat.zero_le, List.map_nil, List.map_cons, List.sum_nil, List.sum_cons, c_I, c_J, c_R, c_T, va_rf, hI_wI, hJ_wJ, hR_wR, hI_J, hI_R, hJ_I, hJ_R, hR_I, hR_J, hN_I, hN_J, hN_R, wI_I, wJ_J, upd_at, updL_at, kR_s, Option.toList, List.append_nil, List.nil_append, List.cons_append, if_true, if_false, reduceIte, Bool.false_eq_true, not_true_eq_false, not_false_eq_true, true_and, and_true, false_and, and_false, true_or, or_true,  Nat.reduceEqDiff, Nat.reduceAdd, Nat.reduceLeDiff]
