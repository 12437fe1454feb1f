/-! ===== the class's reader: words, names, numbers ===== -/
def eqL (b : Nat → Nat) (j p : Nat) : Nat → Nat → Bool
  | 0, _ => true
  | k + 1, i => if wdB j i = b (p + i) then eqL b j p k (i + 1) else false
theorem eqL_iff {b : Nat → Nat} {j p : Nat} : ∀ k i, eqL b j p k i = true ↔ ∀ x, i ≤ x → x < i + k → wdB j x = b (p + x)
  | 0, i => by simp [eqL]; omega
  | k + 1, i => by
    rw [eqL]
    by_cases c : wdB j i = b (p + i)
    · rw [if_pos c, eqL_iff k (i + 1)]
      constructor
      · intro h x h1 h2
        by_cases e : x = i
        · rw [e]; exact c
        · exact h x (by omega) (by omega)
      · intro h x h1 h2
        exact h x (by omega) (by omega)
    · rw [if_neg c]
      constructor
      · intro h; cases h
      · intro h; exact absurd (h i (by omega) (by omega)) c
theorem isW_e {b : Nat → Nat} {n : Nat} {t : tK} {j : Nat} (o : tOK b n t) (hj : j < 21) (h1 : t.1 = 1) : isW b t j = if t.2.2 - t.2.1 = sLen.getD j 0 then eqL b j t.2.1 (sLen.getD j 0) 0 else false := by
  have k1 := (o.2.2.2.1 h1).1
  have o2 := o.2.1
  have pe := pW_eq (b := b) (c := wdB j) (t.2.2 - t.2.1) (sLen.getD j 0) t.2.1 0 (fun x hx => k1 _ (by omega) (by omega)) (fun x hx => by rw [Nat.zero_add]; exact (wdB_ok j hj x hx).1)
  unfold isW
  by_cases c : t.2.2 - t.2.1 = sLen.getD j 0
  · rw [if_pos c]
    have e2 := eqL_iff (b := b) (j := j) (p := t.2.1) (sLen.getD j 0) 0
    have e3 : (t.1 = 1 ∧ wV b t = wdN j) ↔ eqL b j t.2.1 (sLen.getD j 0) 0 = true := by
      rw [e2]
      unfold wV wdN
      rw [pe]
      constructor
      · rintro ⟨-, -, q⟩ x h2 h3
        have := q x (by omega)
        rw [Nat.zero_add] at this
        exact this.symm
      · intro q
        refine ⟨h1, c, fun x hx => ?_⟩
        rw [Nat.zero_add]
        exact (q x (by omega) (by omega)).symm
    cases hb : eqL b j t.2.1 (sLen.getD j 0) 0 with
    | true => exact decide_eq_true (e3.mpr hb)
    | false => exact decide_eq_false (fun q => by rw [e3.mp q] at hb; cases hb)
  · rw [if_neg c]
    refine decide_eq_false (fun q => c ?_)
    have := q.2
    unfold wV wdN at this
    exact (pe.mp this).1
theorem isW_n {b : Nat → Nat} {t : tK} {j : Nat} (h1 : ¬ t.1 = 1) : isW b t j = false := decide_eq_false (fun q => h1 q.1)
theorem l_isWord {d : Nat} {h : qH} {s n : Nat} {tb : Nat → Int32} {st : PS} {t : tK} {j : Nat} (r : RS h s n tb st t) (hj : j < 21) (hl : t.2.2 - t.2.1 = sLen.getD j 0) {Q : Option (Option Value) → qH → Prop} : ∀ (k i : Nat), i + k = sLen.getD j 0 → WP (d + 4) mX2_isWord (0, 0) 28 [some (.ref (27 : Nat)), some (.retAddr j), some (.int (nI i))] [] h Q = Q (some (some (.int (bI (eqL (bB tb) j t.2.1 k i))))) h := by
  obtain ⟨F, r2, w, nm, op, ⟨e3, e5, e6, e7⟩, ok, hn, tp, e9⟩ := r
  obtain ⟨o1, o2, o3, -⟩ := ok
  have l8 := sLen_le j hj
  have ln := c_length (d := d + 2) (h := h) hj
  intro k
  induction k with
  | zero =>
    intro i hi
    obtain rfl : i = sLen.getD j 0 := by omega
    simp (implicitDefEqProofs := false) only [rX2_isWord_28, rX2_isWord_29, rX2_isWord_29b, rX2_isWord_30, rX2_isWord_33, rX2_isWord_36, rX2_isWord_36b, rX2_isWord_37, rX2_isWord_38, rX2_isWord_41, rX2_isWord_41b, rX2_isWord_42, rX2_isWord_45, rX2_isWord_45b, rX2_isWord_46, rX2_isWord_49, rX2_isWord_50, rX2_isWord_51, rX2_isWord_54, rX2_isWord_57, rX2_isWord_58, rX2_isWord_59, rX2_isWord_65, rX2_isWord_66, fin_27_0 F, fin_27_1 F, kA_27, kB_27, pCX2_isWord, pSX2_isWord, pOX2_isWord, pLX2_isWord, pCJ0_length_8abf5, pSJ0_length_8abf5, pOJ0_length_8abf5, pLJ0_length_8abf5, show j < 2000 from by omega, hj, ln, Int32.le_refl, eqL, bI_t, kl_I, kl_J, kl_R, kl_T, kl_N, Nat.le_refl, Nat.zero_le, List.map_nil, List.map_cons, List.sum_nil, List.sum_cons, c_I, c_J, c_R, c_T, va_rf, hI_wI, hJ_wJ, hR_wR, hI_J, hI_R, hJ_I, hJ_R, hR_I, hR_J, hN_I, hN_J, hN_R, wI_I, wJ_J, upd_at, updL_at, kR_s, Option.toList, List.append_nil, List.nil_append, List.cons_append, if_true, if_false, reduceIte, Bool.false_eq_true, not_true_eq_false, not_false_eq_true, true_and, and_true, false_and, and_false, true_or, or_true,  Nat.reduceEqDiff, Nat.reduceAdd, Nat.reduceLeDiff]
  | succ k ih =>
    intro i hi
    have g1 : ¬ nI (sLen.getD j 0) ≤ nI i := nI_ge (by omega) (by omega)
    have ch := c_charAt (d := d) (h := h) (i := i) hj (by omega)
    rw [(wdB_ok j hj i (by omega)).2] at ch
    have wl := (wdB_ok j hj i (by omega)).1
    simp only [isL, decide_eq_true_eq] at wl
    have at1 : ∀ Q, WM (d + 3) mX5_at [.ref (25 : Nat), .int (nI (t.2.1 + i))] h Q = Q (some (some (.int (nI (bB tb (t.2.1 + i)))))) h := by rw [show bB tb (t.2.1 + i) = ub (hI h 26 (t.2.1 + i)) by rw [tp (t.2.1 + i) (by omega)]; rfl]; exact c_at F (by omega)
    have bl := bB_lt (tb := tb) (t.2.1 + i)
    have q : (nI (wdB j i) = nI (bB tb (t.2.1 + i))) = (wdB j i = bB tb (t.2.1 + i)) := propext (nI_eq (by omega) (by omega))
    rw [eqL]
    by_cases c : wdB j i = bB tb (t.2.1 + i)
    · rw [if_pos c]
      have q' : (nI (wdB j i) = nI (bB tb (t.2.1 + i))) = True := by rw [q]; exact eq_true c
      simp (implicitDefEqProofs := false) only [rX2_isWord_28, rX2_isWord_29, rX2_isWord_29b, rX2_isWord_30, rX2_isWord_33, rX2_isWord_36, rX2_isWord_36b, rX2_isWord_37, rX2_isWord_38, rX2_isWord_41, rX2_isWord_41b, rX2_isWord_42, rX2_isWord_45, rX2_isWord_45b, rX2_isWord_46, rX2_isWord_49, rX2_isWord_50, rX2_isWord_51, rX2_isWord_54, rX2_isWord_57, rX2_isWord_58, rX2_isWord_59, fin_27_0 F, fin_27_1 F, kA_25, kB_25, kA_27, kB_27, pCX2_isWord, pSX2_isWord, pOX2_isWord, pLX2_isWord, pCJ0_length_8abf5, pSJ0_length_8abf5, pOJ0_length_8abf5, pLJ0_length_8abf5, pCJ0_charAt_5068e, pSJ0_charAt_5068e, pOJ0_charAt_5068e, pLJ0_charAt_5068e, pCX5_at, pSX5_at, pOX5_at, pLX5_at, show j < 2000 from by omega, hj, ln, g1, ch, e6, nI_add, at1, q', kl_I, kl_J, kl_R, kl_T, kl_N, Nat.le_refl, Nat.zero_le, List.map_nil, List.map_cons, List.sum_nil, List.sum_cons, c_I, c_J, c_R, c_T, va_rf, hI_wI, hJ_wJ, hR_wR, hI_J, hI_R, hJ_I, hJ_R, hR_I, hR_J, hN_I, hN_J, hN_R, wI_I, wJ_J, upd_at, updL_at, kR_s, Option.toList, List.append_nil, List.nil_append, List.cons_append, if_true, if_false, reduceIte, Bool.false_eq_true, not_true_eq_false, not_false_eq_true, true_and, and_true, false_and, and_false, true_or, or_true,  Nat.reduceEqDiff, Nat.reduceAdd, Nat.reduceLeDiff]
      rw [rX2_isWord_62, nI_1]
      exact ih (i + 1) (by omega)
    · rw [if_neg c]
      simp (implicitDefEqProofs := false) only [rX2_isWord_28, rX2_isWord_29, rX2_isWord_29b, rX2_isWord_30, rX2_isWord_33, rX2_isWord_36, rX2_isWord_36b, rX2_isWord_37, rX2_isWord_38, rX2_isWord_41, rX2_isWord_41b, rX2_isWord_42, rX2_isWord_45, rX2_isWord_45b, rX2_isWord_46, rX2_isWord_49, rX2_isWord_50, rX2_isWord_51, rX2_isWord_54, rX2_isWord_57, rX2_isWord_58, rX2_isWord_59, fin_27_0 F, fin_27_1 F, kA_25, kB_25, kA_27, kB_27, pCX2_isWord, pSX2_isWord, pOX2_isWord, pLX2_isWord, pCJ0_length_8abf5, pSJ0_length_8abf5, pOJ0_length_8abf5, pLJ0_length_8abf5, pCJ0_charAt_5068e, pSJ0_charAt_5068e, pOJ0_charAt_5068e, pLJ0_charAt_5068e, pCX5_at, pSX5_at, pOX5_at, pLX5_at, show j < 2000 from by omega, hj, ln, g1, ch, e6, nI_add, at1, q, c, bI_f, kl_I, kl_J, kl_R, kl_T, kl_N, Nat.le_refl, Nat.zero_le, List.map_nil, List.map_cons, List.sum_nil, List.sum_cons, c_I, c_J, c_R, c_T, va_rf, hI_wI, hJ_wJ, hR_wR, hI_J, hI_R, hJ_I, hJ_R, hR_I, hR_J, hN_I, hN_J, hN_R, wI_I, wJ_J, upd_at, updL_at, kR_s, Option.toList, List.append_nil, List.nil_append, List.cons_append, if_true, if_false, reduceIte, Bool.false_eq_true, not_true_eq_false, not_false_eq_true, true_and, and_true, false_and, and_false, true_or, or_true,  Nat.reduceEqDiff, Nat.reduceAdd, Nat.reduceLeDiff]
theorem c_isWord {d : Nat} {h : qH} {s n : Nat} {tb : Nat → Int32} {st : PS} {t : tK} (j : Nat) (r : RS h s n tb st t) (hj : j < 21) : ∀ Q, WM (d + 4) mX2_isWord [.ref (27 : Nat), .retAddr j] h Q = Q (some (some (.int (bI (isW (bB tb) t j))))) h := by
  intro Q
  obtain ⟨F, r2, w, nm, op, ⟨e3, e5, e6, e7⟩, ok, hn, tp, e9⟩ := id r
  have o1 := ok.1
  have o2 := ok.2.1
  have o3 := ok.2.2.1
  have l8 := sLen_le j hj
  have ln := c_length (d := d + 2) (h := h) hj
  have q1 : (nI t.1 = 1) = (t.1 = 1) := nq (x := t.1) (k := 1) (c := 1) rfl (by omega) (by omega)
  have q2 : (nI (sLen.getD j 0) = nI (t.2.2 - t.2.1)) = (sLen.getD j 0 = t.2.2 - t.2.1) := propext (nI_eq (by omega) (by omega))
  by_cases c1 : t.1 = 1
  · have q1' : (nI t.1 = 1) = True := by rw [q1]; exact eq_true c1
    rw [isW_e ok hj c1]
    by_cases c2 : t.2.2 - t.2.1 = sLen.getD j 0
    · rw [if_pos c2]
      have q2' : (nI (sLen.getD j 0) = nI (t.2.2 - t.2.1)) = True := by rw [q2]; exact eq_true c2.symm
      have l := l_isWord (d := d) r hj c2 (Q := Q) (sLen.getD j 0) 0 (by omega)
      rw [nI_0] at l
      simp (implicitDefEqProofs := false) only [eX2_isWord, rX2_isWord_0, rX2_isWord_0b, rX2_isWord_1, rX2_isWord_4, rX2_isWord_5, rX2_isWord_8, rX2_isWord_8b, rX2_isWord_9, rX2_isWord_12, rX2_isWord_12b, rX2_isWord_13, rX2_isWord_16, rX2_isWord_16b, rX2_isWord_17, rX2_isWord_20, rX2_isWord_21, rX2_isWord_24, rX2_isWord_25, rX2_isWord_26, rX2_isWord_27, fin_27_0 F, fin_27_1 F, kA_27, kB_27, pCX2_isWord, pSX2_isWord, pOX2_isWord, pLX2_isWord, pCJ0_length_8abf5, pSJ0_length_8abf5, pOJ0_length_8abf5, pLJ0_length_8abf5, show j < 2000 from by omega, hj, e5, q1', e6, e7, pk_sub o2, ln, q2', kl_I, kl_J, kl_R, kl_T, kl_N, Nat.le_refl, Nat.zero_le, List.map_nil, List.map_cons, List.sum_nil, List.sum_cons, c_I, c_J, c_R, c_T, va_rf, hI_wI, hJ_wJ, hR_wR, hI_J, hI_R, hJ_I, hJ_R, hR_I, hR_J, hN_I, hN_J, hN_R, wI_I, wJ_J, upd_at, updL_at, kR_s, Option.toList, List.append_nil, List.nil_append, List.cons_append, if_true, if_false, reduceIte, Bool.false_eq_true, not_true_eq_false, not_false_eq_true, true_and, and_true, false_and, and_false, true_or, or_true,  Nat.reduceEqDiff, Nat.reduceAdd, Nat.reduceLeDiff]
      exact l
    · rw [if_neg c2]
      have q2' : (nI (sLen.getD j 0) = nI (t.2.2 - t.2.1)) = False := by rw [q2]; exact eq_false (fun e => c2 e.symm)
      simp (implicitDefEqProofs := false) only [eX2_isWord, rX2_isWord_0, rX2_isWord_0b, rX2_isWord_1, rX2_isWord_4, rX2_isWord_5, rX2_isWord_8, rX2_isWord_8b, rX2_isWord_9, rX2_isWord_12, rX2_isWord_12b, rX2_isWord_13, rX2_isWord_16, rX2_isWord_16b, rX2_isWord_17, rX2_isWord_20, rX2_isWord_21, rX2_isWord_24, rX2_isWord_25, rX2_isWord_26, rX2_isWord_27, fin_27_0 F, fin_27_1 F, kA_27, kB_27, pCX2_isWord, pSX2_isWord, pOX2_isWord, pLX2_isWord, pCJ0_length_8abf5, pSJ0_length_8abf5, pOJ0_length_8abf5, pLJ0_length_8abf5, show j < 2000 from by omega, hj, e5, q1', e6, e7, pk_sub o2, ln, q2', bI_f, kl_I, kl_J, kl_R, kl_T, kl_N, Nat.le_refl, Nat.zero_le, List.map_nil, List.map_cons, List.sum_nil, List.sum_cons, c_I, c_J, c_R, c_T, va_rf, hI_wI, hJ_wJ, hR_wR, hI_J, hI_R, hJ_I, hJ_R, hR_I, hR_J, hN_I, hN_J, hN_R, wI_I, wJ_J, upd_at, updL_at, kR_s, Option.toList, List.append_nil, List.nil_append, List.cons_append, if_true, if_false, reduceIte, Bool.false_eq_true, not_true_eq_false, not_false_eq_true, true_and, and_true, false_and, and_false, true_or, or_true,  Nat.reduceEqDiff, Nat.reduceAdd, Nat.reduceLeDiff]
  · rw [isW_n c1]
    simp (implicitDefEqProofs := false) only [eX2_isWord, rX2_isWord_0, rX2_isWord_0b, rX2_isWord_1, rX2_isWord_4, rX2_isWord_5, rX2_isWord_8, rX2_isWord_8b, rX2_isWord_9, rX2_isWord_12, rX2_isWord_12b, rX2_isWord_13, rX2_isWord_16, rX2_isWord_16b, rX2_isWord_17, rX2_isWord_20, rX2_isWord_21, rX2_isWord_24, rX2_isWord_25, rX2_isWord_26, rX2_isWord_27, fin_27_0 F, fin_27_1 F, kA_27, kB_27, pCX2_isWord, pSX2_isWord, pOX2_isWord, pLX2_isWord, e5, q1, c1, bI_f, kl_I, kl_J, kl_R, kl_T, kl_N, Nat.le_refl, Nat.zero_le, List.map_nil, List.map_cons, List.sum_nil, List.sum_cons, c_I, c_J, c_R, c_T, va_rf, hI_wI, hJ_wJ, hR_wR, hI_J, hI_R, hJ_I, hJ_R, hR_I, hR_J, hN_I, hN_J, hN_R, wI_I, wJ_J, upd_at, updL_at, kR_s, Option.toList, List.append_nil, List.nil_append, List.cons_append, if_true, if_false, reduceIte, Bool.false_eq_true, not_true_eq_false, not_false_eq_true, true_and, and_true, false_and, and_false, true_or, or_true,  Nat.reduceEqDiff, Nat.reduceAdd, Nat.reduceLeDiff]
theorem mI_so {x : Nat} : mI (some x) = nI x := rfl
theorem mI_no : mI none = -1 := rfl
theorem c_reserved {d : Nat} {h : qH} {s n : Nat} {tb : Nat → Int32} {st : PS} {t : tK} (r : RS h s n tb st t) : ∀ Q, WM (d + 5) mX2_reserved [.ref (27 : Nat)] h Q = Q (some (some (.int (mI (rsv (bB tb) t))))) h := by
  intro Q
  have w0 := c_isWord (d := d) 0 r (by omega)
  have w1 := c_isWord (d := d) 1 r (by omega)
  have w2 := c_isWord (d := d) 2 r (by omega)
  have w3 := c_isWord (d := d) 3 r (by omega)
  have w4 := c_isWord (d := d) 4 r (by omega)
  have w5 := c_isWord (d := d) 5 r (by omega)
  have w6 := c_isWord (d := d) 6 r (by omega)
  have w7 := c_isWord (d := d) 7 r (by omega)
  have w8 := c_isWord (d := d) 8 r (by omega)
  unfold rsv
  simp only [rsvL]
  by_cases c0 : isW (bB tb) t 0 = true
  · simp (implicitDefEqProofs := false) only [eX2_reserved, rX2_reserved_0, rX2_reserved_0b, rX2_reserved_1, rX2_reserved_3, rX2_reserved_6, rX2_reserved_9, rX2_reserved_10, rX2_reserved_11, rX2_reserved_11b, rX2_reserved_12, rX2_reserved_14, rX2_reserved_17, rX2_reserved_20, rX2_reserved_21, rX2_reserved_22, rX2_reserved_22b, rX2_reserved_23, rX2_reserved_25, rX2_reserved_28, rX2_reserved_31, rX2_reserved_32, rX2_reserved_33, rX2_reserved_33b, rX2_reserved_34, rX2_reserved_36, rX2_reserved_39, rX2_reserved_42, rX2_reserved_43, rX2_reserved_44, rX2_reserved_44b, rX2_reserved_45, rX2_reserved_47, rX2_reserved_50, rX2_reserved_53, rX2_reserved_54, rX2_reserved_55, rX2_reserved_55b, rX2_reserved_56, rX2_reserved_58, rX2_reserved_61, rX2_reserved_64, rX2_reserved_65, rX2_reserved_66, rX2_reserved_66b, rX2_reserved_67, rX2_reserved_69, rX2_reserved_72, rX2_reserved_75, rX2_reserved_77, rX2_reserved_78, rX2_reserved_78b, rX2_reserved_79, rX2_reserved_81, rX2_reserved_84, rX2_reserved_87, rX2_reserved_89, rX2_reserved_90, rX2_reserved_90b, rX2_reserved_91, rX2_reserved_93, rX2_reserved_96, rX2_reserved_99, rX2_reserved_101, rX2_reserved_104, rX2_reserved_105, kA_27, kB_27, pCX2_reserved, pSX2_reserved, pOX2_reserved, pLX2_reserved, pCX2_isWord, pSX2_isWord, pOX2_isWord, pLX2_isWord, w0, c0, bI_t, bI_f, mI_so, Option.map, Nat.reduceSub, show ¬ (1 : Int32) = 0 from by decide, show nI 0 = 0 from rfl, show nI 1 = 1 from rfl, show nI 2 = 2 from rfl, show nI 3 = 3 from rfl, show nI 4 = 4 from rfl, show nI 5 = 5 from rfl, show nI 6 = 6 from rfl, show nI 7 = 7 from rfl, show nI 8 = 8 from rfl, kl_I, kl_J, kl_R, kl_T, kl_N, Nat.le_refl, Nat.zero_le, List.map_nil, List.map_cons, List.sum_nil, List.sum_cons, c_I, c_J, c_R, c_T, va_rf, hI_wI, hJ_wJ, hR_wR, hI_J, hI_R, hJ_I, hJ_R, hR_I, hR_J, hN_I, hN_J, hN_R, wI_I, wJ_J, upd_at, updL_at, kR_s, Option.toList, List.append_nil, List.nil_append, List.cons_append, if_true, if_false, reduceIte, Bool.false_eq_true, not_true_eq_false, not_false_eq_true, true_and, and_true, false_and, and_false, true_or, or_true,  Nat.reduceEqDiff, Nat.reduceAdd, Nat.reduceLeDiff]
  · have c0' : isW (bB tb) t 0 = false := by simpa using c0
    by_cases c1 : isW (bB tb) t 1 = true
    · simp (implicitDefEqProofs := false) only [eX2_reserved, rX2_reserved_0, rX2_reserved_0b, rX2_reserved_1, rX2_reserved_3, rX2_reserved_6, rX2_reserved_9, rX2_reserved_10, rX2_reserved_11, rX2_reserved_11b, rX2_reserved_12, rX2_reserved_14, rX2_reserved_17, rX2_reserved_20, rX2_reserved_21, rX2_reserved_22, rX2_reserved_22b, rX2_reserved_23, rX2_reserved_25, rX2_reserved_28, rX2_reserved_31, rX2_reserved_32, rX2_reserved_33, rX2_reserved_33b, rX2_reserved_34, rX2_reserved_36, rX2_reserved_39, rX2_reserved_42, rX2_reserved_43, rX2_reserved_44, rX2_reserved_44b, rX2_reserved_45, rX2_reserved_47, rX2_reserved_50, rX2_reserved_53, rX2_reserved_54, rX2_reserved_55, rX2_reserved_55b, rX2_reserved_56, rX2_reserved_58, rX2_reserved_61, rX2_reserved_64, rX2_reserved_65, rX2_reserved_66, rX2_reserved_66b, rX2_reserved_67, rX2_reserved_69, rX2_reserved_72, rX2_reserved_75, rX2_reserved_77, rX2_reserved_78, rX2_reserved_78b, rX2_reserved_79, rX2_reserved_81, rX2_reserved_84, rX2_reserved_87, rX2_reserved_89, rX2_reserved_90, rX2_reserved_90b, rX2_reserved_91, rX2_reserved_93, rX2_reserved_96, rX2_reserved_99, rX2_reserved_101, rX2_reserved_104, rX2_reserved_105, kA_27, kB_27, pCX2_reserved, pSX2_reserved, pOX2_reserved, pLX2_reserved, pCX2_isWord, pSX2_isWord, pOX2_isWord, pLX2_isWord, w0, c0', w1, c1, bI_t, bI_f, mI_so, Option.map, Nat.reduceSub, show ¬ (1 : Int32) = 0 from by decide, show nI 0 = 0 from rfl, show nI 1 = 1 from rfl, show nI 2 = 2 from rfl, show nI 3 = 3 from rfl, show nI 4 = 4 from rfl, show nI 5 = 5 from rfl, show nI 6 = 6 from rfl, show nI 7 = 7 from rfl, show nI 8 = 8 from rfl, kl_I, kl_J, kl_R, kl_T, kl_N, Nat.le_refl, Nat.zero_le, List.map_nil, List.map_cons, List.sum_nil, List.sum_cons, c_I, c_J, c_R, c_T, va_rf, hI_wI, hJ_wJ, hR_wR, hI_J, hI_R, hJ_I, hJ_R, hR_I, hR_J, hN_I, hN_J, hN_R, wI_I, wJ_J, upd_at, updL_at, kR_s, Option.toList, List.append_nil, List.nil_append, List.cons_append, if_true, if_false, reduceIte, Bool.false_eq_true, not_true_eq_false, not_false_eq_true, true_and, and_true, false_and, and_false, true_or, or_true,  Nat.reduceEqDiff, Nat.reduceAdd, Nat.reduceLeDiff]
    · have c1' : isW (bB tb) t 1 = false := by simpa using c1
      by_cases c2 : isW (bB tb) t 2 = true
      · simp (implicitDefEqProofs := false) only [eX2_reserved, rX2_reserved_0, rX2_reserved_0b, rX2_reserved_1, rX2_reserved_3, rX2_reserved_6, rX2_reserved_9, rX2_reserved_10, rX2_reserved_11, rX2_reserved_11b, rX2_reserved_12, rX2_reserved_14, rX2_reserved_17, rX2_reserved_20, rX2_reserved_21, rX2_reserved_22, rX2_reserved_22b, rX2_reserved_23, rX2_reserved_25, rX2_reserved_28, rX2_reserved_31, rX2_reserved_32, rX2_reserved_33, rX2_reserved_33b, rX2_reserved_34, rX2_reserved_36, rX2_reserved_39, rX2_reserved_42, rX2_reserved_43, rX2_reserved_44, rX2_reserved_44b, rX2_reserved_45, rX2_reserved_47, rX2_reserved_50, rX2_reserved_53, rX2_reserved_54, rX2_reserved_55, rX2_reserved_55b, rX2_reserved_56, rX2_reserved_58, rX2_reserved_61, rX2_reserved_64, rX2_reserved_65, rX2_reserved_66, rX2_reserved_66b, rX2_reserved_67, rX2_reserved_69, rX2_reserved_72, rX2_reserved_75, rX2_reserved_77, rX2_reserved_78, rX2_reserved_78b, rX2_reserved_79, rX2_reserved_81, rX2_reserved_84, rX2_reserved_87, rX2_reserved_89, rX2_reserved_90, rX2_reserved_90b, rX2_reserved_91, rX2_reserved_93, rX2_reserved_96, rX2_reserved_99, rX2_reserved_101, rX2_reserved_104, rX2_reserved_105, kA_27, kB_27, pCX2_reserved, pSX2_reserved, pOX2_reserved, pLX2_reserved, pCX2_isWord, pSX2_isWord, pOX2_isWord, pLX2_isWord, w0, c0', w1, c1', w2, c2, bI_t, bI_f, mI_so, Option.map, Nat.reduceSub, show ¬ (1 : Int32) = 0 from by decide, show nI 0 = 0 from rfl, show nI 1 = 1 from rfl, show nI 2 = 2 from rfl, show nI 3 = 3 from rfl, show nI 4 = 4 from rfl, show nI 5 = 5 from rfl, show nI 6 = 6 from rfl, show nI 7 = 7 from rfl, show nI 8 = 8 from rfl, kl_I, kl_J, kl_R, kl_T, kl_N, Nat.le_refl, Nat.zero_le, List.map_nil, List.map_cons, List.sum_nil, List.sum_cons, c_I, c_J, c_R, c_T, va_rf, hI_wI, hJ_wJ, hR_wR, hI_J, hI_R, hJ_I, hJ_R, hR_I, hR_J, hN_I, hN_J, hN_R, wI_I, wJ_J, upd_at, updL_at, kR_s, Option.toList, List.append_nil, List.nil_append, List.cons_append, if_true, if_false, reduceIte, Bool.false_eq_true, not_true_eq_false, not_false_eq_true, true_and, and_true, false_and, and_false, true_or, or_true,  Nat.reduceEqDiff, Nat.reduceAdd, Nat.reduceLeDiff]
      · have c2' : isW (bB tb) t 2 = false := by simpa using c2
        by_cases c3 : isW (bB tb) t 3 = true
        · simp (implicitDefEqProofs := false) only [eX2_reserved, rX2_reserved_0, rX2_reserved_0b, rX2_reserved_1, rX2_reserved_3, rX2_reserved_6, rX2_reserved_9, rX2_reserved_10, rX2_reserved_11, rX2_reserved_11b, rX2_reserved_12, rX2_reserved_14, rX2_reserved_17, rX2_reserved_20, rX2_reserved_21, rX2_reserved_22, rX2_reserved_22b, rX2_reserved_23, rX2_reserved_25, rX2_reserved_28, rX2_reserved_31, rX2_reserved_32, rX2_reserved_33, rX2_reserved_33b, rX2_reserved_34, rX2_reserved_36, rX2_reserved_39, rX2_reserved_42, rX2_reserved_43, rX2_reserved_44, rX2_reserved_44b, rX2_reserved_45, rX2_reserved_47, rX2_reserved_50, rX2_reserved_53, rX2_reserved_54, rX2_reserved_55, rX2_reserved_55b, rX2_reserved_56, rX2_reserved_58, rX2_reserved_61, rX2_reserved_64, rX2_reserved_65, rX2_reserved_66, rX2_reserved_66b, rX2_reserved_67, rX2_reserved_69, rX2_reserved_72, rX2_reserved_75, rX2_reserved_77, rX2_reserved_78, rX2_reserved_78b, rX2_reserved_79, rX2_reserved_81, rX2_reserved_84, rX2_reserved_87, rX2_reserved_89, rX2_reserved_90, rX2_reserved_90b, rX2_reserved_91, rX2_reserved_93, rX2_reserved_96, rX2_reserved_99, rX2_reserved_101, rX2_reserved_104, rX2_reserved_105, kA_27, kB_27, pCX2_reserved, pSX2_reserved, pOX2_reserved, pLX2_reserved, pCX2_isWord, pSX2_isWord, pOX2_isWord, pLX2_isWord, w0, c0', w1, c1', w2, c2', w3, c3, bI_t, bI_f, mI_so, Option.map, Nat.reduceSub, show ¬ (1 : Int32) = 0 from by decide, show nI 0 = 0 from rfl, show nI 1 = 1 from rfl, show nI 2 = 2 from rfl, show nI 3 = 3 from rfl, show nI 4 = 4 from rfl, show nI 5 = 5 from rfl, show nI 6 = 6 from rfl, show nI 7 = 7 from rfl, show nI 8 = 8 from rfl, kl_I, kl_J, kl_R, kl_T, kl_N, Nat.le_refl, Nat.zero_le, List.map_nil, List.map_cons, List.sum_nil, List.sum_cons, c_I, c_J, c_R, c_T, va_rf, hI_wI, hJ_wJ, hR_wR, hI_J, hI_R, hJ_I, hJ_R, hR_I, hR_J, hN_I, hN_J, hN_R, wI_I, wJ_J, upd_at, updL_at, kR_s, Option.toList, List.append_nil, List.nil_append, List.cons_append, if_true, if_false, reduceIte, Bool.false_eq_true, not_true_eq_false, not_false_eq_true, true_and, and_true, false_and, and_false, true_or, or_true,  Nat.reduceEqDiff, Nat.reduceAdd, Nat.reduceLeDiff]
        · have c3' : isW (bB tb) t 3 = false := by simpa using c3
          by_cases c4 : isW (bB tb) t 4 = true
          · simp (implicitDefEqProofs := false) only [eX2_reserved, rX2_reserved_0, rX2_reserved_0b, rX2_reserved_1, rX2_reserved_3, rX2_reserved_6, rX2_reserved_9, rX2_reserved_10, rX2_reserved_11, rX2_reserved_11b, rX2_reserved_12, rX2_reserved_14, rX2_reserved_17, rX2_reserved_20, rX2_reserved_21, rX2_reserved_22, rX2_reserved_22b, rX2_reserved_23, rX2_reserved_25, rX2_reserved_28, rX2_reserved_31, rX2_reserved_32, rX2_reserved_33, rX2_reserved_33b, rX2_reserved_34, rX2_reserved_36, rX2_reserved_39, rX2_reserved_42, rX2_reserved_43, rX2_reserved_44, rX2_reserved_44b, rX2_reserved_45, rX2_reserved_47, rX2_reserved_50, rX2_reserved_53, rX2_reserved_54, rX2_reserved_55, rX2_reserved_55b, rX2_reserved_56, rX2_reserved_58, rX2_reserved_61, rX2_reserved_64, rX2_reserved_65, rX2_reserved_66, rX2_reserved_66b, rX2_reserved_67, rX2_reserved_69, rX2_reserved_72, rX2_reserved_75, rX2_reserved_77, rX2_reserved_78, rX2_reserved_78b, rX2_reserved_79, rX2_reserved_81, rX2_reserved_84, rX2_reserved_87, rX2_reserved_89, rX2_reserved_90, rX2_reserved_90b, rX2_reserved_91, rX2_reserved_93, rX2_reserved_96, rX2_reserved_99, rX2_reserved_101, rX2_reserved_104, rX2_reserved_105, kA_27, kB_27, pCX2_reserved, pSX2_reserved, pOX2_reserved, pLX2_reserved, pCX2_isWord, pSX2_isWord, pOX2_isWord, pLX2_isWord, w0, c0', w1, c1', w2, c2', w3, c3', w4, c4, bI_t, bI_f, mI_so, Option.map, Nat.reduceSub, show ¬ (1 : Int32) = 0 from by decide, show nI 0 = 0 from rfl, show nI 1 = 1 from rfl, show nI 2 = 2 from rfl, show nI 3 = 3 from rfl, show nI 4 = 4 from rfl, show nI 5 = 5 from rfl, show nI 6 = 6 from rfl, show nI 7 = 7 from rfl, show nI 8 = 8 from rfl, kl_I, kl_J, kl_R, kl_T, kl_N, Nat.le_refl, Nat.zero_le, List.map_nil, List.map_cons, List.sum_nil, List.sum_cons, c_I, c_J, c_R, c_T, va_rf, hI_wI, hJ_wJ, hR_wR, hI_J, hI_R, hJ_I, hJ_R, hR_I, hR_J, hN_I, hN_J, hN_R, wI_I, wJ_J, upd_at, updL_at, kR_s, Option.toList, List.append_nil, List.nil_append, List.cons_append, if_true, if_false, reduceIte, Bool.false_eq_true, not_true_eq_false, not_false_eq_true, true_and, and_true, false_and, and_false, true_or, or_true,  Nat.reduceEqDiff, Nat.reduceAdd, Nat.reduceLeDiff]
          · have c4' : isW (bB tb) t 4 = false := by simpa using c4
            by_cases c5 : isW (bB tb) t 5 = true
            · simp (implicitDefEqProofs := false) only [eX2_reserved, rX2_reserved_0, rX2_reserved_0b, rX2_reserved_1, rX2_reserved_3, rX2_reserved_6, rX2_reserved_9, rX2_reserved_10, rX2_reserved_11, rX2_reserved_11b, rX2_reserved_12, rX2_reserved_14, rX2_reserved_17, rX2_reserved_20, rX2_reserved_21, rX2_reserved_22, rX2_reserved_22b, rX2_reserved_23, rX2_reserved_25, rX2_reserved_28, rX2_reserved_31, rX2_reserved_32, rX2_reserved_33, rX2_reserved_33b, rX2_reserved_34, rX2_reserved_36, rX2_reserved_39, rX2_reserved_42, rX2_reserved_43, rX2_reserved_44, rX2_reserved_44b, rX2_reserved_45, rX2_reserved_47, rX2_reserved_50, rX2_reserved_53, rX2_reserved_54, rX2_reserved_55, rX2_reserved_55b, rX2_reserved_56, rX2_reserved_58, rX2_reserved_61, rX2_reserved_64, rX2_reserved_65, rX2_reserved_66, rX2_reserved_66b, rX2_reserved_67, rX2_reserved_69, rX2_reserved_72, rX2_reserved_75, rX2_reserved_77, rX2_reserved_78, rX2_reserved_78b, rX2_reserved_79, rX2_reserved_81, rX2_reserved_84, rX2_reserved_87, rX2_reserved_89, rX2_reserved_90, rX2_reserved_90b, rX2_reserved_91, rX2_reserved_93, rX2_reserved_96, rX2_reserved_99, rX2_reserved_101, rX2_reserved_104, rX2_reserved_105, kA_27, kB_27, pCX2_reserved, pSX2_reserved, pOX2_reserved, pLX2_reserved, pCX2_isWord, pSX2_isWord, pOX2_isWord, pLX2_isWord, w0, c0', w1, c1', w2, c2', w3, c3', w4, c4', w5, c5, bI_t, bI_f, mI_so, Option.map, Nat.reduceSub, show ¬ (1 : Int32) = 0 from by decide, show nI 0 = 0 from rfl, show nI 1 = 1 from rfl, show nI 2 = 2 from rfl, show nI 3 = 3 from rfl, show nI 4 = 4 from rfl, show nI 5 = 5 from rfl, show nI 6 = 6 from rfl, show nI 7 = 7 from rfl, show nI 8 = 8 from rfl, kl_I, kl_J, kl_R, kl_T, kl_N, Nat.le_refl, Nat.zero_le, List.map_nil, List.map_cons, List.sum_nil, List.sum_cons, c_I, c_J, c_R, c_T, va_rf, hI_wI, hJ_wJ, hR_wR, hI_J, hI_R, hJ_I, hJ_R, hR_I, hR_J, hN_I, hN_J, hN_R, wI_I, wJ_J, upd_at, updL_at, kR_s, Option.toList, List.append_nil, List.nil_append, List.cons_append, if_true, if_false, reduceIte, Bool.false_eq_true, not_true_eq_false, not_false_eq_true, true_and, and_true, false_and, and_false, true_or, or_true,  Nat.reduceEqDiff, Nat.reduceAdd, Nat.reduceLeDiff]
            · have c5' : isW (bB tb) t 5 = false := by simpa using c5
              by_cases c6 : isW (bB tb) t 6 = true
              · simp (implicitDefEqProofs := false) only [eX2_reserved, rX2_reserved_0, rX2_reserved_0b, rX2_reserved_1, rX2_reserved_3, rX2_reserved_6, rX2_reserved_9, rX2_reserved_10, rX2_reserved_11, rX2_reserved_11b, rX2_reserved_12, rX2_reserved_14, rX2_reserved_17, rX2_reserved_20, rX2_reserved_21, rX2_reserved_22, rX2_reserved_22b, rX2_reserved_23, rX2_reserved_25, rX2_reserved_28, rX2_reserved_31, rX2_reserved_32, rX2_reserved_33, rX2_reserved_33b, rX2_reserved_34, rX2_reserved_36, rX2_reserved_39, rX2_reserved_42, rX2_reserved_43, rX2_reserved_44, rX2_reserved_44b, rX2_reserved_45, rX2_reserved_47, rX2_reserved_50, rX2_reserved_53, rX2_reserved_54, rX2_reserved_55, rX2_reserved_55b, rX2_reserved_56, rX2_reserved_58, rX2_reserved_61, rX2_reserved_64, rX2_reserved_65, rX2_reserved_66, rX2_reserved_66b, rX2_reserved_67, rX2_reserved_69, rX2_reserved_72, rX2_reserved_75, rX2_reserved_77, rX2_reserved_78, rX2_reserved_78b, rX2_reserved_79, rX2_reserved_81, rX2_reserved_84, rX2_reserved_87, rX2_reserved_89, rX2_reserved_90, rX2_reserved_90b, rX2_reserved_91, rX2_reserved_93, rX2_reserved_96, rX2_reserved_99, rX2_reserved_101, rX2_reserved_104, rX2_reserved_105, kA_27, kB_27, pCX2_reserved, pSX2_reserved, pOX2_reserved, pLX2_reserved, pCX2_isWord, pSX2_isWord, pOX2_isWord, pLX2_isWord, w0, c0', w1, c1', w2, c2', w3, c3', w4, c4', w5, c5', w6, c6, bI_t, bI_f, mI_so, Option.map, Nat.reduceSub, show ¬ (1 : Int32) = 0 from by decide, show nI 0 = 0 from rfl, show nI 1 = 1 from rfl, show nI 2 = 2 from rfl, show nI 3 = 3 from rfl, show nI 4 = 4 from rfl, show nI 5 = 5 from rfl, show nI 6 = 6 from rfl, show nI 7 = 7 from rfl, show nI 8 = 8 from rfl, kl_I, kl_J, kl_R, kl_T, kl_N, Nat.le_refl, Nat.zero_le, List.map_nil, List.map_cons, List.sum_nil, List.sum_cons, c_I, c_J, c_R, c_T, va_rf, hI_wI, hJ_wJ, hR_wR, hI_J, hI_R, hJ_I, hJ_R, hR_I, hR_J, hN_I, hN_J, hN_R, wI_I, wJ_J, upd_at, updL_at, kR_s, Option.toList, List.append_nil, List.nil_append, List.cons_append, if_true, if_false, reduceIte, Bool.false_eq_true, not_true_eq_false, not_false_eq_true, true_and, and_true, false_and, and_false, true_or, or_true,  Nat.reduceEqDiff, Nat.reduceAdd, Nat.reduceLeDiff]
              · have c6' : isW (bB tb) t 6 = false := by simpa using c6
                by_cases c7 : isW (bB tb) t 7 = true
                · simp (implicitDefEqProofs := false) only [eX2_reserved, rX2_reserved_0, rX2_reserved_0b, rX2_reserved_1, rX2_reserved_3, rX2_reserved_6, rX2_reserved_9, rX2_reserved_10, rX2_reserved_11, rX2_reserved_11b, rX2_reserved_12, rX2_reserved_14, rX2_reserved_17, rX2_reserved_20, rX2_reserved_21, rX2_reserved_22, rX2_reserved_22b, rX2_reserved_23, rX2_reserved_25, rX2_reserved_28, rX2_reserved_31, rX2_reserved_32, rX2_reserved_33, rX2_reserved_33b, rX2_reserved_34, rX2_reserved_36, rX2_reserved_39, rX2_reserved_42, rX2_reserved_43, rX2_reserved_44, rX2_reserved_44b, rX2_reserved_45, rX2_reserved_47, rX2_reserved_50, rX2_reserved_53, rX2_reserved_54, rX2_reserved_55, rX2_reserved_55b, rX2_reserved_56, rX2_reserved_58, rX2_reserved_61, rX2_reserved_64, rX2_reserved_65, rX2_reserved_66, rX2_reserved_66b, rX2_reserved_67, rX2_reserved_69, rX2_reserved_72, rX2_reserved_75, rX2_reserved_77, rX2_reserved_78, rX2_reserved_78b, rX2_reserved_79, rX2_reserved_81, rX2_reserved_84, rX2_reserved_87, rX2_reserved_89, rX2_reserved_90, rX2_reserved_90b, rX2_reserved_91, rX2_reserved_93, rX2_reserved_96, rX2_reserved_99, rX2_reserved_101, rX2_reserved_104, rX2_reserved_105, kA_27, kB_27, pCX2_reserved, pSX2_reserved, pOX2_reserved, pLX2_reserved, pCX2_isWord, pSX2_isWord, pOX2_isWord, pLX2_isWord, w0, c0', w1, c1', w2, c2', w3, c3', w4, c4', w5, c5', w6, c6', w7, c7, bI_t, bI_f, mI_so, Option.map, Nat.reduceSub, show ¬ (1 : Int32) = 0 from by decide, show nI 0 = 0 from rfl, show nI 1 = 1 from rfl, show nI 2 = 2 from rfl, show nI 3 = 3 from rfl, show nI 4 = 4 from rfl, show nI 5 = 5 from rfl, show nI 6 = 6 from rfl, show nI 7 = 7 from rfl, show nI 8 = 8 from rfl, kl_I, kl_J, kl_R, kl_T, kl_N, Nat.le_refl, Nat.zero_le, List.map_nil, List.map_cons, List.sum_nil, List.sum_cons, c_I, c_J, c_R, c_T, va_rf, hI_wI, hJ_wJ, hR_wR, hI_J, hI_R, hJ_I, hJ_R, hR_I, hR_J, hN_I, hN_J, hN_R, wI_I, wJ_J, upd_at, updL_at, kR_s, Option.toList, List.append_nil, List.nil_append, List.cons_append, if_true, if_false, reduceIte, Bool.false_eq_true, not_true_eq_false, not_false_eq_true, true_and, and_true, false_and, and_false, true_or, or_true,  Nat.reduceEqDiff, Nat.reduceAdd, Nat.reduceLeDiff]
                · have c7' : isW (bB tb) t 7 = false := by simpa using c7
                  by_cases c8 : isW (bB tb) t 8 = true
                  · simp (implicitDefEqProofs := false) only [eX2_reserved, rX2_reserved_0, rX2_reserved_0b, rX2_reserved_1, rX2_reserved_3, rX2_reserved_6, rX2_reserved_9, rX2_reserved_10, rX2_reserved_11, rX2_reserved_11b, rX2_reserved_12, rX2_reserved_14, rX2_reserved_17, rX2_reserved_20, rX2_reserved_21, rX2_reserved_22, rX2_reserved_22b, rX2_reserved_23, rX2_reserved_25, rX2_reserved_28, rX2_reserved_31, rX2_reserved_32, rX2_reserved_33, rX2_reserved_33b, rX2_reserved_34, rX2_reserved_36, rX2_reserved_39, rX2_reserved_42, rX2_reserved_43, rX2_reserved_44, rX2_reserved_44b, rX2_reserved_45, rX2_reserved_47, rX2_reserved_50, rX2_reserved_53, rX2_reserved_54, rX2_reserved_55, rX2_reserved_55b, rX2_reserved_56, rX2_reserved_58, rX2_reserved_61, rX2_reserved_64, rX2_reserved_65, rX2_reserved_66, rX2_reserved_66b, rX2_reserved_67, rX2_reserved_69, rX2_reserved_72, rX2_reserved_75, rX2_reserved_77, rX2_reserved_78, rX2_reserved_78b, rX2_reserved_79, rX2_reserved_81, rX2_reserved_84, rX2_reserved_87, rX2_reserved_89, rX2_reserved_90, rX2_reserved_90b, rX2_reserved_91, rX2_reserved_93, rX2_reserved_96, rX2_reserved_99, rX2_reserved_101, rX2_reserved_104, rX2_reserved_105, kA_27, kB_27, pCX2_reserved, pSX2_reserved, pOX2_reserved, pLX2_reserved, pCX2_isWord, pSX2_isWord, pOX2_isWord, pLX2_isWord, w0, c0', w1, c1', w2, c2', w3, c3', w4, c4', w5, c5', w6, c6', w7, c7', w8, c8, bI_t, bI_f, mI_so, Option.map, Nat.reduceSub, show ¬ (1 : Int32) = 0 from by decide, show nI 0 = 0 from rfl, show nI 1 = 1 from rfl, show nI 2 = 2 from rfl, show nI 3 = 3 from rfl, show nI 4 = 4 from rfl, show nI 5 = 5 from rfl, show nI 6 = 6 from rfl, show nI 7 = 7 from rfl, show nI 8 = 8 from rfl, kl_I, kl_J, kl_R, kl_T, kl_N, Nat.le_refl, Nat.zero_le, List.map_nil, List.map_cons, List.sum_nil, List.sum_cons, c_I, c_J, c_R, c_T, va_rf, hI_wI, hJ_wJ, hR_wR, hI_J, hI_R, hJ_I, hJ_R, hR_I, hR_J, hN_I, hN_J, hN_R, wI_I, wJ_J, upd_at, updL_at, kR_s, Option.toList, List.append_nil, List.nil_append, List.cons_append, if_true, if_false, reduceIte, Bool.false_eq_true, not_true_eq_false, not_false_eq_true, true_and, and_true, false_and, and_false, true_or, or_true,  Nat.reduceEqDiff, Nat.reduceAdd, Nat.reduceLeDiff]
                  · have c8' : isW (bB tb) t 8 = false := by simpa using c8
                    simp (implicitDefEqProofs := false) only [eX2_reserved, rX2_reserved_0, rX2_reserved_0b, rX2_reserved_1, rX2_reserved_3, rX2_reserved_6, rX2_reserved_9, rX2_reserved_10, rX2_reserved_11, rX2_reserved_11b, rX2_reserved_12, rX2_reserved_14, rX2_reserved_17, rX2_reserved_20, rX2_reserved_21, rX2_reserved_22, rX2_reserved_22b, rX2_reserved_23, rX2_reserved_25, rX2_reserved_28, rX2_reserved_31, rX2_reserved_32, rX2_reserved_33, rX2_reserved_33b, rX2_reserved_34, rX2_reserved_36, rX2_reserved_39, rX2_reserved_42, rX2_reserved_43, rX2_reserved_44, rX2_reserved_44b, rX2_reserved_45, rX2_reserved_47, rX2_reserved_50, rX2_reserved_53, rX2_reserved_54, rX2_reserved_55, rX2_reserved_55b, rX2_reserved_56, rX2_reserved_58, rX2_reserved_61, rX2_reserved_64, rX2_reserved_65, rX2_reserved_66, rX2_reserved_66b, rX2_reserved_67, rX2_reserved_69, rX2_reserved_72, rX2_reserved_75, rX2_reserved_77, rX2_reserved_78, rX2_reserved_78b, rX2_reserved_79, rX2_reserved_81, rX2_reserved_84, rX2_reserved_87, rX2_reserved_89, rX2_reserved_90, rX2_reserved_90b, rX2_reserved_91, rX2_reserved_93, rX2_reserved_96, rX2_reserved_99, rX2_reserved_101, rX2_reserved_104, rX2_reserved_105, kA_27, kB_27, pCX2_reserved, pSX2_reserved, pOX2_reserved, pLX2_reserved, pCX2_isWord, pSX2_isWord, pOX2_isWord, pLX2_isWord, w0, c0', w1, c1', w2, c2', w3, c3', w4, c4', w5, c5', w6, c6', w7, c7', w8, c8', bI_t, bI_f, mI_no, Option.map, kl_I, kl_J, kl_R, kl_T, kl_N, Nat.le_refl, Nat.zero_le, List.map_nil, List.map_cons, List.sum_nil, List.sum_cons, c_I, c_J, c_R, c_T, va_rf, hI_wI, hJ_wJ, hR_wR, hI_J, hI_R, hJ_I, hJ_R, hR_I, hR_J, hN_I, hN_J, hN_R, wI_I, wJ_J, upd_at, updL_at, kR_s, Option.toList, List.append_nil, List.nil_append, List.cons_append, if_true, if_false, reduceIte, Bool.false_eq_true, not_true_eq_false, not_false_eq_true, true_and, and_true, false_and, and_false, true_or, or_true,  Nat.reduceEqDiff, Nat.reduceAdd, Nat.reduceLeDiff]
theorem c_kindHere {d : Nat} {h : qH} {s n : Nat} {tb : Nat → Int32} {st : PS} {t : tK} (r : RS h s n tb st t) : ∀ Q, WM (d + 5) mX2_kindHere [.ref (27 : Nat)] h Q = Q (some (some (.int (mI (kdN (bB tb) t))))) h := by
  intro Q
  have w10 := c_isWord (d := d) 10 r (by omega)
  have w11 := c_isWord (d := d) 11 r (by omega)
  have w12 := c_isWord (d := d) 12 r (by omega)
  have w13 := c_isWord (d := d) 13 r (by omega)
  unfold kdN
  simp only [rsvL]
  by_cases c10 : isW (bB tb) t 10 = true
  · simp (implicitDefEqProofs := false) only [eX2_kindHere, rX2_kindHere_0, rX2_kindHere_0b, rX2_kindHere_1, rX2_kindHere_3, rX2_kindHere_6, rX2_kindHere_9, rX2_kindHere_10, rX2_kindHere_11, rX2_kindHere_11b, rX2_kindHere_12, rX2_kindHere_14, rX2_kindHere_17, rX2_kindHere_20, rX2_kindHere_21, rX2_kindHere_22, rX2_kindHere_22b, rX2_kindHere_23, rX2_kindHere_25, rX2_kindHere_28, rX2_kindHere_31, rX2_kindHere_32, rX2_kindHere_33, rX2_kindHere_33b, rX2_kindHere_34, rX2_kindHere_36, rX2_kindHere_39, rX2_kindHere_42, rX2_kindHere_43, rX2_kindHere_46, rX2_kindHere_47, kA_27, kB_27, pCX2_kindHere, pSX2_kindHere, pOX2_kindHere, pLX2_kindHere, pCX2_isWord, pSX2_isWord, pOX2_isWord, pLX2_isWord, w10, c10, bI_t, bI_f, mI_so, Option.map, Nat.reduceSub, show ¬ (1 : Int32) = 0 from by decide, show nI 0 = 0 from rfl, show nI 1 = 1 from rfl, show nI 2 = 2 from rfl, show nI 3 = 3 from rfl, show nI 4 = 4 from rfl, show nI 5 = 5 from rfl, show nI 6 = 6 from rfl, show nI 7 = 7 from rfl, show nI 8 = 8 from rfl, kl_I, kl_J, kl_R, kl_T, kl_N, Nat.le_refl, Nat.zero_le, List.map_nil, List.map_cons, List.sum_nil, List.sum_cons, c_I, c_J, c_R, c_T, va_rf, hI_wI, hJ_wJ, hR_wR, hI_J, hI_R, hJ_I, hJ_R, hR_I, hR_J, hN_I, hN_J, hN_R, wI_I, wJ_J, upd_at, updL_at, kR_s, Option.toList, List.append_nil, List.nil_append, List.cons_append, if_true, if_false, reduceIte, Bool.false_eq_true, not_true_eq_false, not_false_eq_true, true_and, and_true, false_and, and_false, true_or, or_true,  Nat.reduceEqDiff, Nat.reduceAdd, Nat.reduceLeDiff]
  · have c10' : isW (bB tb) t 10 = false := by simpa using c10
    by_cases c11 : isW (bB tb) t 11 = true
    · simp (implicitDefEqProofs := false) only [eX2_kindHere, rX2_kindHere_0, rX2_kindHere_0b, rX2_kindHere_1, rX2_kindHere_3, rX2_kindHere_6, rX2_kindHere_9, rX2_kindHere_10, rX2_kindHere_11, rX2_kindHere_11b, rX2_kindHere_12, rX2_kindHere_14, rX2_kindHere_17, rX2_kindHere_20, rX2_kindHere_21, rX2_kindHere_22, rX2_kindHere_22b, rX2_kindHere_23, rX2_kindHere_25, rX2_kindHere_28, rX2_kindHere_31, rX2_kindHere_32, rX2_kindHere_33, rX2_kindHere_33b, rX2_kindHere_34, rX2_kindHere_36, rX2_kindHere_39, rX2_kindHere_42, rX2_kindHere_43, rX2_kindHere_46, rX2_kindHere_47, kA_27, kB_27, pCX2_kindHere, pSX2_kindHere, pOX2_kindHere, pLX2_kindHere, pCX2_isWord, pSX2_isWord, pOX2_isWord, pLX2_isWord, w10, c10', w11, c11, bI_t, bI_f, mI_so, Option.map, Nat.reduceSub, show ¬ (1 : Int32) = 0 from by decide, show nI 0 = 0 from rfl, show nI 1 = 1 from rfl, show nI 2 = 2 from rfl, show nI 3 = 3 from rfl, show nI 4 = 4 from rfl, show nI 5 = 5 from rfl, show nI 6 = 6 from rfl, show nI 7 = 7 from rfl, show nI 8 = 8 from rfl, kl_I, kl_J, kl_R, kl_T, kl_N, Nat.le_refl, Nat.zero_le, List.map_nil, List.map_cons, List.sum_nil, List.sum_cons, c_I, c_J, c_R, c_T, va_rf, hI_wI, hJ_wJ, hR_wR, hI_J, hI_R, hJ_I, hJ_R, hR_I, hR_J, hN_I, hN_J, hN_R, wI_I, wJ_J, upd_at, updL_at, kR_s, Option.toList, List.append_nil, List.nil_append, List.cons_append, if_true, if_false, reduceIte, Bool.false_eq_true, not_true_eq_false, not_false_eq_true, true_and, and_true, false_and, and_false, true_or, or_true,  Nat.reduceEqDiff, Nat.reduceAdd, Nat.reduceLeDiff]
    · have c11' : isW (bB tb) t 11 = false := by simpa using c11
      by_cases c12 : isW (bB tb) t 12 = true
      · simp (implicitDefEqProofs := false) only [eX2_kindHere, rX2_kindHere_0, rX2_kindHere_0b, rX2_kindHere_1, rX2_kindHere_3, rX2_kindHere_6, rX2_kindHere_9, rX2_kindHere_10, rX2_kindHere_11, rX2_kindHere_11b, rX2_kindHere_12, rX2_kindHere_14, rX2_kindHere_17, rX2_kindHere_20, rX2_kindHere_21, rX2_kindHere_22, rX2_kindHere_22b, rX2_kindHere_23, rX2_kindHere_25, rX2_kindHere_28, rX2_kindHere_31, rX2_kindHere_32, rX2_kindHere_33, rX2_kindHere_33b, rX2_kindHere_34, rX2_kindHere_36, rX2_kindHere_39, rX2_kindHere_42, rX2_kindHere_43, rX2_kindHere_46, rX2_kindHere_47, kA_27, kB_27, pCX2_kindHere, pSX2_kindHere, pOX2_kindHere, pLX2_kindHere, pCX2_isWord, pSX2_isWord, pOX2_isWord, pLX2_isWord, w10, c10', w11, c11', w12, c12, bI_t, bI_f, mI_so, Option.map, Nat.reduceSub, show ¬ (1 : Int32) = 0 from by decide, show nI 0 = 0 from rfl, show nI 1 = 1 from rfl, show nI 2 = 2 from rfl, show nI 3 = 3 from rfl, show nI 4 = 4 from rfl, show nI 5 = 5 from rfl, show nI 6 = 6 from rfl, show nI 7 = 7 from rfl, show nI 8 = 8 from rfl, kl_I, kl_J, kl_R, kl_T, kl_N, Nat.le_refl, Nat.zero_le, List.map_nil, List.map_cons, List.sum_nil, List.sum_cons, c_I, c_J, c_R, c_T, va_rf, hI_wI, hJ_wJ, hR_wR, hI_J, hI_R, hJ_I, hJ_R, hR_I, hR_J, hN_I, hN_J, hN_R, wI_I, wJ_J, upd_at, updL_at, kR_s, Option.toList, List.append_nil, List.nil_append, List.cons_append, if_true, if_false, reduceIte, Bool.false_eq_true, not_true_eq_false, not_false_eq_true, true_and, and_true, false_and, and_false, true_or, or_true,  Nat.reduceEqDiff, Nat.reduceAdd, Nat.reduceLeDiff]
      · have c12' : isW (bB tb) t 12 = false := by simpa using c12
        by_cases c13 : isW (bB tb) t 13 = true
        · simp (implicitDefEqProofs := false) only [eX2_kindHere, rX2_kindHere_0, rX2_kindHere_0b, rX2_kindHere_1, rX2_kindHere_3, rX2_kindHere_6, rX2_kindHere_9, rX2_kindHere_10, rX2_kindHere_11, rX2_kindHere_11b, rX2_kindHere_12, rX2_kindHere_14, rX2_kindHere_17, rX2_kindHere_20, rX2_kindHere_21, rX2_kindHere_22, rX2_kindHere_22b, rX2_kindHere_23, rX2_kindHere_25, rX2_kindHere_28, rX2_kindHere_31, rX2_kindHere_32, rX2_kindHere_33, rX2_kindHere_33b, rX2_kindHere_34, rX2_kindHere_36, rX2_kindHere_39, rX2_kindHere_42, rX2_kindHere_43, rX2_kindHere_46, rX2_kindHere_47, kA_27, kB_27, pCX2_kindHere, pSX2_kindHere, pOX2_kindHere, pLX2_kindHere, pCX2_isWord, pSX2_isWord, pOX2_isWord, pLX2_isWord, w10, c10', w11, c11', w12, c12', w13, c13, bI_t, bI_f, mI_so, Option.map, Nat.reduceSub, show ¬ (1 : Int32) = 0 from by decide, show nI 0 = 0 from rfl, show nI 1 = 1 from rfl, show nI 2 = 2 from rfl, show nI 3 = 3 from rfl, show nI 4 = 4 from rfl, show nI 5 = 5 from rfl, show nI 6 = 6 from rfl, show nI 7 = 7 from rfl, show nI 8 = 8 from rfl, kl_I, kl_J, kl_R, kl_T, kl_N, Nat.le_refl, Nat.zero_le, List.map_nil, List.map_cons, List.sum_nil, List.sum_cons, c_I, c_J, c_R, c_T, va_rf, hI_wI, hJ_wJ, hR_wR, hI_J, hI_R, hJ_I, hJ_R, hR_I, hR_J, hN_I, hN_J, hN_R, wI_I, wJ_J, upd_at, updL_at, kR_s, Option.toList, List.append_nil, List.nil_append, List.cons_append, if_true, if_false, reduceIte, Bool.false_eq_true, not_true_eq_false, not_false_eq_true, true_and, and_true, false_and, and_false, true_or, or_true,  Nat.reduceEqDiff, Nat.reduceAdd, Nat.reduceLeDiff]
        · have c13' : isW (bB tb) t 13 = false := by simpa using c13
          simp (implicitDefEqProofs := false) only [eX2_kindHere, rX2_kindHere_0, rX2_kindHere_0b, rX2_kindHere_1, rX2_kindHere_3, rX2_kindHere_6, rX2_kindHere_9, rX2_kindHere_10, rX2_kindHere_11, rX2_kindHere_11b, rX2_kindHere_12, rX2_kindHere_14, rX2_kindHere_17, rX2_kindHere_20, rX2_kindHere_21, rX2_kindHere_22, rX2_kindHere_22b, rX2_kindHere_23, rX2_kindHere_25, rX2_kindHere_28, rX2_kindHere_31, rX2_kindHere_32, rX2_kindHere_33, rX2_kindHere_33b, rX2_kindHere_34, rX2_kindHere_36, rX2_kindHere_39, rX2_kindHere_42, rX2_kindHere_43, rX2_kindHere_46, rX2_kindHere_47, kA_27, kB_27, pCX2_kindHere, pSX2_kindHere, pOX2_kindHere, pLX2_kindHere, pCX2_isWord, pSX2_isWord, pOX2_isWord, pLX2_isWord, w10, c10', w11, c11', w12, c12', w13, c13', bI_t, bI_f, mI_no, Option.map, kl_I, kl_J, kl_R, kl_T, kl_N, Nat.le_refl, Nat.zero_le, List.map_nil, List.map_cons, List.sum_nil, List.sum_cons, c_I, c_J, c_R, c_T, va_rf, hI_wI, hJ_wJ, hR_wR, hI_J, hI_R, hJ_I, hJ_R, hR_I, hR_J, hN_I, hN_J, hN_R, wI_I, wJ_J, upd_at, updL_at, kR_s, Option.toList, List.append_nil, List.nil_append, List.cons_append, if_true, if_false, reduceIte, Bool.false_eq_true, not_true_eq_false, not_false_eq_true, true_and, and_true, false_and, and_false, true_or, or_true,  Nat.reduceEqDiff, Nat.reduceAdd, Nat.reduceLeDiff]
theorem c_lnstep {v x : Nat} (h : 97 ≤ x) : lN v * 32 + lN x - 97 + 1 = lN (32 * v + (x - 96)) := by
  rw [show (32 : Int64) = lN 32 from rfl, lN_mul, lN_add, show (97 : Int64) = lN 97 from rfl, lN_sub (by omega), lN_1]
  congr 1
  omega
theorem l_nameHere {d : Nat} {h : qH} {s n : Nat} {tb : Nat → Int32} {st : PS} {t : tK} (r : RS h s n tb st t) (h1 : t.1 = 1) {Q : Option (Option Value) → qH → Prop} : ∀ (k i v : Nat), t.2.1 ≤ i → i + k = t.2.2 → WP (d + 1) mX2_nameHere (0, 0) 7 [some (.ref (27 : Nat)), some (.long (lN v)), none, some (.int (nI i))] [] h Q = Q (some (some (.long (lN (pW (bB tb) k i v))))) h := by
  obtain ⟨F, r2, w, nm, op, ⟨e3, e5, e6, e7⟩, ok, hn, tp, e9⟩ := r
  have k1 := (ok.2.2.2.1 h1).1
  have o3 := ok.2.2.1
  intro k
  induction k with
  | zero =>
    intro i v hs hi
    obtain rfl : i = t.2.2 := by omega
    simp (implicitDefEqProofs := false) only [rX2_nameHere_7, rX2_nameHere_8, rX2_nameHere_8b, rX2_nameHere_9, rX2_nameHere_12, rX2_nameHere_15, rX2_nameHere_16, rX2_nameHere_19, rX2_nameHere_20, rX2_nameHere_20b, rX2_nameHere_21, rX2_nameHere_24, rX2_nameHere_25, rX2_nameHere_28, rX2_nameHere_29, rX2_nameHere_30, rX2_nameHere_33, rX2_nameHere_34, rX2_nameHere_35, rX2_nameHere_36, rX2_nameHere_37, rX2_nameHere_43, rX2_nameHere_44, fin_27_0 F, fin_27_1 F, kA_27, kB_27, pCX2_nameHere, pSX2_nameHere, pOX2_nameHere, pLX2_nameHere, e7, Int32.le_refl, pW, kl_I, kl_J, kl_R, kl_T, kl_N, Nat.le_refl, Nat.zero_le, List.map_nil, List.map_cons, List.sum_nil, List.sum_cons, c_I, c_J, c_R, c_T, va_rf, hI_wI, hJ_wJ, hR_wR, hI_J, hI_R, hJ_I, hJ_R, hR_I, hR_J, hN_I, hN_J, hN_R, wI_I, wJ_J, upd_at, updL_at, kR_s, Option.toList, List.append_nil, List.nil_append, List.cons_append, if_true, if_false, reduceIte, Bool.false_eq_true, not_true_eq_false, not_false_eq_true, true_and, and_true, false_and, and_false, true_or, or_true,  Nat.reduceEqDiff, Nat.reduceAdd, Nat.reduceLeDiff]
  | succ k ih =>
    intro i v hs hi
    have g1 : ¬ nI t.2.2 ≤ nI i := nI_ge (by omega) (by omega)
    have at1 : ∀ Q, WM d mX5_at [.ref (25 : Nat), .int (nI i)] h Q = Q (some (some (.int (nI (bB tb i))))) h := by rw [show bB tb i = ub (hI h 26 i) by rw [tp i (by omega)]; rfl]; exact c_at F (by omega)
    have bl := bB_lt (tb := tb) i
    have il := k1 i hs (by omega)
    simp only [isL, decide_eq_true_eq] at il
    have i2 : (nI (bB tb i)).toInt64 = lN (bB tb i) := nI_l (by omega)
    rw [pW]
    simp (implicitDefEqProofs := false) only [rX2_nameHere_7, rX2_nameHere_8, rX2_nameHere_8b, rX2_nameHere_9, rX2_nameHere_12, rX2_nameHere_15, rX2_nameHere_16, rX2_nameHere_19, rX2_nameHere_20, rX2_nameHere_20b, rX2_nameHere_21, rX2_nameHere_24, rX2_nameHere_25, rX2_nameHere_28, rX2_nameHere_29, rX2_nameHere_30, rX2_nameHere_33, rX2_nameHere_34, rX2_nameHere_35, rX2_nameHere_36, rX2_nameHere_37, fin_27_0 F, fin_27_1 F, kA_25, kB_25, kA_27, kB_27, pCX2_nameHere, pSX2_nameHere, pOX2_nameHere, pLX2_nameHere, pCX5_at, pSX5_at, pOX5_at, pLX5_at, e7, g1, at1, i2, c_lnstep (v := v) il.1, kl_I, kl_J, kl_R, kl_T, kl_N, Nat.le_refl, Nat.zero_le, List.map_nil, List.map_cons, List.sum_nil, List.sum_cons, c_I, c_J, c_R, c_T, va_rf, hI_wI, hJ_wJ, hR_wR, hI_J, hI_R, hJ_I, hJ_R, hR_I, hR_J, hN_I, hN_J, hN_R, wI_I, wJ_J, upd_at, updL_at, kR_s, Option.toList, List.append_nil, List.nil_append, List.cons_append, if_true, if_false, reduceIte, Bool.false_eq_true, not_true_eq_false, not_false_eq_true, true_and, and_true, false_and, and_false, true_or, or_true,  Nat.reduceEqDiff, Nat.reduceAdd, Nat.reduceLeDiff]
    rw [rX2_nameHere_40, nI_1]
    exact ih (i + 1) _ (by omega) (by omega)
theorem c_nameHere {d : Nat} {h : qH} {s n : Nat} {tb : Nat → Int32} {st : PS} {t : tK} (r : RS h s n tb st t) (h1 : t.1 = 1) : ∀ Q, WM (d + 1) mX2_nameHere [.ref (27 : Nat)] h Q = Q (some (some (.long (lN (wV (bB tb) t))))) h := by
  intro Q
  have o2 := r.2.2.2.2.2.2.1.2.1
  have e6 := r.2.2.2.2.2.1.2.2.1
  have l := l_nameHere (d := d) r h1 (Q := Q) (t.2.2 - t.2.1) t.2.1 0 (Nat.le_refl _) (by omega)
  simp (implicitDefEqProofs := false) only [eX2_nameHere, rX2_nameHere_0, rX2_nameHere_1, rX2_nameHere_2, rX2_nameHere_2b, rX2_nameHere_3, rX2_nameHere_6, kA_27, kB_27, pCX2_nameHere, pSX2_nameHere, pOX2_nameHere, pLX2_nameHere, e6, show (0 : Int64) = lN 0 from rfl, kl_I, kl_J, kl_R, kl_T, kl_N, Nat.le_refl, Nat.zero_le, List.map_nil, List.map_cons, List.sum_nil, List.sum_cons, c_I, c_J, c_R, c_T, va_rf, hI_wI, hJ_wJ, hR_wR, hI_J, hI_R, hJ_I, hJ_R, hR_I, hR_J, hN_I, hN_J, hN_R, wI_I, wJ_J, upd_at, updL_at, kR_s, Option.toList, List.append_nil, List.nil_append, List.cons_append, if_true, if_false, reduceIte, Bool.false_eq_true, not_true_eq_false, not_false_eq_true, true_and, and_true, false_and, and_false, true_or, or_true,  Nat.reduceEqDiff, Nat.reduceAdd, Nat.reduceLeDiff]
  exact l
theorem l_named {d : Nat} {h : qH} {s n : Nat} {tb : Nat → Int32} {st : PS} {t : tK} {v : Nat} (r : RS h s n tb st t) (hv : v < 2 ^ 40) {Q : Option (Option Value) → qH → Prop} : ∀ (k i : Nat), i + k = aN st.1 → WP d mX2_named (0, 0) 2 [some (.ref (27 : Nat)), some (.long (lN v)), none, some (.int (nI i))] [] h Q = Q (some (some (.int (mI (fdL st.2.1 v k i))))) h := by
  obtain ⟨F, r2, w, nm, op, ⟨e3, e5, e6, e7⟩, ok, hn, tp, e9⟩ := r
  have hs := w.1
  have n6 := w.2.1.1
  intro k
  induction k with
  | zero =>
    intro i hi
    obtain rfl : i = aN st.1 := by omega
    simp (implicitDefEqProofs := false) only [rX2_named_2, rX2_named_3, rX2_named_3b, rX2_named_4, rX2_named_7, rX2_named_10, rX2_named_13, rX2_named_13b, rX2_named_14, rX2_named_17, rX2_named_18, rX2_named_19, rX2_named_20, rX2_named_21, rX2_named_24, rX2_named_25, rX2_named_26, rX2_named_32, rX2_named_33, fin_27_0 F, fin_27_1 F, kA_27, kB_27, kS0 hs, nS hs, nSs hs, r2, pCX2_named, pSX2_named, pOX2_named, pLX2_named, w.2.2.1.2.1, Int32.le_refl, fdL, mI_no, kl_I, kl_J, kl_R, kl_T, kl_N, Nat.le_refl, Nat.zero_le, List.map_nil, List.map_cons, List.sum_nil, List.sum_cons, c_I, c_J, c_R, c_T, va_rf, hI_wI, hJ_wJ, hR_wR, hI_J, hI_R, hJ_I, hJ_R, hR_I, hR_J, hN_I, hN_J, hN_R, wI_I, wJ_J, upd_at, updL_at, kR_s, Option.toList, List.append_nil, List.nil_append, List.cons_append, if_true, if_false, reduceIte, Bool.false_eq_true, not_true_eq_false, not_false_eq_true, true_and, and_true, false_and, and_false, true_or, or_true,  Nat.reduceEqDiff, Nat.reduceAdd, Nat.reduceLeDiff]
  | succ k ih =>
    intro i hi
    have g1 : ¬ nI (aN st.1) ≤ nI i := nI_ge (by omega) (by omega)
    have v6 : vp_in (nI i) 6 := nI_vp (by omega) (by decide)
    have cl : (nI i).toNatClampNeg = i := nI_cl (by omega)
    obtain ⟨n1, n2⟩ := nm i (by omega)
    have cm := lgc (x := st.2.1 i) (y := v) (by omega) (by omega)
    rw [fdL]
    by_cases c : st.2.1 i = v
    · rw [if_pos c]
      rw [if_neg (by omega), if_pos c] at cm
      simp (implicitDefEqProofs := false) only [rX2_named_2, rX2_named_3, rX2_named_3b, rX2_named_4, rX2_named_7, rX2_named_10, rX2_named_13, rX2_named_13b, rX2_named_14, rX2_named_17, rX2_named_18, rX2_named_19, rX2_named_20, rX2_named_21, rX2_named_24, rX2_named_25, rX2_named_26, fin_27_0 F, fin_27_1 F, kA_27, kB_27, kA_28, kB_28, kS0 hs, nS hs, nSs hs, r2, pCX2_named, pSX2_named, pOX2_named, pLX2_named, w.2.2.1.2.1, g1, v6, cl, n1, cm, mI_so, kl_I, kl_J, kl_R, kl_T, kl_N, Nat.le_refl, Nat.zero_le, List.map_nil, List.map_cons, List.sum_nil, List.sum_cons, c_I, c_J, c_R, c_T, va_rf, hI_wI, hJ_wJ, hR_wR, hI_J, hI_R, hJ_I, hJ_R, hR_I, hR_J, hN_I, hN_J, hN_R, wI_I, wJ_J, upd_at, updL_at, kR_s, Option.toList, List.append_nil, List.nil_append, List.cons_append, if_true, if_false, reduceIte, Bool.false_eq_true, not_true_eq_false, not_false_eq_true, true_and, and_true, false_and, and_false, true_or, or_true,  Nat.reduceEqDiff, Nat.reduceAdd, Nat.reduceLeDiff]
    · rw [if_neg c]
      have cz : ¬ lg_cmp (lN (st.2.1 i)) (lN v) = 0 := by
        rw [cm]
        by_cases c2 : v < st.2.1 i
        · rw [if_pos c2]; decide
        · rw [if_neg c2, if_neg c]; decide
      simp (implicitDefEqProofs := false) only [rX2_named_2, rX2_named_3, rX2_named_3b, rX2_named_4, rX2_named_7, rX2_named_10, rX2_named_13, rX2_named_13b, rX2_named_14, rX2_named_17, rX2_named_18, rX2_named_19, rX2_named_20, rX2_named_21, rX2_named_24, rX2_named_25, rX2_named_26, fin_27_0 F, fin_27_1 F, kA_27, kB_27, kA_28, kB_28, kS0 hs, nS hs, nSs hs, r2, pCX2_named, pSX2_named, pOX2_named, pLX2_named, w.2.2.1.2.1, g1, v6, cl, n1, cz, kl_I, kl_J, kl_R, kl_T, kl_N, Nat.le_refl, Nat.zero_le, List.map_nil, List.map_cons, List.sum_nil, List.sum_cons, c_I, c_J, c_R, c_T, va_rf, hI_wI, hJ_wJ, hR_wR, hI_J, hI_R, hJ_I, hJ_R, hR_I, hR_J, hN_I, hN_J, hN_R, wI_I, wJ_J, upd_at, updL_at, kR_s, Option.toList, List.append_nil, List.nil_append, List.cons_append, if_true, if_false, reduceIte, Bool.false_eq_true, not_true_eq_false, not_false_eq_true, true_and, and_true, false_and, and_false, true_or, or_true,  Nat.reduceEqDiff, Nat.reduceAdd, Nat.reduceLeDiff]
      rw [rX2_named_29, nI_1]
      exact ih (i + 1) (by omega)
theorem c_named {d : Nat} {h : qH} {s n : Nat} {tb : Nat → Int32} {st : PS} {t : tK} {v : Nat} (r : RS h s n tb st t) (hv : v < 2 ^ 40) : ∀ Q, WM d mX2_named [.ref (27 : Nat), .long (lN v)] h Q = Q (some (some (.int (mI (fd st v))))) h := by
  intro Q
  have l := l_named (d := d) r hv (Q := Q) (aN st.1) 0 (by omega)
  rw [nI_0] at l
  simp (implicitDefEqProofs := false) only [eX2_named, rX2_named_0, rX2_named_1, kl_I, kl_J, kl_R, kl_T, kl_N, Nat.le_refl, Nat.zero_le, List.map_nil, List.map_cons, List.sum_nil, List.sum_cons, c_I, c_J, c_R, c_T, va_rf, hI_wI, hJ_wJ, hR_wR, hI_J, hI_R, hJ_I, hJ_R, hR_I, hR_J, hN_I, hN_J, hN_R, wI_I, wJ_J, upd_at, updL_at, kR_s, Option.toList, List.append_nil, List.nil_append, List.cons_append, if_true, if_false, reduceIte, Bool.false_eq_true, not_true_eq_false, not_false_eq_true, true_and, and_true, false_and, and_false, true_or, or_true,  Nat.reduceEqDiff, Nat.reduceAdd, Nat.reduceLeDiff]
  exact l
/-- a fault told -/
def fl' (h : qH) (v : Int32) : qH := wI h 27 (upd (upd (hI h 27) 9 v) 10 (hI h 27 6))
theorem c_fail {d : Nat} {h : qH} {v : Int32} : ∀ Q, WM d mX2_fail [.ref (27 : Nat), .int v] h Q = Q (some (some (.int 0))) (fl' h v) := by
  intro Q
  simp (implicitDefEqProofs := false) only [eX2_fail, rX2_fail_0, rX2_fail_0b, rX2_fail_1, rX2_fail_2, rX2_fail_5, rX2_fail_5b, rX2_fail_6, rX2_fail_6b, rX2_fail_7, rX2_fail_10, rX2_fail_13, rX2_fail_14, kA_27, kB_27, pCX2_fail, pSX2_fail, pOX2_fail, pLX2_fail, fl', kl_I, kl_J, kl_R, kl_T, kl_N, Nat.le_refl, Nat.zero_le, List.map_nil, List.map_cons, List.sum_nil, List.sum_cons, c_I, c_J, c_R, c_T, va_rf, hI_wI, hJ_wJ, hR_wR, hI_J, hI_R, hJ_I, hJ_R, hR_I, hR_J, hN_I, hN_J, hN_R, wI_I, wJ_J, upd_at, updL_at, kR_s, Option.toList, List.append_nil, List.nil_append, List.cons_append, if_true, if_false, reduceIte, Bool.false_eq_true, not_true_eq_false, not_false_eq_true, true_and, and_true, false_and, and_false, true_or, or_true,  Nat.reduceEqDiff, Nat.reduceAdd, Nat.reduceLeDiff]
theorem fl_sx {h : qH} {v : Int32} : sx [27] h (fl' h v) := sx_w sx_refl (by simp)
theorem fl_9 {h : qH} {v : Int32} : hI (fl' h v) 27 9 = v := by unfold fl'; rw [hI_wI, if_pos rfl, upd_at, if_neg (by decide), upd_at, if_pos rfl]
theorem fl_10 {h : qH} {v : Int32} : hI (fl' h v) 27 10 = hI h 27 6 := by unfold fl'; rw [hI_wI, if_pos rfl, upd_at, if_pos rfl]
/-- what reading leaves as it is -/
def rx (s : Nat) (h h' : qH) : Prop := hR h' = hR h ∧ hN h' = hN h ∧ (∀ c, c ≠ 28 → hJ h' c = hJ h c) ∧ ∀ c, c ≠ 27 → ¬ (s ≤ c ∧ c ≤ s + 11) → hI h' c = hI h c
theorem rx_refl {s : Nat} {h : qH} : rx s h h := ⟨rfl, rfl, fun _ _ => rfl, fun _ _ _ => rfl⟩
theorem rx_trans {s : Nat} {h h1 h2 : qH} (a : rx s h h1) (b : rx s h1 h2) : rx s h h2 := ⟨b.1.trans a.1, b.2.1.trans a.2.1, fun c hc => (b.2.2.1 c hc).trans (a.2.2.1 c hc), fun c h1 h2 => (b.2.2.2 c h1 h2).trans (a.2.2.2 c h1 h2)⟩
theorem rx_sx {s : Nat} {h h' : qH} (x : sx [27] h h') : rx s h h' := ⟨x.1, x.2.2.1, fun c _ => by rw [x.2.1], fun c h1 _ => x.2.2.2 c (by simp; exact h1)⟩
theorem rx_w {s c : Nat} {h h1 : qH} {f : Nat → Int32} (a : rx s h h1) (hc : s ≤ c ∧ c ≤ s + 11) : rx s h (wI h1 c f) := ⟨a.1, a.2.1, a.2.2.1, fun e h2 h3 => by rw [hI_wI, if_neg (fun q => h3 (by rw [q]; exact hc))]; exact a.2.2.2 e h2 h3⟩
theorem rx_27 {s : Nat} {h h1 : qH} {f : Nat → Int32} (a : rx s h h1) : rx s h (wI h1 27 f) := ⟨a.1, a.2.1, a.2.2.1, fun e h2 h3 => by rw [hI_wI, if_neg h2]; exact a.2.2.2 e h2 h3⟩
/-- a part of a line, read by the class: a fault, or on -/
def rb (d : Nat) (M : qM) (As : List Value) (h : qH) (s n : Nat) (tb : Nat → Int32) : RE (PS × tK) → Prop
  | .inl e => ∃ h', (∀ Q, WM d M As h Q = Q (some (some (.int 0))) h') ∧ rx s h h' ∧ hI h' 27 9 = nI e.1 ∧ hI h' 27 10 = nI e.2
  | .inr p => ∃ h', (∀ Q, WM d M As h Q = Q (some (some (.int 1))) h') ∧ rx s h h' ∧ RS h' s n tb p.1 p.2
theorem c_takeWord {d : Nat} {h : qH} {s n : Nat} {tb : Nat → Int32} {st : PS} {t : tK} (j : Nat) (r : RS h s n tb st t) (hj : j < 21) : rb (d + 5) mX2_takeWord [.ref (27 : Nat), .retAddr j] h s n tb (bd (tW (bB tb) n j t) fun t1 => .inr (st, t1)) := by
  have w := c_isWord (d := d) j r hj
  have e6 := r.2.2.2.2.2.1.2.2.1
  unfold tW
  by_cases c : isW (bB tb) t j = true
  · rw [if_pos c]
    obtain ⟨h', k1, k2, k3, k4⟩ := c_step (d := d + 3) r
    refine ⟨h', fun Q => ?_, rx_sx k2, k4⟩
    simp (implicitDefEqProofs := false) only [eX2_takeWord, rX2_takeWord_0, rX2_takeWord_0b, rX2_takeWord_1, rX2_takeWord_1b, rX2_takeWord_2, rX2_takeWord_5, rX2_takeWord_8, rX2_takeWord_8b, rX2_takeWord_9, rX2_takeWord_10, rX2_takeWord_13, rX2_takeWord_14, rX2_takeWord_14b, rX2_takeWord_15, rX2_takeWord_18, rX2_takeWord_19, kA_27, kB_27, pCX2_takeWord, pSX2_takeWord, pOX2_takeWord, pLX2_takeWord, pCX2_isWord, pSX2_isWord, pOX2_isWord, pLX2_isWord, pCX2_step, pSX2_step, pOX2_step, pLX2_step, show j < 2000 from by omega, w, c, bI_t, k1, show ¬ (1 : Int32) = 0 from by decide, kl_I, kl_J, kl_R, kl_T, kl_N, Nat.le_refl, Nat.zero_le, List.map_nil, List.map_cons, List.sum_nil, List.sum_cons, c_I, c_J, c_R, c_T, va_rf, hI_wI, hJ_wJ, hR_wR, hI_J, hI_R, hJ_I, hJ_R, hR_I, hR_J, hN_I, hN_J, hN_R, wI_I, wJ_J, upd_at, updL_at, kR_s, Option.toList, List.append_nil, List.nil_append, List.cons_append, if_true, if_false, reduceIte, Bool.false_eq_true, not_true_eq_false, not_false_eq_true, true_and, and_true, false_and, and_false, true_or, or_true,  Nat.reduceEqDiff, Nat.reduceAdd, Nat.reduceLeDiff]
  · rw [if_neg c]
    have c' : isW (bB tb) t j = false := by simpa using c
    refine ⟨fl' h 1, fun Q => ?_, rx_sx fl_sx, fl_9, fl_10.trans e6⟩
    simp (implicitDefEqProofs := false) only [eX2_takeWord, rX2_takeWord_0, rX2_takeWord_0b, rX2_takeWord_1, rX2_takeWord_1b, rX2_takeWord_2, rX2_takeWord_5, rX2_takeWord_8, rX2_takeWord_8b, rX2_takeWord_9, rX2_takeWord_10, rX2_takeWord_13, rX2_takeWord_14, rX2_takeWord_14b, rX2_takeWord_15, rX2_takeWord_18, rX2_takeWord_19, kA_27, kB_27, pCX2_takeWord, pSX2_takeWord, pOX2_takeWord, pLX2_takeWord, pCX2_isWord, pSX2_isWord, pOX2_isWord, pLX2_isWord, pCX2_fail, pSX2_fail, pOX2_fail, pLX2_fail, show j < 2000 from by omega, w, c', bI_f, c_fail, kl_I, kl_J, kl_R, kl_T, kl_N, Nat.le_refl, Nat.zero_le, List.map_nil, List.map_cons, List.sum_nil, List.sum_cons, c_I, c_J, c_R, c_T, va_rf, hI_wI, hJ_wJ, hR_wR, hI_J, hI_R, hJ_I, hJ_R, hR_I, hR_J, hN_I, hN_J, hN_R, wI_I, wJ_J, upd_at, updL_at, kR_s, Option.toList, List.append_nil, List.nil_append, List.cons_append, if_true, if_false, reduceIte, Bool.false_eq_true, not_true_eq_false, not_false_eq_true, true_and, and_true, false_and, and_false, true_or, or_true,  Nat.reduceEqDiff, Nat.reduceAdd, Nat.reduceLeDiff]
theorem l_whole {d : Nat} {s n : Nat} {tb : Nat → Int32} {st : PS} {t : tK} {lo hi : Int32} (h1 : t.1 = 2) {Q : Option (Option Value) → qH → Prop} : ∀ (k i v : Nat) (h : qH), RS h s n tb st t → t.2.1 ≤ i → i + k = t.2.2 → hI h 27 8 = nI v → WP (d + 1) mX2_takeWhole (0, 0) 24 [some (.ref (27 : Nat)), some (.int lo), some (.int hi), some (.int (nI i))] [] h Q = WP (d + 1) mX2_takeWhole (0, 0) 61 [some (.ref (27 : Nat)), some (.int lo), some (.int hi), some (.int (nI t.2.2))] [] (wI h 27 (upd (hI h 27) 8 (nI (pD (bB tb) k i v)))) Q := by
  intro k
  induction k with
  | zero =>
    intro i v h r hs hi e8
    obtain ⟨F, r2, w, nm, op, ⟨e3, e5, e6, e7⟩, ok, hn, tp, e9⟩ := r
    obtain rfl : i = t.2.2 := by omega
    rw [pD, u6same e8]
    simp (implicitDefEqProofs := false) only [rX2_takeWhole_24, rX2_takeWhole_25, rX2_takeWhole_25b, rX2_takeWhole_26, rX2_takeWhole_29, rX2_takeWhole_32, rX2_takeWhole_32b, rX2_takeWhole_33, rX2_takeWhole_33b, rX2_takeWhole_34, rX2_takeWhole_37, rX2_takeWhole_39, rX2_takeWhole_40, rX2_takeWhole_40b, rX2_takeWhole_41, rX2_takeWhole_44, rX2_takeWhole_45, rX2_takeWhole_48, rX2_takeWhole_49, rX2_takeWhole_51, rX2_takeWhole_52, rX2_takeWhole_55, fin_27_0 F, fin_27_1 F, kA_27, kB_27, pCX2_takeWhole, pSX2_takeWhole, pOX2_takeWhole, pLX2_takeWhole, e7, Int32.le_refl, kl_I, kl_J, kl_R, kl_T, kl_N, Nat.le_refl, Nat.zero_le, List.map_nil, List.map_cons, List.sum_nil, List.sum_cons, c_I, c_J, c_R, c_T, va_rf, hI_wI, hJ_wJ, hR_wR, hI_J, hI_R, hJ_I, hJ_R, hR_I, hR_J, hN_I, hN_J, hN_R, wI_I, wJ_J, upd_at, updL_at, kR_s, Option.toList, List.append_nil, List.nil_append, List.cons_append, if_true, if_false, reduceIte, Bool.false_eq_true, not_true_eq_false, not_false_eq_true, true_and, and_true, false_and, and_false, true_or, or_true,  Nat.reduceEqDiff, Nat.reduceAdd, Nat.reduceLeDiff]
  | succ k ih =>
    intro i v h r hs hi e8
    obtain ⟨F, r2, w, nm, op, ⟨e3, e5, e6, e7⟩, ok, hn, tp, e9⟩ := id r
    have k1 := (ok.2.2.2.2.1 h1).1
    have o3 := ok.2.2.1
    have g1 : ¬ nI t.2.2 ≤ nI i := nI_ge (by omega) (by omega)
    have at1 : ∀ Q, WM d mX5_at [.ref (25 : Nat), .int (nI i)] h Q = Q (some (some (.int (nI (bB tb i))))) h := by rw [show bB tb i = ub (hI h 26 i) by rw [tp i (by omega)]; rfl]; exact c_at F (by omega)
    have bl := bB_lt (tb := tb) i
    have il := k1 i hs (by omega)
    simp only [isD, decide_eq_true_eq] at il
    have ar : nI v * 10 + nI (bB tb i) - 48 = nI (10 * v + (bB tb i - 48)) := by
      rw [show (10 : Int32) = nI 10 from rfl, nI_mul, nI_add, show (48 : Int32) = nI 48 from rfl, pk_sub (by omega)]
      congr 1
      omega
    rw [pD]
    simp (implicitDefEqProofs := false) only [rX2_takeWhole_24, rX2_takeWhole_25, rX2_takeWhole_25b, rX2_takeWhole_26, rX2_takeWhole_29, rX2_takeWhole_32, rX2_takeWhole_32b, rX2_takeWhole_33, rX2_takeWhole_33b, rX2_takeWhole_34, rX2_takeWhole_37, rX2_takeWhole_39, rX2_takeWhole_40, rX2_takeWhole_40b, rX2_takeWhole_41, rX2_takeWhole_44, rX2_takeWhole_45, rX2_takeWhole_48, rX2_takeWhole_49, rX2_takeWhole_51, rX2_takeWhole_52, rX2_takeWhole_55, fin_27_0 F, fin_27_1 F, kA_25, kB_25, kA_27, kB_27, pCX2_takeWhole, pSX2_takeWhole, pOX2_takeWhole, pLX2_takeWhole, pCX5_at, pSX5_at, pOX5_at, pLX5_at, e7, e8, g1, at1, ar, kl_I, kl_J, kl_R, kl_T, kl_N, Nat.le_refl, Nat.zero_le, List.map_nil, List.map_cons, List.sum_nil, List.sum_cons, c_I, c_J, c_R, c_T, va_rf, hI_wI, hJ_wJ, hR_wR, hI_J, hI_R, hJ_I, hJ_R, hR_I, hR_J, hN_I, hN_J, hN_R, wI_I, wJ_J, upd_at, updL_at, kR_s, Option.toList, List.append_nil, List.nil_append, List.cons_append, if_true, if_false, reduceIte, Bool.false_eq_true, not_true_eq_false, not_false_eq_true, true_and, and_true, false_and, and_false, true_or, or_true,  Nat.reduceEqDiff, Nat.reduceAdd, Nat.reduceLeDiff]
    rw [rX2_takeWhole_58, nI_1]
    have h5 : RS (wI h 27 (upd (hI h 27) 8 (nI (10 * v + (bB tb i - 48))))) s n tb st t := by
      have f : ∀ j, j ≠ 8 → hI (wI h 27 (upd (hI h 27) 8 (nI (10 * v + (bB tb i - 48))))) 27 j = hI h 27 j := fun j hj => by rw [hI_wI, if_pos rfl, upd_at, if_neg hj]
      refine ⟨F, r2, cS_w w (by omega), nm, by rw [f 4 (by decide)]; exact op, ⟨by rw [f 3 (by decide)]; exact e3, by rw [f 5 (by decide)]; exact e5, by rw [f 6 (by decide)]; exact e6, by rw [f 7 (by decide)]; exact e7⟩, ok, hn, fun j hj => by rw [hI_wI, if_neg (by decide)]; exact tp j hj, by rw [f 9 (by decide)]; exact e9⟩
    have := ih (i + 1) (10 * v + (bB tb i - 48)) _ h5 (by omega) (by omega) (by rw [hI_wI, if_pos rfl, upd_at, if_pos rfl])
    rw [this, wI_I, hI_wI, if_pos rfl, upd_upd]
theorem RS_8 {h : qH} {s n : Nat} {tb : Nat → Int32} {st : PS} {t : tK} {v : Int32} (r : RS h s n tb st t) : RS (wI h 27 (upd (hI h 27) 8 v)) s n tb st t := by
  obtain ⟨F, r2, w, nm, op, ⟨e3, e5, e6, e7⟩, ok, hn, tp, e9⟩ := r
  have f : ∀ j, j ≠ 8 → hI (wI h 27 (upd (hI h 27) 8 v)) 27 j = hI h 27 j := fun j hj => by rw [hI_wI, if_pos rfl, upd_at, if_neg hj]
  exact ⟨F, r2, cS_w w (by omega), nm, by rw [f 4 (by decide)]; exact op, ⟨by rw [f 3 (by decide)]; exact e3, by rw [f 5 (by decide)]; exact e5, by rw [f 6 (by decide)]; exact e6, by rw [f 7 (by decide)]; exact e7⟩, ok, hn, fun j hj => by rw [hI_wI, if_neg (by decide)]; exact tp j hj, by rw [f 9 (by decide)]; exact e9⟩
def rn (d : Nat) (M : qM) (As : List Value) (h : qH) (s n : Nat) (tb : Nat → Int32) (st : PS) : RE (Nat × tK) → Prop
  | .inl e => ∃ h', (∀ Q, WM d M As h Q = Q (some (some (.int 0))) h') ∧ rx s h h' ∧ hI h' 27 9 = nI e.1 ∧ hI h' 27 10 = nI e.2
  | .inr p => ∃ h', (∀ Q, WM d M As h Q = Q (some (some (.int 1))) h') ∧ rx s h h' ∧ RS h' s n tb st p.2 ∧ hI h' 27 8 = nI p.1 ∧ (∀ c, c ≠ 27 → hI h' c = hI h c) ∧ hJ h' = hJ h
theorem c_takeWhole {d : Nat} {h : qH} {s n : Nat} {tb : Nat → Int32} {st : PS} {t : tK} (lo hi : Nat) (r : RS h s n tb st t) (hlo : lo < 2 ^ 31) (hhi : hi < 2 ^ 31) : rn (d + 2) mX2_takeWhole [.ref (27 : Nat), .int (nI lo), .int (nI hi)] h s n tb st (tN (bB tb) n lo hi t) := by
  have e5 := r.2.2.2.2.2.1.2.1
  have e6 := r.2.2.2.2.2.1.2.2.1
  have ok := r.2.2.2.2.2.2.1
  have F := r.1
  have o1 := ok.1
  have o2 := ok.2.1
  have q1 : (nI t.1 = 2) = (t.1 = 2) := nq (x := t.1) (k := 2) (c := 2) rfl (by omega) (by omega)
  unfold tN
  by_cases c1 : t.1 = 2
  · have q1' : (nI t.1 = 2) = True := by rw [q1]; exact eq_true c1
    rw [if_pos c1]
    have vl := nV_lt ok c1
    let h1 : qH := wI h 27 (upd (hI h 27) 8 0)
    let h2 : qH := wI h1 27 (upd (hI h1 27) 8 (nI (nV (bB tb) t)))
    have r1 : RS h1 s n tb st t := RS_8 r
    have r2 : RS h2 s n tb st t := RS_8 r1
    have x2 : sx [27] h h2 := sx_w (sx_w sx_refl (by simp)) (by simp)
    have e8 : hI h2 27 8 = nI (nV (bB tb) t) := by simp only [h2]; rw [hI_wI, if_pos rfl, upd_at, if_pos rfl]
    have l := fun Q => l_whole (d := d + 1) (lo := nI lo) (hi := nI hi) c1 (Q := Q) (t.2.2 - t.2.1) t.2.1 0 h1 r1 (Nat.le_refl _) (by omega) (by simp only [h1]; rw [hI_wI, if_pos rfl, upd_at, if_pos rfl, nI_0])
    have pre : ∀ Q, WM (d + 2) mX2_takeWhole [.ref (27 : Nat), .int (nI lo), .int (nI hi)] h Q = WP (d + 2) mX2_takeWhole (0, 0) 61 [some (.ref (27 : Nat)), some (.int (nI lo)), some (.int (nI hi)), some (.int (nI t.2.2))] [] h2 Q := fun Q => by
      rw [show WP (d + 2) mX2_takeWhole (0, 0) 61 [some (.ref (27 : Nat)), some (.int (nI lo)), some (.int (nI hi)), some (.int (nI t.2.2))] [] h2 Q = _ from (l Q).symm]
      simp (implicitDefEqProofs := false) only [eX2_takeWhole, rX2_takeWhole_0, rX2_takeWhole_0b, rX2_takeWhole_1, rX2_takeWhole_4, rX2_takeWhole_5, rX2_takeWhole_8, rX2_takeWhole_8b, rX2_takeWhole_9, rX2_takeWhole_10, rX2_takeWhole_13, rX2_takeWhole_14, rX2_takeWhole_14b, rX2_takeWhole_15, rX2_takeWhole_16, rX2_takeWhole_19, rX2_takeWhole_19b, rX2_takeWhole_20, rX2_takeWhole_23, fin_27_0 F, fin_27_1 F, kA_27, kB_27, pCX2_takeWhole, pSX2_takeWhole, pOX2_takeWhole, pLX2_takeWhole, e5, q1', e6, kl_I, kl_J, kl_R, kl_T, kl_N, Nat.le_refl, Nat.zero_le, List.map_nil, List.map_cons, List.sum_nil, List.sum_cons, c_I, c_J, c_R, c_T, va_rf, hI_wI, hJ_wJ, hR_wR, hI_J, hI_R, hJ_I, hJ_R, hR_I, hR_J, hN_I, hN_J, hN_R, wI_I, wJ_J, upd_at, updL_at, kR_s, Option.toList, List.append_nil, List.nil_append, List.cons_append, if_true, if_false, reduceIte, Bool.false_eq_true, not_true_eq_false, not_false_eq_true, true_and, and_true, false_and, and_false, true_or, or_true,  Nat.reduceEqDiff, Nat.reduceAdd, Nat.reduceLeDiff]
      rfl
    have q2 : (nI (nV (bB tb) t) < nI lo) = (nV (bB tb) t < lo) := propext (nI_ltI (by omega) hlo)
    have q3 : (nI (nV (bB tb) t) ≤ nI hi) = (nV (bB tb) t ≤ hi) := propext (nI_leI (by omega) hhi)
    have fa := c_fail (d := d + 1) (h := h2) (v := 4)
    have e6' : hI h2 27 6 = nI t.2.1 := r2.2.2.2.2.2.1.2.2.1
    by_cases c2 : lo ≤ nV (bB tb) t ∧ nV (bB tb) t ≤ hi
    · rw [if_pos c2]
      obtain ⟨h', k1, k2, k3, k4⟩ := c_step (d := d) r2
      refine ⟨h', fun Q => ?_, rx_trans (rx_sx x2) (rx_sx k2), k4, ?_, ?_, ?_⟩
      · rw [pre]
        simp (implicitDefEqProofs := false) only [rX2_takeWhole_61, rX2_takeWhole_61b, rX2_takeWhole_62, rX2_takeWhole_65, rX2_takeWhole_66, rX2_takeWhole_69, rX2_takeWhole_69b, rX2_takeWhole_70, rX2_takeWhole_73, rX2_takeWhole_74, rX2_takeWhole_77, rX2_takeWhole_77b, rX2_takeWhole_78, rX2_takeWhole_79, rX2_takeWhole_82, rX2_takeWhole_83, rX2_takeWhole_83b, rX2_takeWhole_84, rX2_takeWhole_87, rX2_takeWhole_88, kA_27, kB_27, pCX2_takeWhole, pSX2_takeWhole, pOX2_takeWhole, pLX2_takeWhole, pCX2_step, pSX2_step, pOX2_step, pLX2_step, e8, q2, q3, show ¬ nV (bB tb) t < lo from by omega, c2.2, k1, kl_I, kl_J, kl_R, kl_T, kl_N, Nat.le_refl, Nat.zero_le, List.map_nil, List.map_cons, List.sum_nil, List.sum_cons, c_I, c_J, c_R, c_T, va_rf, hI_wI, hJ_wJ, hR_wR, hI_J, hI_R, hJ_I, hJ_R, hR_I, hR_J, hN_I, hN_J, hN_R, wI_I, wJ_J, upd_at, updL_at, kR_s, Option.toList, List.append_nil, List.nil_append, List.cons_append, if_true, if_false, reduceIte, Bool.false_eq_true, not_true_eq_false, not_false_eq_true, true_and, and_true, false_and, and_false, true_or, or_true,  Nat.reduceEqDiff, Nat.reduceAdd, Nat.reduceLeDiff]
      · rw [k3 8 (by decide) (by decide) (by decide)]; exact e8
      · intro c hc; rw [k2.2.2.2 c (by simp; exact hc), x2.2.2.2 c (by simp; exact hc)]
      · rw [k2.2.1, x2.2.1]
    · rw [if_neg c2]
      refine ⟨fl' h2 4, fun Q => ?_, rx_trans (rx_sx x2) (rx_sx fl_sx), fl_9, fl_10.trans e6'⟩
      rw [pre]
      by_cases c3 : nV (bB tb) t < lo
      · simp (implicitDefEqProofs := false) only [rX2_takeWhole_61, rX2_takeWhole_61b, rX2_takeWhole_62, rX2_takeWhole_65, rX2_takeWhole_66, rX2_takeWhole_69, rX2_takeWhole_69b, rX2_takeWhole_70, rX2_takeWhole_73, rX2_takeWhole_74, rX2_takeWhole_77, rX2_takeWhole_77b, rX2_takeWhole_78, rX2_takeWhole_79, rX2_takeWhole_82, rX2_takeWhole_83, rX2_takeWhole_83b, rX2_takeWhole_84, rX2_takeWhole_87, rX2_takeWhole_88, kA_27, kB_27, pCX2_takeWhole, pSX2_takeWhole, pOX2_takeWhole, pLX2_takeWhole, pCX2_fail, pSX2_fail, pOX2_fail, pLX2_fail, e8, q2, c3, fa, kl_I, kl_J, kl_R, kl_T, kl_N, Nat.le_refl, Nat.zero_le, List.map_nil, List.map_cons, List.sum_nil, List.sum_cons, c_I, c_J, c_R, c_T, va_rf, hI_wI, hJ_wJ, hR_wR, hI_J, hI_R, hJ_I, hJ_R, hR_I, hR_J, hN_I, hN_J, hN_R, wI_I, wJ_J, upd_at, updL_at, kR_s, Option.toList, List.append_nil, List.nil_append, List.cons_append, if_true, if_false, reduceIte, Bool.false_eq_true, not_true_eq_false, not_false_eq_true, true_and, and_true, false_and, and_false, true_or, or_true,  Nat.reduceEqDiff, Nat.reduceAdd, Nat.reduceLeDiff]
      · have c4 : ¬ nV (bB tb) t ≤ hi := fun q => c2 ⟨by omega, q⟩
        simp (implicitDefEqProofs := false) only [rX2_takeWhole_61, rX2_takeWhole_61b, rX2_takeWhole_62, rX2_takeWhole_65, rX2_takeWhole_66, rX2_takeWhole_69, rX2_takeWhole_69b, rX2_takeWhole_70, rX2_takeWhole_73, rX2_takeWhole_74, rX2_takeWhole_77, rX2_takeWhole_77b, rX2_takeWhole_78, rX2_takeWhole_79, rX2_takeWhole_82, rX2_takeWhole_83, rX2_takeWhole_83b, rX2_takeWhole_84, rX2_takeWhole_87, rX2_takeWhole_88, kA_27, kB_27, pCX2_takeWhole, pSX2_takeWhole, pOX2_takeWhole, pLX2_takeWhole, pCX2_fail, pSX2_fail, pOX2_fail, pLX2_fail, e8, q2, c3, q3, c4, fa, kl_I, kl_J, kl_R, kl_T, kl_N, Nat.le_refl, Nat.zero_le, List.map_nil, List.map_cons, List.sum_nil, List.sum_cons, c_I, c_J, c_R, c_T, va_rf, hI_wI, hJ_wJ, hR_wR, hI_J, hI_R, hJ_I, hJ_R, hR_I, hR_J, hN_I, hN_J, hN_R, wI_I, wJ_J, upd_at, updL_at, kR_s, Option.toList, List.append_nil, List.nil_append, List.cons_append, if_true, if_false, reduceIte, Bool.false_eq_true, not_true_eq_false, not_false_eq_true, true_and, and_true, false_and, and_false, true_or, or_true,  Nat.reduceEqDiff, Nat.reduceAdd, Nat.reduceLeDiff]
  · rw [if_neg c1]
    refine ⟨fl' h 1, fun Q => ?_, rx_sx fl_sx, fl_9, fl_10.trans e6⟩
    simp (implicitDefEqProofs := false) only [eX2_takeWhole, rX2_takeWhole_0, rX2_takeWhole_0b, rX2_takeWhole_1, rX2_takeWhole_4, rX2_takeWhole_5, rX2_takeWhole_8, rX2_takeWhole_8b, rX2_takeWhole_9, rX2_takeWhole_10, rX2_takeWhole_13, kA_27, kB_27, pCX2_takeWhole, pSX2_takeWhole, pOX2_takeWhole, pLX2_takeWhole, pCX2_fail, pSX2_fail, pOX2_fail, pLX2_fail, e5, q1, c1, c_fail, kl_I, kl_J, kl_R, kl_T, kl_N, Nat.le_refl, Nat.zero_le, List.map_nil, List.map_cons, List.sum_nil, List.sum_cons, c_I, c_J, c_R, c_T, va_rf, hI_wI, hJ_wJ, hR_wR, hI_J, hI_R, hJ_I, hJ_R, hR_I, hR_J, hN_I, hN_J, hN_R, wI_I, wJ_J, upd_at, updL_at, kR_s, Option.toList, List.append_nil, List.nil_append, List.cons_append, if_true, if_false, reduceIte, Bool.false_eq_true, not_true_eq_false, not_false_eq_true, true_and, and_true, false_and, and_false, true_or, or_true,  Nat.reduceEqDiff, Nat.reduceAdd, Nat.reduceLeDiff]
/-- a house by its name -/
def rh (d : Nat) (M : qM) (As : List Value) (h : qH) (s : Nat) : RE Nat → Prop
  | .inl e => ∃ h', (∀ Q, WM d M As h Q = Q (some (some (.int (-1)))) h') ∧ rx s h h' ∧ hI h' 27 9 = nI e.1 ∧ hI h' 27 10 = nI e.2
  | .inr x => ∀ Q, WM d M As h Q = Q (some (some (.int (nI x)))) h
theorem mI_1 {x : Option Nat} (h : ∀ y, x = some y → y < 2 ^ 31) : (mI x = -1) = (x = none) := by
  cases x with
  | none => simp [mI]
  | some y =>
    have := h y rfl
    simp only [mI]
    have h0 : ¬ nI y = -1 := fun q => by
      have h2 := nI_toInt this
      rw [q] at h2
      have h3 : (-1 : Int32).toInt = -1 := by decide
      omega
    simp [h0]
theorem c_houseHere {d : Nat} {h : qH} {s n : Nat} {tb : Nat → Int32} {st : PS} {t : tK} (r : RS h s n tb st t) : rh (d + 6) mX2_houseHere [.ref (27 : Nat)] h s (hH (bB tb) st t) := by
  have e5 := r.2.2.2.2.2.1.2.1
  have e6 := r.2.2.2.2.2.1.2.2.1
  have ok := r.2.2.2.2.2.2.1
  have o1 := ok.1
  have n6 := r.2.2.1.2.1.1
  have q1 : (nI t.1 = 1) = (t.1 = 1) := nq (x := t.1) (k := 1) (c := 1) rfl (by omega) (by omega)
  have rv := c_reserved (d := d) r
  have q2 := mI_1 (x := rsv (bB tb) t) (fun y hy => by have := (rsvL_b hy).2.1; omega)
  unfold hH
  by_cases c1 : t.1 = 1
  · have q1' : (nI t.1 = 1) = True := by rw [q1]; exact eq_true c1
    by_cases c2 : rsv (bB tb) t = none
    · rw [if_pos ⟨c1, c2⟩]
      have q2' : (mI (rsv (bB tb) t) = -1) = True := by rw [q2]; exact eq_true c2
      have nh := c_nameHere (d := d + 4) r c1
      have nd := c_named (d := d + 5) r (wV_lt ok c1)
      have q3 := mI_1 (x := fd st (wV (bB tb) t)) (fun y hy => by have := fd_lt hy; omega)
      cases hf : fd st (wV (bB tb) t) with
      | none =>
        refine ⟨fl' h 2, fun Q => ?_, rx_sx fl_sx, fl_9, fl_10.trans e6⟩
        rw [hf] at nd
        simp (implicitDefEqProofs := false) only [eX2_houseHere, rX2_houseHere_0, rX2_houseHere_0b, rX2_houseHere_1, rX2_houseHere_4, rX2_houseHere_5, rX2_houseHere_8, rX2_houseHere_8b, rX2_houseHere_9, rX2_houseHere_12, rX2_houseHere_13, rX2_houseHere_16, rX2_houseHere_16b, rX2_houseHere_17, rX2_houseHere_18, rX2_houseHere_21, rX2_houseHere_22, rX2_houseHere_23, rX2_houseHere_24, rX2_houseHere_24b, rX2_houseHere_25, rX2_houseHere_25b, rX2_houseHere_26, rX2_houseHere_29, rX2_houseHere_32, rX2_houseHere_33, rX2_houseHere_34, rX2_houseHere_35, rX2_houseHere_38, rX2_houseHere_38b, rX2_houseHere_39, rX2_houseHere_40, rX2_houseHere_43, rX2_houseHere_44, rX2_houseHere_45, kA_27, kB_27, pCX2_houseHere, pSX2_houseHere, pOX2_houseHere, pLX2_houseHere, pCX2_reserved, pSX2_reserved, pOX2_reserved, pLX2_reserved, pCX2_nameHere, pSX2_nameHere, pOX2_nameHere, pLX2_nameHere, pCX2_named, pSX2_named, pOX2_named, pLX2_named, pCX2_fail, pSX2_fail, pOX2_fail, pLX2_fail, e5, q1', rv, q2', nh, nd, mI_no, c_fail, kl_I, kl_J, kl_R, kl_T, kl_N, Nat.le_refl, Nat.zero_le, List.map_nil, List.map_cons, List.sum_nil, List.sum_cons, c_I, c_J, c_R, c_T, va_rf, hI_wI, hJ_wJ, hR_wR, hI_J, hI_R, hJ_I, hJ_R, hR_I, hR_J, hN_I, hN_J, hN_R, wI_I, wJ_J, upd_at, updL_at, kR_s, Option.toList, List.append_nil, List.nil_append, List.cons_append, if_true, if_false, reduceIte, Bool.false_eq_true, not_true_eq_false, not_false_eq_true, true_and, and_true, false_and, and_false, true_or, or_true,  Nat.reduceEqDiff, Nat.reduceAdd, Nat.reduceLeDiff]
      | some x =>
        rw [hf] at nd q3
        have q3' : ¬ nI x = -1 := fun q => by
          have := q3.mp q
          cases this
        intro Q
        simp (implicitDefEqProofs := false) only [eX2_houseHere, rX2_houseHere_0, rX2_houseHere_0b, rX2_houseHere_1, rX2_houseHere_4, rX2_houseHere_5, rX2_houseHere_8, rX2_houseHere_8b, rX2_houseHere_9, rX2_houseHere_12, rX2_houseHere_13, rX2_houseHere_16, rX2_houseHere_16b, rX2_houseHere_17, rX2_houseHere_18, rX2_houseHere_21, rX2_houseHere_22, rX2_houseHere_23, rX2_houseHere_24, rX2_houseHere_24b, rX2_houseHere_25, rX2_houseHere_25b, rX2_houseHere_26, rX2_houseHere_29, rX2_houseHere_32, rX2_houseHere_33, rX2_houseHere_34, rX2_houseHere_35, rX2_houseHere_38, rX2_houseHere_38b, rX2_houseHere_39, rX2_houseHere_40, rX2_houseHere_43, rX2_houseHere_44, rX2_houseHere_45, kA_27, kB_27, pCX2_houseHere, pSX2_houseHere, pOX2_houseHere, pLX2_houseHere, pCX2_reserved, pSX2_reserved, pOX2_reserved, pLX2_reserved, pCX2_nameHere, pSX2_nameHere, pOX2_nameHere, pLX2_nameHere, pCX2_named, pSX2_named, pOX2_named, pLX2_named, pCX2_fail, pSX2_fail, pOX2_fail, pLX2_fail, e5, q1', rv, q2', nh, nd, mI_so, q3', kl_I, kl_J, kl_R, kl_T, kl_N, Nat.le_refl, Nat.zero_le, List.map_nil, List.map_cons, List.sum_nil, List.sum_cons, c_I, c_J, c_R, c_T, va_rf, hI_wI, hJ_wJ, hR_wR, hI_J, hI_R, hJ_I, hJ_R, hR_I, hR_J, hN_I, hN_J, hN_R, wI_I, wJ_J, upd_at, updL_at, kR_s, Option.toList, List.append_nil, List.nil_append, List.cons_append, if_true, if_false, reduceIte, Bool.false_eq_true, not_true_eq_false, not_false_eq_true, true_and, and_true, false_and, and_false, true_or, or_true,  Nat.reduceEqDiff, Nat.reduceAdd, Nat.reduceLeDiff]
    · rw [if_neg (fun z => c2 z.2)]
      refine ⟨fl' h 1, fun Q => ?_, rx_sx fl_sx, fl_9, fl_10.trans e6⟩
      simp (implicitDefEqProofs := false) only [eX2_houseHere, rX2_houseHere_0, rX2_houseHere_0b, rX2_houseHere_1, rX2_houseHere_4, rX2_houseHere_5, rX2_houseHere_8, rX2_houseHere_8b, rX2_houseHere_9, rX2_houseHere_12, rX2_houseHere_13, rX2_houseHere_16, rX2_houseHere_16b, rX2_houseHere_17, rX2_houseHere_18, rX2_houseHere_21, rX2_houseHere_22, rX2_houseHere_23, rX2_houseHere_24, rX2_houseHere_24b, rX2_houseHere_25, rX2_houseHere_25b, rX2_houseHere_26, rX2_houseHere_29, rX2_houseHere_32, rX2_houseHere_33, rX2_houseHere_34, rX2_houseHere_35, rX2_houseHere_38, rX2_houseHere_38b, rX2_houseHere_39, rX2_houseHere_40, rX2_houseHere_43, rX2_houseHere_44, rX2_houseHere_45, kA_27, kB_27, pCX2_houseHere, pSX2_houseHere, pOX2_houseHere, pLX2_houseHere, pCX2_reserved, pSX2_reserved, pOX2_reserved, pLX2_reserved, pCX2_fail, pSX2_fail, pOX2_fail, pLX2_fail, e5, q1', rv, q2, c2, c_fail, kl_I, kl_J, kl_R, kl_T, kl_N, Nat.le_refl, Nat.zero_le, List.map_nil, List.map_cons, List.sum_nil, List.sum_cons, c_I, c_J, c_R, c_T, va_rf, hI_wI, hJ_wJ, hR_wR, hI_J, hI_R, hJ_I, hJ_R, hR_I, hR_J, hN_I, hN_J, hN_R, wI_I, wJ_J, upd_at, updL_at, kR_s, Option.toList, List.append_nil, List.nil_append, List.cons_append, if_true, if_false, reduceIte, Bool.false_eq_true, not_true_eq_false, not_false_eq_true, true_and, and_true, false_and, and_false, true_or, or_true,  Nat.reduceEqDiff, Nat.reduceAdd, Nat.reduceLeDiff]
  · rw [if_neg (fun z => c1 z.1)]
    refine ⟨fl' h 1, fun Q => ?_, rx_sx fl_sx, fl_9, fl_10.trans e6⟩
    simp (implicitDefEqProofs := false) only [eX2_houseHere, rX2_houseHere_0, rX2_houseHere_0b, rX2_houseHere_1, rX2_houseHere_4, rX2_houseHere_5, rX2_houseHere_8, rX2_houseHere_8b, rX2_houseHere_9, rX2_houseHere_12, rX2_houseHere_13, rX2_houseHere_16, rX2_houseHere_16b, rX2_houseHere_17, rX2_houseHere_18, rX2_houseHere_21, rX2_houseHere_22, rX2_houseHere_23, rX2_houseHere_24, rX2_houseHere_24b, rX2_houseHere_25, rX2_houseHere_25b, rX2_houseHere_26, rX2_houseHere_29, rX2_houseHere_32, rX2_houseHere_33, rX2_houseHere_34, rX2_houseHere_35, rX2_houseHere_38, rX2_houseHere_38b, rX2_houseHere_39, rX2_houseHere_40, rX2_houseHere_43, rX2_houseHere_44, rX2_houseHere_45, kA_27, kB_27, pCX2_houseHere, pSX2_houseHere, pOX2_houseHere, pLX2_houseHere, pCX2_reserved, pSX2_reserved, pOX2_reserved, pLX2_reserved, pCX2_fail, pSX2_fail, pOX2_fail, pLX2_fail, e5, q1, c1, c_fail, kl_I, kl_J, kl_R, kl_T, kl_N, Nat.le_refl, Nat.zero_le, List.map_nil, List.map_cons, List.sum_nil, List.sum_cons, c_I, c_J, c_R, c_T, va_rf, hI_wI, hJ_wJ, hR_wR, hI_J, hI_R, hJ_I, hJ_R, hR_I, hR_J, hN_I, hN_J, hN_R, wI_I, wJ_J, upd_at, updL_at, kR_s, Option.toList, List.append_nil, List.nil_append, List.cons_append, if_true, if_false, reduceIte, Bool.false_eq_true, not_true_eq_false, not_false_eq_true, true_and, and_true, false_and, and_false, true_or, or_true,  Nat.reduceEqDiff, Nat.reduceAdd, Nat.reduceLeDiff]
