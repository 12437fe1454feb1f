/-! ===== the model's reader: words, numbers, names ===== -/
theorem wdN_lt : ∀ j, j < 21 → wdN j < 2 ^ 40 := by decide +kernel
theorem l_packed {d : Nat} {h : qH} {j : Nat} (hj : j < 21) {Q : Option (Option Value) → qH → Prop} : ∀ (k i : Nat), i + k = sLen.getD j 0 → WP (d + 4) mX9_packed (0, 0) 4 [some (.retAddr j), some (.long (lN (pW (wdB j) i 0 0))), none, some (.int (nI i))] [] h Q = Q (some (some (.long (lN (wdN j))))) h := by
  have l8 := sLen_le j hj
  have cl := c_length (d := d + 2) (h := h) hj
  intro k
  induction k with
  | zero =>
    intro i hi
    obtain rfl : i = sLen.getD j 0 := by omega
    simp (implicitDefEqProofs := false) only [rX9_packed_4, rX9_packed_5, rX9_packed_5b, rX9_packed_6, rX9_packed_9, rX9_packed_12, rX9_packed_15, rX9_packed_16, rX9_packed_17, rX9_packed_17b, rX9_packed_18, rX9_packed_19, rX9_packed_22, rX9_packed_24, rX9_packed_25, rX9_packed_26, rX9_packed_27, rX9_packed_28, rX9_packed_29, rX9_packed_36, rX9_packed_37, show j < 2000 from by omega, hj, cl, Int32.le_refl, wdN, pCX9_packed, pSX9_packed, pOX9_packed, pLX9_packed, pCJ0_length_8abf5, pSJ0_length_8abf5, pOJ0_length_8abf5, pLJ0_length_8abf5, kl_I, kl_J, kl_R, kl_T, kl_N, Nat.le_refl, Nat.zero_le, List.map_nil, List.map_cons, List.sum_nil, List.sum_cons, c_I, c_J, c_R, c_T, va_rf, hI_wI, hJ_wJ, hR_wR, hI_J, hI_R, hJ_I, hJ_R, hR_I, hR_J, hN_I, hN_J, hN_R, wI_I, wJ_J, upd_at, updL_at, kR_s, Option.toList, List.append_nil, List.nil_append, List.cons_append, if_true, if_false, reduceIte, Bool.false_eq_true, not_true_eq_false, not_false_eq_true, true_and, and_true, false_and, and_false, true_or, or_true,  Nat.reduceEqDiff, Nat.reduceAdd, Nat.reduceLeDiff]
  | succ k ih =>
    intro i hi
    have g1 : ¬ nI (sLen.getD j 0) ≤ nI i := nI_ge (by omega) (by omega)
    have ca := c_charAt (d := d) (h := h) (i := i) hj (by omega)
    obtain ⟨o1, o2⟩ := wdB_ok j hj i (by omega)
    rw [o2] at ca
    have l1 : 97 ≤ wdB j i ∧ wdB j i ≤ 122 := by simpa [isL] using o1
    have r1 : nI (wdB j i) - 97 + 1 = nI (wdB j i - 96) := by
      rw [show (97 : Int32) = nI 97 from rfl, pk_sub (by omega), nI_1]
      congr 1; omega
    have r2 : (nI (wdB j i - 96)).toInt64 = lN (wdB j i - 96) := nI_l (by omega)
    have pw : lN 32 * lN (pW (wdB j) i 0 0) + lN (wdB j i - 96) = lN (pW (wdB j) (i + 1) 0 0) := by rw [lN_mul, lN_add, pW_s, Nat.zero_add]
    have i1 := ih (i + 1) (by omega)
    simp (implicitDefEqProofs := false) only [rX9_packed_4, rX9_packed_5, rX9_packed_5b, rX9_packed_6, rX9_packed_9, rX9_packed_12, rX9_packed_15, rX9_packed_16, rX9_packed_17, rX9_packed_17b, rX9_packed_18, rX9_packed_19, rX9_packed_22, rX9_packed_24, rX9_packed_25, rX9_packed_26, rX9_packed_27, rX9_packed_28, rX9_packed_29, show j < 2000 from by omega, hj, cl, g1, ca, r1, r2, show (32 : Int64) = lN 32 from rfl, pw, pCX9_packed, pSX9_packed, pOX9_packed, pLX9_packed, pCJ0_length_8abf5, pSJ0_length_8abf5, pOJ0_length_8abf5, pLJ0_length_8abf5, pCJ0_charAt_5068e, pSJ0_charAt_5068e, pOJ0_charAt_5068e, pLJ0_charAt_5068e, kl_I, kl_J, kl_R, kl_T, kl_N, Nat.le_refl, Nat.zero_le, List.map_nil, List.map_cons, List.sum_nil, List.sum_cons, c_I, c_J, c_R, c_T, va_rf, hI_wI, hJ_wJ, hR_wR, hI_J, hI_R, hJ_I, hJ_R, hR_I, hR_J, hN_I, hN_J, hN_R, wI_I, wJ_J, upd_at, updL_at, kR_s, Option.toList, List.append_nil, List.nil_append, List.cons_append, if_true, if_false, reduceIte, Bool.false_eq_true, not_true_eq_false, not_false_eq_true, true_and, and_true, false_and, and_false, true_or, or_true,  Nat.reduceEqDiff, Nat.reduceAdd, Nat.reduceLeDiff]
    rw [rX9_packed_30, nI_1]
    simp (implicitDefEqProofs := false) only [rX9_packed_33, kl_I, kl_J, kl_R, kl_T, kl_N, Nat.le_refl, Nat.zero_le, List.map_nil, List.map_cons, List.sum_nil, List.sum_cons, c_I, c_J, c_R, c_T, va_rf, hI_wI, hJ_wJ, hR_wR, hI_J, hI_R, hJ_I, hJ_R, hR_I, hR_J, hN_I, hN_J, hN_R, wI_I, wJ_J, upd_at, updL_at, kR_s, Option.toList, List.append_nil, List.nil_append, List.cons_append, if_true, if_false, reduceIte, Bool.false_eq_true, not_true_eq_false, not_false_eq_true, true_and, and_true, false_and, and_false, true_or, or_true,  Nat.reduceEqDiff, Nat.reduceAdd, Nat.reduceLeDiff]
    exact i1
theorem c_pack9 {d : Nat} {h : qH} {j : Nat} (hj : j < 21) : ∀ Q, WM (d + 4) mX9_packed [.retAddr j] h Q = Q (some (some (.long (lN (wdN j))))) h := by
  intro Q
  simp (implicitDefEqProofs := false) only [eX9_packed, rX9_packed_0, rX9_packed_1, rX9_packed_2, rX9_packed_3, pCX9_packed, pSX9_packed, pOX9_packed, pLX9_packed, kl_I, kl_J, kl_R, kl_T, kl_N, Nat.le_refl, Nat.zero_le, List.map_nil, List.map_cons, List.sum_nil, List.sum_cons, c_I, c_J, c_R, c_T, va_rf, hI_wI, hJ_wJ, hR_wR, hI_J, hI_R, hJ_I, hJ_R, hR_I, hR_J, hN_I, hN_J, hN_R, wI_I, wJ_J, upd_at, updL_at, kR_s, Option.toList, List.append_nil, List.nil_append, List.cons_append, if_true, if_false, reduceIte, Bool.false_eq_true, not_true_eq_false, not_false_eq_true, true_and, and_true, false_and, and_false, true_or, or_true,  Nat.reduceEqDiff, Nat.reduceAdd, Nat.reduceLeDiff]
  exact l_packed (d := d) hj (sLen.getD j 0) 0 (by omega)
/-- the street that is read -/
def mRd (h : qH) (s : Nat) (st : PS) : Prop := mst s ∧ mFin (hR h) s ∧ aW st.1 ∧ (hI h s 0 = (if st.2.2 = true then nI (aFr st.1) else -1) ∧ hI h s 1 = nI (aN st.1) ∧ hI h s 2 = nI (aSp st.1) ∧ hI h s 3 = nI (doN st.1 (aN st.1)) ∧ hI h s 4 = nI (popc 6 (aPu st.1)) ∧ hI h s 5 = nI (aGl st.1) ∧ hI h s 6 = nI (aUn st.1) ∧ hI h s 7 = nI (aRu st.1) ∧ hI h s 20 = nI (aPu st.1)) ∧
  (∀ j, j < aN st.1 → hI h (s + 1) j = nI (aKi st.1 j) ∧ hI h (s + 2) j = oI (aCs st.1 j) ∧ hI h (s + 3) j = nI (aBy st.1 j) ∧ hI h (s + 4) j = nI (aDo st.1 j)) ∧
  (∀ j, j < aSp st.1 → hI h (s + 5) j = nI (aFm st.1 j) ∧ hI h (s + 6) j = nI (aTo st.1 j) ∧ hI h (s + 7) j = nI (aDy st.1 j)) ∧
  (∀ j, j < aGl st.1 → hI h (s + 8) j = nI (aGd st.1 j)) ∧ (∀ j, j < aUn st.1 → hI h (s + 9) j = nI (aUh st.1 j)) ∧ (∀ j, j < aRu st.1 → hI h (s + 10) j = nI (aRd st.1 j) ∧ hI h (s + 11) j = oI (aRf st.1 j)) ∧
  (∀ j, j < aN st.1 → hJ h (s + 12) j = lN (st.2.1 j) ∧ st.2.1 j < 2 ^ 40) ∧ (∀ j, aN st.1 ≤ j → j < 6 → hI h (s + 4) j = 0) ∧ (st.2.2 = false → aN st.1 = 0 ∧ aSp st.1 = 0 ∧ aGl st.1 = 0 ∧ aUn st.1 = 0 ∧ aRu st.1 = 0)
theorem mRd_mv {h h' : qH} {s : Nat} {st : PS} (w : mRd h s st) (r : hR h' = hR h) (e : ∀ k, k ≤ 12 → hI h' (s + k) = hI h (s + k) ∧ hJ h' (s + k) = hJ h (s + k)) : mRd h' s st := by
  have e0 : hI h' s = hI h s := (e 0 (by omega)).1
  obtain ⟨w1, w2, w3, w4, w5, w6, w7, w8, w9, w10, w11, w12⟩ := w
  refine ⟨w1, by rw [r]; exact w2, w3, by rw [e0]; exact w4, ?_, ?_, ?_, ?_, ?_, ?_, ?_, w12⟩
  · rw [(e 1 (by omega)).1, (e 2 (by omega)).1, (e 3 (by omega)).1, (e 4 (by omega)).1]; exact w5
  · rw [(e 5 (by omega)).1, (e 6 (by omega)).1, (e 7 (by omega)).1]; exact w6
  · rw [(e 8 (by omega)).1]; exact w7
  · rw [(e 9 (by omega)).1]; exact w8
  · rw [(e 10 (by omega)).1, (e 11 (by omega)).1]; exact w9
  · rw [(e 12 (by omega)).2]; exact w10
  · rw [(e 4 (by omega)).1]; exact w11
theorem mRd_44 {h h' : qH} {s : Nat} {st : PS} (w : mRd h s st) (r : hR h' = hR h) (e : ∀ b, b ≠ 44 → hI h' b = hI h b ∧ hJ h' b = hJ h b) : mRd h' s st := mRd_mv w r (fun k _ => e _ (by obtain ⟨j, ej, -⟩ := w.1; omega))
/-- reading; over -/
def RM (h : qH) (s n : Nat) (tb : Nat → Int32) (st : PS) (t : tK) : Prop := tpF h n tb ∧ hR h 44 4 = some s ∧ mRd h s st ∧ tkF h (bB tb) t ∧ tOK (bB tb) n t ∧ hI h 44 12 = 0
def RO (h : qH) (s : Nat) (st : PS) (e : Nat × Nat) : Prop := Fin0 (hR h) ∧ hR h 44 4 = some s ∧ mRd h s st ∧ hI h 44 9 = 5 ∧ hI h 44 12 = nI e.1 ∧ hI h 44 13 = nI e.2 ∧ 0 < e.1 ∧ e.1 ≤ 6
/-- what the reader leaves -/
def rg9 (s : Nat) (h h' : qH) : Prop := hR h' = hR h ∧ hN h' = hN h ∧ (∀ b, b ≠ 44 → ¬ (s ≤ b ∧ b ≤ s + 12) → hI h' b = hI h b ∧ hJ h' b = hJ h b) ∧ ∀ j, j ∉ [8, 9, 10, 11, 12, 13] → hI h' 44 j = hI h 44 j
theorem rg_refl {s : Nat} {h : qH} : rg9 s h h := ⟨rfl, rfl, fun _ _ _ => ⟨rfl, rfl⟩, fun _ _ => rfl⟩
theorem rg_tr {s : Nat} {h h1 h2 : qH} (a : rg9 s h h1) (b : rg9 s h1 h2) : rg9 s h h2 := ⟨b.1.trans a.1, b.2.1.trans a.2.1, fun c h1 h2 => ⟨(b.2.2.1 c h1 h2).1.trans (a.2.2.1 c h1 h2).1, (b.2.2.1 c h1 h2).2.trans (a.2.2.1 c h1 h2).2⟩, fun j hj => (b.2.2.2 j hj).trans (a.2.2.2 j hj)⟩
theorem rg_gx {s : Nat} {h h' : qH} (x : gx h h') : rg9 s h h' := ⟨x.1, x.2.1, fun b h1 _ => x.2.2.1 b h1, fun j hj => x.2.2.2 j (fun q => hj (by simp at q ⊢; omega))⟩
theorem rg_w {s c : Nat} {h h1 : qH} {f : Nat → Int32} (a : rg9 s h h1) (hc : s ≤ c ∧ c ≤ s + 12) (hs : mst s) : rg9 s h (wI h1 c f) := by
  obtain ⟨j, ej, -⟩ := hs
  refine rg_tr a ⟨rfl, rfl, fun b h1 h2 => ⟨?_, rfl⟩, fun j _ => ?_⟩
  · rw [hI_wI, if_neg (fun q => h2 (by omega))]
  · rw [hI_wI, if_neg (by omega)]
theorem rg_wJ {s c : Nat} {h h1 : qH} {f : Nat → Int64} (a : rg9 s h h1) (hc : s ≤ c ∧ c ≤ s + 12) : rg9 s h (wJ h1 c f) := rg_tr a ⟨rfl, rfl, fun b h1 h2 => ⟨rfl, by rw [hJ_wJ, if_neg (fun q => h2 (by omega))]⟩, fun j _ => rfl⟩
def oc (h h' : qH) (s n : Nat) (tb : Nat → Int32) (R : RE (PS × tK)) : Prop := rg9 s h h' ∧ match R with
  | .inr p => RM h' s n tb p.1 p.2
  | .inl e => ∃ st, RO h' s st e
/-- a step -/
theorem c_st9 {d : Nat} {h : qH} {s n : Nat} {tb : Nat → Int32} {st : PS} {t : tK} (r : RM h s n tb st t) (h4 : t.1 ≠ 4) : ∃ h', (∀ Q, WM (d + 1) mX9_goesOn [.ref (44 : Nat)] h Q = Q (some none) h') ∧ rg9 s h h' ∧ RM h' s n tb st (tkN (bB tb) n t.2.2) := by
  obtain ⟨tp, r4, w, tk, ok, e12⟩ := r
  obtain ⟨h', e, x, k⟩ := c_goesOn (d := d) tp ok.2.2.1 (tk.1 h4) (by rw [tk.2.1]; exact srt_5)
  exact ⟨h', e, rg_gx x, tpF_gx tp x, by rw [x.1]; exact r4, mRd_44 w x.1 x.2.2.1, k, (tkN_ok ok.2.2.1).1, by rw [x.2.2.2 12 (by decide)]; exact e12⟩
/-- a fault -/
def flH (h : qH) (v : Int32) : qH := wI h 44 (upd (upd (upd (hI h 44) 12 v) 13 (hI h 44 10)) 9 5)
theorem c_fl9 {d : Nat} {h : qH} {v : Int32} (e9 : ¬ hI h 44 9 = 5) : ∀ Q, WM d mX9_flaw [.ref (44 : Nat), .int v] h Q = Q (some none) (flH h v) := by
  intro Q
  simp (implicitDefEqProofs := false) only [eX9_flaw, rX9_flaw_0, rX9_flaw_0b, rX9_flaw_1, rX9_flaw_4, rX9_flaw_5, rX9_flaw_8, rX9_flaw_9, rX9_flaw_9b, rX9_flaw_10, rX9_flaw_11, rX9_flaw_14, rX9_flaw_14b, rX9_flaw_15, rX9_flaw_15b, rX9_flaw_16, rX9_flaw_19, rX9_flaw_22, rX9_flaw_22b, rX9_flaw_23, rX9_flaw_24, rX9_flaw_27, kA_44, kB_44, e9, flH, pCX9_flaw, pSX9_flaw, pOX9_flaw, pLX9_flaw, kl_I, kl_J, kl_R, kl_T, kl_N, Nat.le_refl, Nat.zero_le, List.map_nil, List.map_cons, List.sum_nil, List.sum_cons, c_I, c_J, c_R, c_T, va_rf, hI_wI, hJ_wJ, hR_wR, hI_J, hI_R, hJ_I, hJ_R, hR_I, hR_J, hN_I, hN_J, hN_R, wI_I, wJ_J, upd_at, updL_at, kR_s, Option.toList, List.append_nil, List.nil_append, List.cons_append, if_true, if_false, reduceIte, Bool.false_eq_true, not_true_eq_false, not_false_eq_true, true_and, and_true, false_and, and_false, true_or, or_true,  Nat.reduceEqDiff, Nat.reduceAdd, Nat.reduceLeDiff]
theorem fl_rg {s : Nat} {h : qH} {v : Int32} : rg9 s h (flH h v) := ⟨rfl, rfl, fun b h1 _ => ⟨by unfold flH; rw [hI_wI, if_neg h1], rfl⟩, fun j hj => by
  simp at hj
  unfold flH
  rw [hI_wI, if_pos rfl, upd_at, if_neg (by omega), upd_at, if_neg (by omega), upd_at, if_neg (by omega)]⟩
theorem RM_9 {h : qH} {s n : Nat} {tb : Nat → Int32} {st : PS} {t : tK} (r : RM h s n tb st t) : ¬ hI h 44 9 = 5 := by rw [r.2.2.2.1.2.1]; exact srt_5
theorem RO_fl {h : qH} {s n : Nat} {tb : Nat → Int32} {st : PS} {t : tK} (k : Nat) (r : RM h s n tb st t) (hk : 0 < k ∧ k ≤ 6 := by decide) : RO (flH h (nI k)) s st (k, t.2.1) := by
  obtain ⟨tp, r4, w, tk, ok, e12⟩ := r
  refine ⟨tp.1, r4, mRd_44 w rfl (fun b hb => ⟨by unfold flH; rw [hI_wI, if_neg hb], rfl⟩), ?_, ?_, ?_, hk⟩
  · unfold flH; rw [hI_wI, if_pos rfl, upd_at, if_pos rfl]
  · unfold flH; rw [hI_wI, if_pos rfl, upd_at, if_neg (by decide), upd_at, if_neg (by decide), upd_at, if_pos rfl]
  · unfold flH; rw [hI_wI, if_pos rfl, upd_at, if_neg (by decide), upd_at, if_pos rfl]; exact tk.2.2.1
theorem srt_2 {k : Nat} : (nI (srt k) = 2) = (k = 1) := by
  unfold srt
  apply propext
  split
  · rename_i q; subst q; decide
  · split
    · rename_i q; subst q; decide
    · split
      · rename_i q; subst q; decide
      · split
        · rename_i q; subst q; decide
        · constructor
          · intro q; exact absurd q (by decide)
          · intro q; omega
theorem srt_3 {k : Nat} : (nI (srt k) = 3) = (k = 2) := by
  unfold srt
  apply propext
  split
  · rename_i q; subst q; decide
  · split
    · rename_i q; subst q; decide
    · split
      · rename_i q; subst q; decide
      · split
        · rename_i q; subst q; decide
        · constructor
          · intro q; exact absurd q (by decide)
          · intro q; omega
theorem c_mw {d : Nat} {h : qH} {s n : Nat} {tb : Nat → Int32} {st : PS} {t : tK} (j : Nat) (r : RM h s n tb st t) (hj : j < 21) : ∀ Q, WM (d + 5) mX9_isWord [.ref (44 : Nat), .retAddr j] h Q = Q (some (some (.int (bI (isW (bB tb) t j))))) h := by
  intro Q
  have r9 := r.2.2.2.1.2.1
  have q2 : (hI h 44 9 = 2) = (t.1 = 1) := by rw [r9]; exact srt_2
  by_cases c : t.1 = 1
  · have ew := r.2.2.2.1.2.2.2.1 c
    have lw := wV_lt r.2.2.2.2.1 c
    have lw2 := wdN_lt j hj
    have pk := c_pack9 (d := d) (h := h) hj
    have cmp := lgc (x := wV (bB tb) t) (y := wdN j) (by omega) (by omega)
    unfold isW
    by_cases e : wV (bB tb) t = wdN j
    · rw [if_neg (by omega), if_pos e] at cmp
      rw [decide_eq_true ⟨c, e⟩, bI_t]
      simp (implicitDefEqProofs := false) only [eX9_isWord, rX9_isWord_0, rX9_isWord_0b, rX9_isWord_1, rX9_isWord_4, rX9_isWord_5, rX9_isWord_8, rX9_isWord_8b, rX9_isWord_9, rX9_isWord_12, rX9_isWord_12b, rX9_isWord_13, rX9_isWord_16, rX9_isWord_17, rX9_isWord_20, rX9_isWord_21, rX9_isWord_24, rX9_isWord_25, kA_44, kB_44, show j < 2000 from by omega, q2, c, ew, pk, cmp, pCX9_isWord, pSX9_isWord, pOX9_isWord, pLX9_isWord, pCX9_packed, pSX9_packed, pOX9_packed, pLX9_packed, kl_I, kl_J, kl_R, kl_T, kl_N, Nat.le_refl, Nat.zero_le, List.map_nil, List.map_cons, List.sum_nil, List.sum_cons, c_I, c_J, c_R, c_T, va_rf, hI_wI, hJ_wJ, hR_wR, hI_J, hI_R, hJ_I, hJ_R, hR_I, hR_J, hN_I, hN_J, hN_R, wI_I, wJ_J, upd_at, updL_at, kR_s, Option.toList, List.append_nil, List.nil_append, List.cons_append, if_true, if_false, reduceIte, Bool.false_eq_true, not_true_eq_false, not_false_eq_true, true_and, and_true, false_and, and_false, true_or, or_true,  Nat.reduceEqDiff, Nat.reduceAdd, Nat.reduceLeDiff]
    · rw [decide_eq_false (fun z => e z.2), bI_f]
      have nz : ¬ lg_cmp (lN (wV (bB tb) t)) (lN (wdN j)) = 0 := by
        rw [cmp]
        split
        · decide
        · decide
      simp (implicitDefEqProofs := false) only [eX9_isWord, rX9_isWord_0, rX9_isWord_0b, rX9_isWord_1, rX9_isWord_4, rX9_isWord_5, rX9_isWord_8, rX9_isWord_8b, rX9_isWord_9, rX9_isWord_12, rX9_isWord_12b, rX9_isWord_13, rX9_isWord_16, rX9_isWord_17, rX9_isWord_20, rX9_isWord_21, rX9_isWord_24, rX9_isWord_25, kA_44, kB_44, show j < 2000 from by omega, q2, c, ew, pk, nz, pCX9_isWord, pSX9_isWord, pOX9_isWord, pLX9_isWord, pCX9_packed, pSX9_packed, pOX9_packed, pLX9_packed, kl_I, kl_J, kl_R, kl_T, kl_N, Nat.le_refl, Nat.zero_le, List.map_nil, List.map_cons, List.sum_nil, List.sum_cons, c_I, c_J, c_R, c_T, va_rf, hI_wI, hJ_wJ, hR_wR, hI_J, hI_R, hJ_I, hJ_R, hR_I, hR_J, hN_I, hN_J, hN_R, wI_I, wJ_J, upd_at, updL_at, kR_s, Option.toList, List.append_nil, List.nil_append, List.cons_append, if_true, if_false, reduceIte, Bool.false_eq_true, not_true_eq_false, not_false_eq_true, true_and, and_true, false_and, and_false, true_or, or_true,  Nat.reduceEqDiff, Nat.reduceAdd, Nat.reduceLeDiff]
  · rw [isW_n c, bI_f]
    simp (implicitDefEqProofs := false) only [eX9_isWord, rX9_isWord_0, rX9_isWord_0b, rX9_isWord_1, rX9_isWord_4, rX9_isWord_5, rX9_isWord_8, rX9_isWord_8b, rX9_isWord_9, rX9_isWord_12, rX9_isWord_12b, rX9_isWord_13, rX9_isWord_16, rX9_isWord_17, rX9_isWord_20, rX9_isWord_21, rX9_isWord_24, rX9_isWord_25, kA_44, kB_44, show j < 2000 from by omega, q2, c, pCX9_isWord, pSX9_isWord, pOX9_isWord, pLX9_isWord, kl_I, kl_J, kl_R, kl_T, kl_N, Nat.le_refl, Nat.zero_le, List.map_nil, List.map_cons, List.sum_nil, List.sum_cons, c_I, c_J, c_R, c_T, va_rf, hI_wI, hJ_wJ, hR_wR, hI_J, hI_R, hJ_I, hJ_R, hR_I, hR_J, hN_I, hN_J, hN_R, wI_I, wJ_J, upd_at, updL_at, kR_s, Option.toList, List.append_nil, List.nil_append, List.cons_append, if_true, if_false, reduceIte, Bool.false_eq_true, not_true_eq_false, not_false_eq_true, true_and, and_true, false_and, and_false, true_or, or_true,  Nat.reduceEqDiff, Nat.reduceAdd, Nat.reduceLeDiff]
/-! over: nothing happens -/
theorem o_goesOn {d : Nat} {h : qH} (e : hI h 44 9 = 5) : ∀ Q, WM d mX9_goesOn [.ref (44 : Nat)] h Q = Q (some none) h := by
  intro Q
  simp (implicitDefEqProofs := false) only [eX9_goesOn, rX9_goesOn_0, rX9_goesOn_0b, rX9_goesOn_1, rX9_goesOn_4, rX9_goesOn_5, rX9_goesOn_8, kA_44, kB_44, e, pCX9_goesOn, pSX9_goesOn, pOX9_goesOn, pLX9_goesOn, kl_I, kl_J, kl_R, kl_T, kl_N, Nat.le_refl, Nat.zero_le, List.map_nil, List.map_cons, List.sum_nil, List.sum_cons, c_I, c_J, c_R, c_T, va_rf, hI_wI, hJ_wJ, hR_wR, hI_J, hI_R, hJ_I, hJ_R, hR_I, hR_J, hN_I, hN_J, hN_R, wI_I, wJ_J, upd_at, updL_at, kR_s, Option.toList, List.append_nil, List.nil_append, List.cons_append, if_true, if_false, reduceIte, Bool.false_eq_true, not_true_eq_false, not_false_eq_true, true_and, and_true, false_and, and_false, true_or, or_true,  Nat.reduceEqDiff, Nat.reduceAdd, Nat.reduceLeDiff]
theorem o_flaw {d : Nat} {h : qH} {v : Int32} (e : hI h 44 9 = 5) : ∀ Q, WM d mX9_flaw [.ref (44 : Nat), .int v] h Q = Q (some none) h := by
  intro Q
  simp (implicitDefEqProofs := false) only [eX9_flaw, rX9_flaw_0, rX9_flaw_0b, rX9_flaw_1, rX9_flaw_4, rX9_flaw_5, rX9_flaw_8, kA_44, kB_44, e, pCX9_flaw, pSX9_flaw, pOX9_flaw, pLX9_flaw, kl_I, kl_J, kl_R, kl_T, kl_N, Nat.le_refl, Nat.zero_le, List.map_nil, List.map_cons, List.sum_nil, List.sum_cons, c_I, c_J, c_R, c_T, va_rf, hI_wI, hJ_wJ, hR_wR, hI_J, hI_R, hJ_I, hJ_R, hR_I, hR_J, hN_I, hN_J, hN_R, wI_I, wJ_J, upd_at, updL_at, kR_s, Option.toList, List.append_nil, List.nil_append, List.cons_append, if_true, if_false, reduceIte, Bool.false_eq_true, not_true_eq_false, not_false_eq_true, true_and, and_true, false_and, and_false, true_or, or_true,  Nat.reduceEqDiff, Nat.reduceAdd, Nat.reduceLeDiff]
theorem o_isWord {d j : Nat} {h : qH} (e : hI h 44 9 = 5) : ∀ Q, WM d mX9_isWord [.ref (44 : Nat), .retAddr j] h Q = Q (some (some (.int 0))) h := by
  intro Q
  simp (implicitDefEqProofs := false) only [eX9_isWord, rX9_isWord_0, rX9_isWord_0b, rX9_isWord_1, rX9_isWord_4, rX9_isWord_5, rX9_isWord_8, rX9_isWord_8b, rX9_isWord_9, rX9_isWord_12, rX9_isWord_12b, rX9_isWord_13, rX9_isWord_16, rX9_isWord_17, rX9_isWord_20, rX9_isWord_21, rX9_isWord_24, rX9_isWord_25, kA_44, kB_44, e, show ¬ (5 : Int32) = 2 from by decide, pCX9_isWord, pSX9_isWord, pOX9_isWord, pLX9_isWord, kl_I, kl_J, kl_R, kl_T, kl_N, Nat.le_refl, Nat.zero_le, List.map_nil, List.map_cons, List.sum_nil, List.sum_cons, c_I, c_J, c_R, c_T, va_rf, hI_wI, hJ_wJ, hR_wR, hI_J, hI_R, hJ_I, hJ_R, hR_I, hR_J, hN_I, hN_J, hN_R, wI_I, wJ_J, upd_at, updL_at, kR_s, Option.toList, List.append_nil, List.nil_append, List.cons_append, if_true, if_false, reduceIte, Bool.false_eq_true, not_true_eq_false, not_false_eq_true, true_and, and_true, false_and, and_false, true_or, or_true,  Nat.reduceEqDiff, Nat.reduceAdd, Nat.reduceLeDiff]
theorem o_needs {d j : Nat} {h : qH} (hj : j < 21) (e : hI h 44 9 = 5) : ∀ Q, WM (d + 1) mX9_needs [.ref (44 : Nat), .retAddr j] h Q = Q (some none) h := by
  intro Q
  simp (implicitDefEqProofs := false) only [eX9_needs, rX9_needs_0, rX9_needs_0b, rX9_needs_1, rX9_needs_1b, rX9_needs_2, rX9_needs_5, rX9_needs_8, rX9_needs_8b, rX9_needs_9, rX9_needs_10, rX9_needs_13, rX9_needs_13b, rX9_needs_14, rX9_needs_17, kA_44, kB_44, show j < 2000 from by omega,  o_isWord (d := d) (j := j) e, o_flaw (d := d) (v := 1) e, o_goesOn (d := d) e, pCX9_needs, pSX9_needs, pOX9_needs, pLX9_needs, pCX9_isWord, pSX9_isWord, pOX9_isWord, pLX9_isWord, pCX9_flaw, pSX9_flaw, pOX9_flaw, pLX9_flaw, pCX9_goesOn, pSX9_goesOn, pOX9_goesOn, pLX9_goesOn, kl_I, kl_J, kl_R, kl_T, kl_N, Nat.le_refl, Nat.zero_le, List.map_nil, List.map_cons, List.sum_nil, List.sum_cons, c_I, c_J, c_R, c_T, va_rf, hI_wI, hJ_wJ, hR_wR, hI_J, hI_R, hJ_I, hJ_R, hR_I, hR_J, hN_I, hN_J, hN_R, wI_I, wJ_J, upd_at, updL_at, kR_s, Option.toList, List.append_nil, List.nil_append, List.cons_append, if_true, if_false, reduceIte, Bool.false_eq_true, not_true_eq_false, not_false_eq_true, true_and, and_true, false_and, and_false, true_or, or_true,  Nat.reduceEqDiff, Nat.reduceAdd, Nat.reduceLeDiff]
theorem o_readWhole {d : Nat} {h : qH} {lo hi : Int32} (e : hI h 44 9 = 5) : ∀ Q, WM (d + 1) mX9_readWhole [.ref (44 : Nat), .int lo, .int hi] h Q = Q (some (some (.int lo))) h := by
  intro Q
  simp (implicitDefEqProofs := false) only [eX9_readWhole, rX9_readWhole_0, rX9_readWhole_0b, rX9_readWhole_1, rX9_readWhole_4, rX9_readWhole_5, rX9_readWhole_8, rX9_readWhole_8b, rX9_readWhole_9, rX9_readWhole_10, rX9_readWhole_13, rX9_readWhole_16, rX9_readWhole_16b, rX9_readWhole_17, rX9_readWhole_20, rX9_readWhole_21, rX9_readWhole_22, rX9_readWhole_25, rX9_readWhole_28, rX9_readWhole_28b, rX9_readWhole_29, rX9_readWhole_30, rX9_readWhole_33, rX9_readWhole_33b, rX9_readWhole_34, rX9_readWhole_37, rX9_readWhole_38, rX9_readWhole_41, rX9_readWhole_42, rX9_readWhole_45, rX9_readWhole_45b, rX9_readWhole_46, rX9_readWhole_49, rX9_readWhole_50, rX9_readWhole_50b, rX9_readWhole_51, rX9_readWhole_54, rX9_readWhole_55, kA_44, kB_44, e, show ¬ (5 : Int32) = 3 from by decide, o_flaw (d := d) (v := 1) e, o_goesOn (d := d) e, pCX9_readWhole, pSX9_readWhole, pOX9_readWhole, pLX9_readWhole, pCX9_flaw, pSX9_flaw, pOX9_flaw, pLX9_flaw, pCX9_goesOn, pSX9_goesOn, pOX9_goesOn, pLX9_goesOn, kl_I, kl_J, kl_R, kl_T, kl_N, Nat.le_refl, Nat.zero_le, List.map_nil, List.map_cons, List.sum_nil, List.sum_cons, c_I, c_J, c_R, c_T, va_rf, hI_wI, hJ_wJ, hR_wR, hI_J, hI_R, hJ_I, hJ_R, hR_I, hR_J, hN_I, hN_J, hN_R, wI_I, wJ_J, upd_at, updL_at, kR_s, Option.toList, List.append_nil, List.nil_append, List.cons_append, if_true, if_false, reduceIte, Bool.false_eq_true, not_true_eq_false, not_false_eq_true, true_and, and_true, false_and, and_false, true_or, or_true,  Nat.reduceEqDiff, Nat.reduceAdd, Nat.reduceLeDiff]
theorem o_readPart {d j : Nat} {h : qH} {lo hi : Int32} (hj : j < 21) (e : hI h 44 9 = 5) : ∀ Q, WM (d + 2) mX9_readPart [.ref (44 : Nat), .retAddr j, .int lo, .int hi] h Q = Q (some (some (.int lo))) h := by
  intro Q
  simp (implicitDefEqProofs := false) only [eX9_readPart, rX9_readPart_0, rX9_readPart_0b, rX9_readPart_1, rX9_readPart_1b, rX9_readPart_2, rX9_readPart_5, rX9_readPart_5b, rX9_readPart_6, rX9_readPart_7, rX9_readPart_8, rX9_readPart_11, kA_44, kB_44, show j < 2000 from by omega,  o_needs (d := d) (j := j) hj e, o_readWhole (d := d) (lo := lo) (hi := hi) e, pCX9_readPart, pSX9_readPart, pOX9_readPart, pLX9_readPart, pCX9_needs, pSX9_needs, pOX9_needs, pLX9_needs, pCX9_readWhole, pSX9_readWhole, pOX9_readWhole, pLX9_readWhole, kl_I, kl_J, kl_R, kl_T, kl_N, Nat.le_refl, Nat.zero_le, List.map_nil, List.map_cons, List.sum_nil, List.sum_cons, c_I, c_J, c_R, c_T, va_rf, hI_wI, hJ_wJ, hR_wR, hI_J, hI_R, hJ_I, hJ_R, hR_I, hR_J, hN_I, hN_J, hN_R, wI_I, wJ_J, upd_at, updL_at, kR_s, Option.toList, List.append_nil, List.nil_append, List.cons_append, if_true, if_false, reduceIte, Bool.false_eq_true, not_true_eq_false, not_false_eq_true, true_and, and_true, false_and, and_false, true_or, or_true,  Nat.reduceEqDiff, Nat.reduceAdd, Nat.reduceLeDiff]
theorem o_isName {d : Nat} {h : qH} (e : hI h 44 9 = 5) : ∀ Q, WM d mX9_isName [.ref (44 : Nat)] h Q = Q (some (some (.int 0))) h := by
  intro Q
  simp (implicitDefEqProofs := false) only [eX9_isName, rX9_isName_0, rX9_isName_0b, rX9_isName_1, rX9_isName_4, rX9_isName_5, rX9_isName_8, rX9_isName_8b, rX9_isName_9, rX9_isName_11, rX9_isName_14, rX9_isName_17, rX9_isName_17b, rX9_isName_18, rX9_isName_20, rX9_isName_23, rX9_isName_26, rX9_isName_26b, rX9_isName_27, rX9_isName_29, rX9_isName_32, rX9_isName_35, rX9_isName_35b, rX9_isName_36, rX9_isName_38, rX9_isName_41, rX9_isName_44, rX9_isName_44b, rX9_isName_45, rX9_isName_47, rX9_isName_50, rX9_isName_53, rX9_isName_54, kA_44, kB_44, e, show ¬ (5 : Int32) = 2 from by decide, pCX9_isName, pSX9_isName, pOX9_isName, pLX9_isName, kl_I, kl_J, kl_R, kl_T, kl_N, Nat.le_refl, Nat.zero_le, List.map_nil, List.map_cons, List.sum_nil, List.sum_cons, c_I, c_J, c_R, c_T, va_rf, hI_wI, hJ_wJ, hR_wR, hI_J, hI_R, hJ_I, hJ_R, hR_I, hR_J, hN_I, hN_J, hN_R, wI_I, wJ_J, upd_at, updL_at, kR_s, Option.toList, List.append_nil, List.nil_append, List.cons_append, if_true, if_false, reduceIte, Bool.false_eq_true, not_true_eq_false, not_false_eq_true, true_and, and_true, false_and, and_false, true_or, or_true,  Nat.reduceEqDiff, Nat.reduceAdd, Nat.reduceLeDiff]
theorem o_eats {d : Nat} {h : qH} (e : hI h 44 9 = 5) : ∀ Q, WM d mX9_eatsSemicolon [.ref (44 : Nat)] h Q = Q (some (some (.int 0))) h := by
  intro Q
  simp (implicitDefEqProofs := false) only [eX9_eatsSemicolon, rX9_eatsSemicolon_0, rX9_eatsSemicolon_0b, rX9_eatsSemicolon_1, rX9_eatsSemicolon_4, rX9_eatsSemicolon_5, rX9_eatsSemicolon_8, rX9_eatsSemicolon_9, rX9_eatsSemicolon_12, rX9_eatsSemicolon_13, rX9_eatsSemicolon_14, rX9_eatsSemicolon_15, rX9_eatsSemicolon_18, rX9_eatsSemicolon_18b, rX9_eatsSemicolon_19, rX9_eatsSemicolon_22, rX9_eatsSemicolon_23, kA_44, kB_44, e, show ¬ (5 : Int32) = 4 from by decide, pCX9_eatsSemicolon, pSX9_eatsSemicolon, pOX9_eatsSemicolon, pLX9_eatsSemicolon, kl_I, kl_J, kl_R, kl_T, kl_N, Nat.le_refl, Nat.zero_le, List.map_nil, List.map_cons, List.sum_nil, List.sum_cons, c_I, c_J, c_R, c_T, va_rf, hI_wI, hJ_wJ, hR_wR, hI_J, hI_R, hJ_I, hJ_R, hR_I, hR_J, hN_I, hN_J, hN_R, wI_I, wJ_J, upd_at, updL_at, kR_s, Option.toList, List.append_nil, List.nil_append, List.cons_append, if_true, if_false, reduceIte, Bool.false_eq_true, not_true_eq_false, not_false_eq_true, true_and, and_true, false_and, and_false, true_or, or_true,  Nat.reduceEqDiff, Nat.reduceAdd, Nat.reduceLeDiff]
/-- a word among the names -/
def fdW (f : Nat → Int64) (w : Int64) : Nat → Nat → Option Nat
  | 0, _ => none
  | k + 1, i => if f i = w then some i else fdW f w k (i + 1)
theorem fdW_b {f : Nat → Int64} {w : Int64} : ∀ {k i j : Nat}, fdW f w k i = some j → i ≤ j ∧ j < i + k
  | 0, i, j, h => by cases h
  | k + 1, i, j, h => by
    rw [fdW] at h
    split at h
    · simp only [Option.some.injEq] at h; omega
    · have := fdW_b h; omega
theorem lg_eq {x y : Int64} : (lg_cmp x y = 0) = (x = y) := by
  unfold lg_cmp
  apply propext
  by_cases c : x > y
  · rw [if_pos c]
    constructor
    · intro q; exact absurd q (by decide)
    · intro q; subst q; exact absurd c (Int64.lt_irrefl)
  · rw [if_neg c]
    by_cases c2 : x = y
    · rw [if_pos c2]; simp [c2]
    · rw [if_neg c2]
      constructor
      · intro q; exact absurd q (by decide)
      · intro q; exact absurd q c2
theorem l_find {d : Nat} {h : qH} {s : Nat} {st : PS} {w : Int64} (r : mRd h s st) {Q : Option (Option Value) → qH → Prop} : ∀ (k i : Nat), i + k = aN st.1 → WP d mX8_find (0, 0) 2 [some (.ref s), some (.long w), none, some (.int (nI i))] [] h Q = Q (some (some (.int (mI (fdW (hJ h (s + 12)) w k i))))) h := by
  have hs := r.1
  have f := r.2.1
  have h6 := r.2.2.1.1
  have e1 := r.2.2.2.1.2.1
  intro k
  induction k with
  | zero =>
    intro i hi
    obtain rfl : i = aN st.1 := by omega
    simp (implicitDefEqProofs := false) only [rX8_find_2, rX8_find_3, rX8_find_3b, rX8_find_4, rX8_find_7, rX8_find_10, rX8_find_10b, rX8_find_11, rX8_find_14, rX8_find_15, rX8_find_16, rX8_find_17, rX8_find_18, rX8_find_21, rX8_find_22, rX8_find_29, rX8_find_30, kU0 hs, e1, Int32.le_refl, fdW, mI_no, pCX8_find, pSX8_find, pOX8_find, pLX8_find, kl_I, kl_J, kl_R, kl_T, kl_N, Nat.le_refl, Nat.zero_le, List.map_nil, List.map_cons, List.sum_nil, List.sum_cons, c_I, c_J, c_R, c_T, va_rf, hI_wI, hJ_wJ, hR_wR, hI_J, hI_R, hJ_I, hJ_R, hR_I, hR_J, hN_I, hN_J, hN_R, wI_I, wJ_J, upd_at, updL_at, kR_s, Option.toList, List.append_nil, List.nil_append, List.cons_append, if_true, if_false, reduceIte, Bool.false_eq_true, not_true_eq_false, not_false_eq_true, true_and, and_true, false_and, and_false, true_or, or_true,  Nat.reduceEqDiff, Nat.reduceAdd, Nat.reduceLeDiff]
  | succ k ih =>
    intro i hi
    have g1 : ¬ nI (aN st.1) ≤ nI i := nI_ge (by omega) (by omega)
    have v6 : vp_in (nI i) 6 := nI_vp (by omega) (by decide)
    have cl : (nI i).toNatClampNeg = i := nI_cl (by omega)
    have i1 := ih (i + 1) (by omega)
    rw [fdW]
    by_cases c : hJ h (s + 12) i = w
    · rw [if_pos c, mI_so]
      simp (implicitDefEqProofs := false) only [rX8_find_2, rX8_find_3, rX8_find_3b, rX8_find_4, rX8_find_7, rX8_find_10, rX8_find_10b, rX8_find_11, rX8_find_14, rX8_find_15, rX8_find_16, rX8_find_17, rX8_find_18, rX8_find_21, rX8_find_22, kU0 hs, kU1 hs, kV1 hs, fU1 f, kU2 hs, kV2 hs, fU2 f, kU3 hs, kV3 hs, fU3 f, kU4 hs, kV4 hs, fU4 f, kU5 hs, kV5 hs, fU5 f, kU6 hs, kV6 hs, fU6 f, kU7 hs, kV7 hs, fU7 f, kU8 hs, kV8 hs, fU8 f, kU9 hs, kV9 hs, fU9 f, kU10 hs, kV10 hs, fU10 f, kU11 hs, kV11 hs, fU11 f, kU12 hs, kV12 hs, fU12 f, nU hs, nUk hs, e1, g1, v6, cl, lg_eq, c, pCX8_find, pSX8_find, pOX8_find, pLX8_find, kl_I, kl_J, kl_R, kl_T, kl_N, Nat.le_refl, Nat.zero_le, List.map_nil, List.map_cons, List.sum_nil, List.sum_cons, c_I, c_J, c_R, c_T, va_rf, hI_wI, hJ_wJ, hR_wR, hI_J, hI_R, hJ_I, hJ_R, hR_I, hR_J, hN_I, hN_J, hN_R, wI_I, wJ_J, upd_at, updL_at, kR_s, Option.toList, List.append_nil, List.nil_append, List.cons_append, if_true, if_false, reduceIte, Bool.false_eq_true, not_true_eq_false, not_false_eq_true, true_and, and_true, false_and, and_false, true_or, or_true,  Nat.reduceEqDiff, Nat.reduceAdd, Nat.reduceLeDiff]
    · rw [if_neg c]
      simp (implicitDefEqProofs := false) only [rX8_find_2, rX8_find_3, rX8_find_3b, rX8_find_4, rX8_find_7, rX8_find_10, rX8_find_10b, rX8_find_11, rX8_find_14, rX8_find_15, rX8_find_16, rX8_find_17, rX8_find_18, rX8_find_21, rX8_find_22, kU0 hs, kU1 hs, kV1 hs, fU1 f, kU2 hs, kV2 hs, fU2 f, kU3 hs, kV3 hs, fU3 f, kU4 hs, kV4 hs, fU4 f, kU5 hs, kV5 hs, fU5 f, kU6 hs, kV6 hs, fU6 f, kU7 hs, kV7 hs, fU7 f, kU8 hs, kV8 hs, fU8 f, kU9 hs, kV9 hs, fU9 f, kU10 hs, kV10 hs, fU10 f, kU11 hs, kV11 hs, fU11 f, kU12 hs, kV12 hs, fU12 f, nU hs, nUk hs, e1, g1, v6, cl, lg_eq, c, pCX8_find, pSX8_find, pOX8_find, pLX8_find, kl_I, kl_J, kl_R, kl_T, kl_N, Nat.le_refl, Nat.zero_le, List.map_nil, List.map_cons, List.sum_nil, List.sum_cons, c_I, c_J, c_R, c_T, va_rf, hI_wI, hJ_wJ, hR_wR, hI_J, hI_R, hJ_I, hJ_R, hR_I, hR_J, hN_I, hN_J, hN_R, wI_I, wJ_J, upd_at, updL_at, kR_s, Option.toList, List.append_nil, List.nil_append, List.cons_append, if_true, if_false, reduceIte, Bool.false_eq_true, not_true_eq_false, not_false_eq_true, true_and, and_true, false_and, and_false, true_or, or_true,  Nat.reduceEqDiff, Nat.reduceAdd, Nat.reduceLeDiff]
      rw [rX8_find_23, nI_1]
      simp (implicitDefEqProofs := false) only [rX8_find_26, kl_I, kl_J, kl_R, kl_T, kl_N, Nat.le_refl, Nat.zero_le, List.map_nil, List.map_cons, List.sum_nil, List.sum_cons, c_I, c_J, c_R, c_T, va_rf, hI_wI, hJ_wJ, hR_wR, hI_J, hI_R, hJ_I, hJ_R, hR_I, hR_J, hN_I, hN_J, hN_R, wI_I, wJ_J, upd_at, updL_at, kR_s, Option.toList, List.append_nil, List.nil_append, List.cons_append, if_true, if_false, reduceIte, Bool.false_eq_true, not_true_eq_false, not_false_eq_true, true_and, and_true, false_and, and_false, true_or, or_true,  Nat.reduceEqDiff, Nat.reduceAdd, Nat.reduceLeDiff]
      exact i1
theorem c_find {d : Nat} {h : qH} {s : Nat} {st : PS} {w : Int64} (r : mRd h s st) : ∀ Q, WM d mX8_find [.ref s, .long w] h Q = Q (some (some (.int (mI (fdW (hJ h (s + 12)) w (aN st.1) 0))))) h := by
  intro Q
  simp (implicitDefEqProofs := false) only [eX8_find, rX8_find_0, rX8_find_1, pCX8_find, pSX8_find, pOX8_find, pLX8_find, kl_I, kl_J, kl_R, kl_T, kl_N, Nat.le_refl, Nat.zero_le, List.map_nil, List.map_cons, List.sum_nil, List.sum_cons, c_I, c_J, c_R, c_T, va_rf, hI_wI, hJ_wJ, hR_wR, hI_J, hI_R, hJ_I, hJ_R, hR_I, hR_J, hN_I, hN_J, hN_R, wI_I, wJ_J, upd_at, updL_at, kR_s, Option.toList, List.append_nil, List.nil_append, List.cons_append, if_true, if_false, reduceIte, Bool.false_eq_true, not_true_eq_false, not_false_eq_true, true_and, and_true, false_and, and_false, true_or, or_true,  Nat.reduceEqDiff, Nat.reduceAdd, Nat.reduceLeDiff]
  exact l_find r (aN st.1) 0 (by omega)
theorem fdW_e {h : qH} {s : Nat} {st : PS} {v : Nat} (r : mRd h s st) (hv : v < 2 ^ 40) : fdW (hJ h (s + 12)) (lN v) (aN st.1) 0 = fd st v := by
  have key : ∀ k i, i + k = aN st.1 → fdW (hJ h (s + 12)) (lN v) k i = fdL st.2.1 v k i := by
    intro k
    induction k with
    | zero => intro i _; rfl
    | succ k ih =>
      intro i hi
      obtain ⟨n1, n2⟩ := r.2.2.2.2.2.2.2.2.2.1 i (by omega)
      rw [fdW, fdL, ih (i + 1) (by omega), n1]
      by_cases c : st.2.1 i = v
      · rw [if_pos c, if_pos (by rw [c])]
      · rw [if_neg c, if_neg (fun q => c ((pk_lEQ (by omega) (by omega)).mp q))]
  exact key (aN st.1) 0 (by omega)
theorem o_house {d : Nat} {h : qH} {s : Nat} {st : PS} (r4 : hR h 44 4 = some s) (r : mRd h s st) (e : hI h 44 9 = 5) : ∀ Q, WM (d + 1) mX9_houseAtHand [.ref (44 : Nat)] h Q = Q (some (some (.int 0))) h := by
  intro Q
  have hs := r.1
  have h6 := r.2.2.1.1
  have fi := c_find (d := d) (w := hJ h 44 14) r
  have q1 := mI_1 (x := fdW (hJ h (s + 12)) (hJ h 44 14) (aN st.1) 0) (fun y hy => by have := fdW_b hy; omega)
  by_cases c : fdW (hJ h (s + 12)) (hJ h 44 14) (aN st.1) 0 = none
  · rw [c, mI_no] at fi
    simp (implicitDefEqProofs := false) only [eX9_houseAtHand, rX9_houseAtHand_0, rX9_houseAtHand_0b, rX9_houseAtHand_1, rX9_houseAtHand_4, rX9_houseAtHand_7, rX9_houseAtHand_7b, rX9_houseAtHand_8, rX9_houseAtHand_9, rX9_houseAtHand_12, rX9_houseAtHand_12b, rX9_houseAtHand_13, rX9_houseAtHand_16, rX9_houseAtHand_16b, rX9_houseAtHand_17, rX9_houseAtHand_20, rX9_houseAtHand_23, rX9_houseAtHand_24, rX9_houseAtHand_25, rX9_houseAtHand_26, rX9_houseAtHand_29, rX9_houseAtHand_29b, rX9_houseAtHand_30, rX9_houseAtHand_31, rX9_houseAtHand_34, rX9_houseAtHand_34b, rX9_houseAtHand_35, rX9_houseAtHand_38, rX9_houseAtHand_39, rX9_houseAtHand_42, rX9_houseAtHand_43, rX9_houseAtHand_46, rX9_houseAtHand_47, kA_44, kB_44, kU0 hs, r4, o_isName (d := d) e, o_flaw (d := d) (v := 1) e, o_flaw (d := d) (v := 2) e, fi, e, pCX9_houseAtHand, pSX9_houseAtHand, pOX9_houseAtHand, pLX9_houseAtHand, pCX9_isName, pSX9_isName, pOX9_isName, pLX9_isName, pCX9_flaw, pSX9_flaw, pOX9_flaw, pLX9_flaw, pCX8_find, pSX8_find, pOX8_find, pLX8_find, kl_I, kl_J, kl_R, kl_T, kl_N, Nat.le_refl, Nat.zero_le, List.map_nil, List.map_cons, List.sum_nil, List.sum_cons, c_I, c_J, c_R, c_T, va_rf, hI_wI, hJ_wJ, hR_wR, hI_J, hI_R, hJ_I, hJ_R, hR_I, hR_J, hN_I, hN_J, hN_R, wI_I, wJ_J, upd_at, updL_at, kR_s, Option.toList, List.append_nil, List.nil_append, List.cons_append, if_true, if_false, reduceIte, Bool.false_eq_true, not_true_eq_false, not_false_eq_true, true_and, and_true, false_and, and_false, true_or, or_true,  Nat.reduceEqDiff, Nat.reduceAdd, Nat.reduceLeDiff]
  · simp (implicitDefEqProofs := false) only [eX9_houseAtHand, rX9_houseAtHand_0, rX9_houseAtHand_0b, rX9_houseAtHand_1, rX9_houseAtHand_4, rX9_houseAtHand_7, rX9_houseAtHand_7b, rX9_houseAtHand_8, rX9_houseAtHand_9, rX9_houseAtHand_12, rX9_houseAtHand_12b, rX9_houseAtHand_13, rX9_houseAtHand_16, rX9_houseAtHand_16b, rX9_houseAtHand_17, rX9_houseAtHand_20, rX9_houseAtHand_23, rX9_houseAtHand_24, rX9_houseAtHand_25, rX9_houseAtHand_26, rX9_houseAtHand_29, rX9_houseAtHand_29b, rX9_houseAtHand_30, rX9_houseAtHand_31, rX9_houseAtHand_34, rX9_houseAtHand_34b, rX9_houseAtHand_35, rX9_houseAtHand_38, rX9_houseAtHand_39, rX9_houseAtHand_42, rX9_houseAtHand_43, rX9_houseAtHand_46, rX9_houseAtHand_47, kA_44, kB_44, kU0 hs, r4, o_isName (d := d) e, o_flaw (d := d) (v := 1) e, fi, q1, c, e, pCX9_houseAtHand, pSX9_houseAtHand, pOX9_houseAtHand, pLX9_houseAtHand, pCX9_isName, pSX9_isName, pOX9_isName, pLX9_isName, pCX9_flaw, pSX9_flaw, pOX9_flaw, pLX9_flaw, pCX8_find, pSX8_find, pOX8_find, pLX8_find, kl_I, kl_J, kl_R, kl_T, kl_N, Nat.le_refl, Nat.zero_le, List.map_nil, List.map_cons, List.sum_nil, List.sum_cons, c_I, c_J, c_R, c_T, va_rf, hI_wI, hJ_wJ, hR_wR, hI_J, hI_R, hJ_I, hJ_R, hR_I, hR_J, hN_I, hN_J, hN_R, wI_I, wJ_J, upd_at, updL_at, kR_s, Option.toList, List.append_nil, List.nil_append, List.cons_append, if_true, if_false, reduceIte, Bool.false_eq_true, not_true_eq_false, not_false_eq_true, true_and, and_true, false_and, and_false, true_or, or_true,  Nat.reduceEqDiff, Nat.reduceAdd, Nat.reduceLeDiff]
theorem o_houseName {d : Nat} {h : qH} {s : Nat} {st : PS} (r4 : hR h 44 4 = some s) (r : mRd h s st) (e : hI h 44 9 = 5) : ∀ Q, WM (d + 2) mX9_readHouseName [.ref (44 : Nat)] h Q = Q (some (some (.int 0))) h := by
  intro Q
  simp (implicitDefEqProofs := false) only [eX9_readHouseName, rX9_readHouseName_0, rX9_readHouseName_0b, rX9_readHouseName_1, rX9_readHouseName_4, rX9_readHouseName_5, rX9_readHouseName_5b, rX9_readHouseName_6, rX9_readHouseName_9, rX9_readHouseName_10, kA_44, kB_44, o_house (d := d) r4 r e, o_goesOn (d := d + 1) e, pCX9_readHouseName, pSX9_readHouseName, pOX9_readHouseName, pLX9_readHouseName, pCX9_houseAtHand, pSX9_houseAtHand, pOX9_houseAtHand, pLX9_houseAtHand, pCX9_goesOn, pSX9_goesOn, pOX9_goesOn, pLX9_goesOn, kl_I, kl_J, kl_R, kl_T, kl_N, Nat.le_refl, Nat.zero_le, List.map_nil, List.map_cons, List.sum_nil, List.sum_cons, c_I, c_J, c_R, c_T, va_rf, hI_wI, hJ_wJ, hR_wR, hI_J, hI_R, hJ_I, hJ_R, hR_I, hR_J, hN_I, hN_J, hN_R, wI_I, wJ_J, upd_at, updL_at, kR_s, Option.toList, List.append_nil, List.nil_append, List.cons_append, if_true, if_false, reduceIte, Bool.false_eq_true, not_true_eq_false, not_false_eq_true, true_and, and_true, false_and, and_false, true_or, or_true,  Nat.reduceEqDiff, Nat.reduceAdd, Nat.reduceLeDiff]
theorem c_needs {d : Nat} {h : qH} {s n : Nat} {tb : Nat → Int32} {st : PS} {t : tK} (j : Nat) (r : RM h s n tb st t) (hj : j < 21) : ∃ h', (∀ Q, WM (d + 6) mX9_needs [.ref (44 : Nat), .retAddr j] h Q = Q (some none) h') ∧ rg9 s h h' ∧ match tW (bB tb) n j t with
    | .inr t1 => RM h' s n tb st t1
    | .inl e => RO h' s st e := by
  have iw := c_mw (d := d) j r hj
  unfold tW
  cases hw : isW (bB tb) t j with
  | true =>
    rw [hw, bI_t] at iw
    have t1 : t.1 = 1 := by have := hw; unfold isW at this; exact (of_decide_eq_true this).1
    obtain ⟨h', e, x, r'⟩ := c_st9 (d := d + 4) r (by omega)
    refine ⟨h', fun Q => ?_, x, r'⟩
    simp (implicitDefEqProofs := false) only [eX9_needs, rX9_needs_0, rX9_needs_0b, rX9_needs_1, rX9_needs_1b, rX9_needs_2, rX9_needs_5, rX9_needs_8, rX9_needs_8b, rX9_needs_9, rX9_needs_10, rX9_needs_13, rX9_needs_13b, rX9_needs_14, rX9_needs_17, kA_44, kB_44, show j < 2000 from by omega,  iw, show ¬ (1 : Int32) = 0 from by decide, e, pCX9_needs, pSX9_needs, pOX9_needs, pLX9_needs, pCX9_isWord, pSX9_isWord, pOX9_isWord, pLX9_isWord, pCX9_goesOn, pSX9_goesOn, pOX9_goesOn, pLX9_goesOn, kl_I, kl_J, kl_R, kl_T, kl_N, Nat.le_refl, Nat.zero_le, List.map_nil, List.map_cons, List.sum_nil, List.sum_cons, c_I, c_J, c_R, c_T, va_rf, hI_wI, hJ_wJ, hR_wR, hI_J, hI_R, hJ_I, hJ_R, hR_I, hR_J, hN_I, hN_J, hN_R, wI_I, wJ_J, upd_at, updL_at, kR_s, Option.toList, List.append_nil, List.nil_append, List.cons_append, if_true, if_false, reduceIte, Bool.false_eq_true, not_true_eq_false, not_false_eq_true, true_and, and_true, false_and, and_false, true_or, or_true,  Nat.reduceEqDiff, Nat.reduceAdd, Nat.reduceLeDiff]
  | false =>
    rw [hw, bI_f] at iw
    have fl := c_fl9 (d := d + 5) (v := 1) (RM_9 r)
    have o := RO_fl 1 r
    refine ⟨flH h 1, fun Q => ?_, fl_rg, o⟩
    have go := o_goesOn (d := d + 5) o.2.2.2.1
    simp (implicitDefEqProofs := false) only [eX9_needs, rX9_needs_0, rX9_needs_0b, rX9_needs_1, rX9_needs_1b, rX9_needs_2, rX9_needs_5, rX9_needs_8, rX9_needs_8b, rX9_needs_9, rX9_needs_10, rX9_needs_13, rX9_needs_13b, rX9_needs_14, rX9_needs_17, kA_44, kB_44, show j < 2000 from by omega,  iw, fl, show flH h 1 = flH h (nI 1) from rfl, go, pCX9_needs, pSX9_needs, pOX9_needs, pLX9_needs, pCX9_isWord, pSX9_isWord, pOX9_isWord, pLX9_isWord, pCX9_flaw, pSX9_flaw, pOX9_flaw, pLX9_flaw, pCX9_goesOn, pSX9_goesOn, pOX9_goesOn, pLX9_goesOn, kl_I, kl_J, kl_R, kl_T, kl_N, Nat.le_refl, Nat.zero_le, List.map_nil, List.map_cons, List.sum_nil, List.sum_cons, c_I, c_J, c_R, c_T, va_rf, hI_wI, hJ_wJ, hR_wR, hI_J, hI_R, hJ_I, hJ_R, hR_I, hR_J, hN_I, hN_J, hN_R, wI_I, wJ_J, upd_at, updL_at, kR_s, Option.toList, List.append_nil, List.nil_append, List.cons_append, if_true, if_false, reduceIte, Bool.false_eq_true, not_true_eq_false, not_false_eq_true, true_and, and_true, false_and, and_false, true_or, or_true,  Nat.reduceEqDiff, Nat.reduceAdd, Nat.reduceLeDiff]
theorem c_readWhole {d : Nat} {h : qH} {s n : Nat} {tb : Nat → Int32} {st : PS} {t : tK} (lo hi : Nat) (r : RM h s n tb st t) (hlo : lo < 2 ^ 31) (hhi : hi < 2 ^ 31) : match tN (bB tb) n lo hi t with
    | .inr p => ∃ h', (∀ Q, WM (d + 2) mX9_readWhole [.ref (44 : Nat), .int (nI lo), .int (nI hi)] h Q = Q (some (some (.int (nI p.1)))) h') ∧ rg9 s h h' ∧ RM h' s n tb st p.2
    | .inl e => ∃ h', (∀ Q, WM (d + 2) mX9_readWhole [.ref (44 : Nat), .int (nI lo), .int (nI hi)] h Q = Q (some (some (.int (nI lo)))) h') ∧ rg9 s h h' ∧ RO h' s st e := by
  have r9 := r.2.2.2.1.2.1
  have q3 : (hI h 44 9 = 3) = (t.1 = 2) := by rw [r9]; exact srt_3
  have n5 := RM_9 r
  unfold tN
  by_cases c : t.1 = 2
  · rw [if_pos c]
    have ev := r.2.2.2.1.2.2.2.2 c
    have lv := nV_lt r.2.2.2.2.1 c
    have ci := c_in (d := d + 1) (h := h) (v := nI (nV (bB tb) t)) (lo := nI lo) (hi := nI hi)
    have qi : (¬ (nI (nV (bB tb) t) < nI lo ∨ nI hi < nI (nV (bB tb) t))) = (lo ≤ nV (bB tb) t ∧ nV (bB tb) t ≤ hi) := by
      rw [propext (nI_ltI (a := nV (bB tb) t) (b := lo) (by omega) hlo), propext (nI_ltI (a := hi) (b := nV (bB tb) t) hhi (by omega))]
      apply propext
      omega
    simp only [qi] at ci
    by_cases c2 : lo ≤ nV (bB tb) t ∧ nV (bB tb) t ≤ hi
    · rw [if_pos c2]
      rw [decide_eq_true c2, bI_t] at ci
      obtain ⟨h', e, x, r'⟩ := c_st9 (d := d) r (by omega)
      refine ⟨h', fun Q => ?_, x, r'⟩
      simp (implicitDefEqProofs := false) only [eX9_readWhole, rX9_readWhole_0, rX9_readWhole_0b, rX9_readWhole_1, rX9_readWhole_4, rX9_readWhole_5, rX9_readWhole_8, rX9_readWhole_8b, rX9_readWhole_9, rX9_readWhole_10, rX9_readWhole_13, rX9_readWhole_16, rX9_readWhole_16b, rX9_readWhole_17, rX9_readWhole_20, rX9_readWhole_21, rX9_readWhole_22, rX9_readWhole_25, rX9_readWhole_28, rX9_readWhole_28b, rX9_readWhole_29, rX9_readWhole_30, rX9_readWhole_33, rX9_readWhole_33b, rX9_readWhole_34, rX9_readWhole_37, rX9_readWhole_38, rX9_readWhole_41, rX9_readWhole_42, rX9_readWhole_45, rX9_readWhole_45b, rX9_readWhole_46, rX9_readWhole_49, rX9_readWhole_50, rX9_readWhole_50b, rX9_readWhole_51, rX9_readWhole_54, rX9_readWhole_55, kA_44, kB_44, q3, c, ev, ci, show ¬ (1 : Int32) = 0 from by decide, n5, e, pCX9_readWhole, pSX9_readWhole, pOX9_readWhole, pLX9_readWhole, pCX9_in, pSX9_in, pOX9_in, pLX9_in, pCX9_goesOn, pSX9_goesOn, pOX9_goesOn, pLX9_goesOn, kl_I, kl_J, kl_R, kl_T, kl_N, Nat.le_refl, Nat.zero_le, List.map_nil, List.map_cons, List.sum_nil, List.sum_cons, c_I, c_J, c_R, c_T, va_rf, hI_wI, hJ_wJ, hR_wR, hI_J, hI_R, hJ_I, hJ_R, hR_I, hR_J, hN_I, hN_J, hN_R, wI_I, wJ_J, upd_at, updL_at, kR_s, Option.toList, List.append_nil, List.nil_append, List.cons_append, if_true, if_false, reduceIte, Bool.false_eq_true, not_true_eq_false, not_false_eq_true, true_and, and_true, false_and, and_false, true_or, or_true,  Nat.reduceEqDiff, Nat.reduceAdd, Nat.reduceLeDiff]
    · rw [if_neg c2]
      rw [decide_eq_false c2, bI_f] at ci
      have fl := c_fl9 (d := d + 1) (v := 4) n5
      have o := RO_fl 4 r
      have e5 : hI (flH h 4) 44 9 = 5 := o.2.2.2.1
      have go := o_goesOn (d := d + 1) e5
      refine ⟨flH h 4, fun Q => ?_, fl_rg, o⟩
      simp (implicitDefEqProofs := false) only [eX9_readWhole, rX9_readWhole_0, rX9_readWhole_0b, rX9_readWhole_1, rX9_readWhole_4, rX9_readWhole_5, rX9_readWhole_8, rX9_readWhole_8b, rX9_readWhole_9, rX9_readWhole_10, rX9_readWhole_13, rX9_readWhole_16, rX9_readWhole_16b, rX9_readWhole_17, rX9_readWhole_20, rX9_readWhole_21, rX9_readWhole_22, rX9_readWhole_25, rX9_readWhole_28, rX9_readWhole_28b, rX9_readWhole_29, rX9_readWhole_30, rX9_readWhole_33, rX9_readWhole_33b, rX9_readWhole_34, rX9_readWhole_37, rX9_readWhole_38, rX9_readWhole_41, rX9_readWhole_42, rX9_readWhole_45, rX9_readWhole_45b, rX9_readWhole_46, rX9_readWhole_49, rX9_readWhole_50, rX9_readWhole_50b, rX9_readWhole_51, rX9_readWhole_54, rX9_readWhole_55, kA_44, kB_44, q3, c, ev, ci, fl, e5, go, pCX9_readWhole, pSX9_readWhole, pOX9_readWhole, pLX9_readWhole, pCX9_in, pSX9_in, pOX9_in, pLX9_in, pCX9_flaw, pSX9_flaw, pOX9_flaw, pLX9_flaw, pCX9_goesOn, pSX9_goesOn, pOX9_goesOn, pLX9_goesOn, kl_I, kl_J, kl_R, kl_T, kl_N, Nat.le_refl, Nat.zero_le, List.map_nil, List.map_cons, List.sum_nil, List.sum_cons, c_I, c_J, c_R, c_T, va_rf, hI_wI, hJ_wJ, hR_wR, hI_J, hI_R, hJ_I, hJ_R, hR_I, hR_J, hN_I, hN_J, hN_R, wI_I, wJ_J, upd_at, updL_at, kR_s, Option.toList, List.append_nil, List.nil_append, List.cons_append, if_true, if_false, reduceIte, Bool.false_eq_true, not_true_eq_false, not_false_eq_true, true_and, and_true, false_and, and_false, true_or, or_true,  Nat.reduceEqDiff, Nat.reduceAdd, Nat.reduceLeDiff]
  · rw [if_neg c]
    have fl := c_fl9 (d := d + 1) (v := 1) n5
    have o := RO_fl 1 r
    have e5 : hI (flH h 1) 44 9 = 5 := o.2.2.2.1
    have go := o_goesOn (d := d + 1) e5
    refine ⟨flH h 1, fun Q => ?_, fl_rg, o⟩
    simp (implicitDefEqProofs := false) only [eX9_readWhole, rX9_readWhole_0, rX9_readWhole_0b, rX9_readWhole_1, rX9_readWhole_4, rX9_readWhole_5, rX9_readWhole_8, rX9_readWhole_8b, rX9_readWhole_9, rX9_readWhole_10, rX9_readWhole_13, rX9_readWhole_16, rX9_readWhole_16b, rX9_readWhole_17, rX9_readWhole_20, rX9_readWhole_21, rX9_readWhole_22, rX9_readWhole_25, rX9_readWhole_28, rX9_readWhole_28b, rX9_readWhole_29, rX9_readWhole_30, rX9_readWhole_33, rX9_readWhole_33b, rX9_readWhole_34, rX9_readWhole_37, rX9_readWhole_38, rX9_readWhole_41, rX9_readWhole_42, rX9_readWhole_45, rX9_readWhole_45b, rX9_readWhole_46, rX9_readWhole_49, rX9_readWhole_50, rX9_readWhole_50b, rX9_readWhole_51, rX9_readWhole_54, rX9_readWhole_55, kA_44, kB_44, q3, c, fl, e5, go, pCX9_readWhole, pSX9_readWhole, pOX9_readWhole, pLX9_readWhole, pCX9_flaw, pSX9_flaw, pOX9_flaw, pLX9_flaw, pCX9_goesOn, pSX9_goesOn, pOX9_goesOn, pLX9_goesOn, kl_I, kl_J, kl_R, kl_T, kl_N, Nat.le_refl, Nat.zero_le, List.map_nil, List.map_cons, List.sum_nil, List.sum_cons, c_I, c_J, c_R, c_T, va_rf, hI_wI, hJ_wJ, hR_wR, hI_J, hI_R, hJ_I, hJ_R, hR_I, hR_J, hN_I, hN_J, hN_R, wI_I, wJ_J, upd_at, updL_at, kR_s, Option.toList, List.append_nil, List.nil_append, List.cons_append, if_true, if_false, reduceIte, Bool.false_eq_true, not_true_eq_false, not_false_eq_true, true_and, and_true, false_and, and_false, true_or, or_true,  Nat.reduceEqDiff, Nat.reduceAdd, Nat.reduceLeDiff]
theorem c_readPart {d : Nat} {h : qH} {s n : Nat} {tb : Nat → Int32} {st : PS} {t : tK} (j lo hi : Nat) (r : RM h s n tb st t) (hj : j < 21) (hlo : lo < 2 ^ 31) (hhi : hi < 2 ^ 31) : match bd (tW (bB tb) n j t) (fun t1 => tN (bB tb) n lo hi t1) with
    | .inr p => ∃ h', (∀ Q, WM (d + 7) mX9_readPart [.ref (44 : Nat), .retAddr j, .int (nI lo), .int (nI hi)] h Q = Q (some (some (.int (nI p.1)))) h') ∧ rg9 s h h' ∧ RM h' s n tb st p.2
    | .inl e => ∃ h', (∀ Q, WM (d + 7) mX9_readPart [.ref (44 : Nat), .retAddr j, .int (nI lo), .int (nI hi)] h Q = Q (some (some (.int (nI lo)))) h') ∧ rg9 s h h' ∧ RO h' s st e := by
  obtain ⟨h1, e1, x1, q1⟩ := c_needs (d := d) j r hj
  cases hw : tW (bB tb) n j t with
  | inl e =>
    rw [hw] at q1
    have rw' := o_readWhole (d := d + 5) (lo := nI lo) (hi := nI hi) q1.2.2.2.1
    refine ⟨h1, fun Q => ?_, x1, q1⟩
    simp (implicitDefEqProofs := false) only [eX9_readPart, rX9_readPart_0, rX9_readPart_0b, rX9_readPart_1, rX9_readPart_1b, rX9_readPart_2, rX9_readPart_5, rX9_readPart_5b, rX9_readPart_6, rX9_readPart_7, rX9_readPart_8, rX9_readPart_11, kA_44, kB_44, show j < 2000 from by omega,  e1, rw', pCX9_readPart, pSX9_readPart, pOX9_readPart, pLX9_readPart, pCX9_needs, pSX9_needs, pOX9_needs, pLX9_needs, pCX9_readWhole, pSX9_readWhole, pOX9_readWhole, pLX9_readWhole, kl_I, kl_J, kl_R, kl_T, kl_N, Nat.le_refl, Nat.zero_le, List.map_nil, List.map_cons, List.sum_nil, List.sum_cons, c_I, c_J, c_R, c_T, va_rf, hI_wI, hJ_wJ, hR_wR, hI_J, hI_R, hJ_I, hJ_R, hR_I, hR_J, hN_I, hN_J, hN_R, wI_I, wJ_J, upd_at, updL_at, kR_s, Option.toList, List.append_nil, List.nil_append, List.cons_append, if_true, if_false, reduceIte, Bool.false_eq_true, not_true_eq_false, not_false_eq_true, true_and, and_true, false_and, and_false, true_or, or_true,  Nat.reduceEqDiff, Nat.reduceAdd, Nat.reduceLeDiff]
  | inr t1 =>
    rw [hw] at q1
    have q2 := c_readWhole (d := d + 4) lo hi q1 hlo hhi
    simp only [bd]
    cases hn : tN (bB tb) n lo hi t1 with
    | inl e =>
      rw [hn] at q2
      obtain ⟨h2, e2, x2, o2⟩ := q2
      refine ⟨h2, fun Q => ?_, rg_tr x1 x2, o2⟩
      simp (implicitDefEqProofs := false) only [eX9_readPart, rX9_readPart_0, rX9_readPart_0b, rX9_readPart_1, rX9_readPart_1b, rX9_readPart_2, rX9_readPart_5, rX9_readPart_5b, rX9_readPart_6, rX9_readPart_7, rX9_readPart_8, rX9_readPart_11, kA_44, kB_44, show j < 2000 from by omega,  e1, e2, pCX9_readPart, pSX9_readPart, pOX9_readPart, pLX9_readPart, pCX9_needs, pSX9_needs, pOX9_needs, pLX9_needs, pCX9_readWhole, pSX9_readWhole, pOX9_readWhole, pLX9_readWhole, kl_I, kl_J, kl_R, kl_T, kl_N, Nat.le_refl, Nat.zero_le, List.map_nil, List.map_cons, List.sum_nil, List.sum_cons, c_I, c_J, c_R, c_T, va_rf, hI_wI, hJ_wJ, hR_wR, hI_J, hI_R, hJ_I, hJ_R, hR_I, hR_J, hN_I, hN_J, hN_R, wI_I, wJ_J, upd_at, updL_at, kR_s, Option.toList, List.append_nil, List.nil_append, List.cons_append, if_true, if_false, reduceIte, Bool.false_eq_true, not_true_eq_false, not_false_eq_true, true_and, and_true, false_and, and_false, true_or, or_true,  Nat.reduceEqDiff, Nat.reduceAdd, Nat.reduceLeDiff]
    | inr p =>
      rw [hn] at q2
      obtain ⟨h2, e2, x2, o2⟩ := q2
      refine ⟨h2, fun Q => ?_, rg_tr x1 x2, o2⟩
      simp (implicitDefEqProofs := false) only [eX9_readPart, rX9_readPart_0, rX9_readPart_0b, rX9_readPart_1, rX9_readPart_1b, rX9_readPart_2, rX9_readPart_5, rX9_readPart_5b, rX9_readPart_6, rX9_readPart_7, rX9_readPart_8, rX9_readPart_11, kA_44, kB_44, show j < 2000 from by omega,  e1, e2, pCX9_readPart, pSX9_readPart, pOX9_readPart, pLX9_readPart, pCX9_needs, pSX9_needs, pOX9_needs, pLX9_needs, pCX9_readWhole, pSX9_readWhole, pOX9_readWhole, pLX9_readWhole, kl_I, kl_J, kl_R, kl_T, kl_N, Nat.le_refl, Nat.zero_le, List.map_nil, List.map_cons, List.sum_nil, List.sum_cons, c_I, c_J, c_R, c_T, va_rf, hI_wI, hJ_wJ, hR_wR, hI_J, hI_R, hJ_I, hJ_R, hR_I, hR_J, hN_I, hN_J, hN_R, wI_I, wJ_J, upd_at, updL_at, kR_s, Option.toList, List.append_nil, List.nil_append, List.cons_append, if_true, if_false, reduceIte, Bool.false_eq_true, not_true_eq_false, not_false_eq_true, true_and, and_true, false_and, and_false, true_or, or_true,  Nat.reduceEqDiff, Nat.reduceAdd, Nat.reduceLeDiff]
theorem c_isName {d : Nat} {h : qH} {s n : Nat} {tb : Nat → Int32} {st : PS} {t : tK} (r : RM h s n tb st t) : ∀ Q, WM (d + 6) mX9_isName [.ref (44 : Nat)] h Q = Q (some (some (.int (bI (decide (t.1 = 1 ∧ rsv (bB tb) t = none)))))) h := by
  intro Q
  have r9 := r.2.2.2.1.2.1
  have q2 : (hI h 44 9 = 2) = (t.1 = 1) := by rw [r9]; exact srt_2
  by_cases c : t.1 = 1
  · have eq : (t.1 = 1 ∧ rsv (bB tb) t = none) = (rsv (bB tb) t = none) := by simp [c]
    simp only [eq]
    unfold rsv
    have iw := fun j hj => c_mw (d := d) (h := h) j r hj
    have i0 := iw 0 (by decide)
    have i1 := iw 1 (by decide)
    have i2 := iw 2 (by decide)
    have i3 := iw 3 (by decide)
    have i4 := iw 4 (by decide)
    have i5 := iw 5 (by decide)
    have i6 := iw 6 (by decide)
    have i7 := iw 7 (by decide)
    have i8 := iw 8 (by decide)
    rw [rsvL]
    by_cases c0 : isW (bB tb) t 0 = true
    · rw [if_pos c0, decide_eq_false (by simp), bI_f]
      rw [c0, bI_t] at i0
      simp (implicitDefEqProofs := false) only [eX9_isName, rX9_isName_0, rX9_isName_0b, rX9_isName_1, rX9_isName_4, rX9_isName_5, rX9_isName_8, rX9_isName_8b, rX9_isName_9, rX9_isName_11, rX9_isName_14, rX9_isName_17, rX9_isName_17b, rX9_isName_18, rX9_isName_20, rX9_isName_23, rX9_isName_26, rX9_isName_26b, rX9_isName_27, rX9_isName_29, rX9_isName_32, rX9_isName_35, rX9_isName_35b, rX9_isName_36, rX9_isName_38, rX9_isName_41, rX9_isName_44, rX9_isName_44b, rX9_isName_45, rX9_isName_47, rX9_isName_50, rX9_isName_53, rX9_isName_54, rX9_isName_55, rX9_isName_55b, rX9_isName_56, rX9_isName_58, rX9_isName_61, rX9_isName_64, rX9_isName_64b, rX9_isName_65, rX9_isName_67, rX9_isName_70, rX9_isName_73, rX9_isName_73b, rX9_isName_74, rX9_isName_76, rX9_isName_79, rX9_isName_82, rX9_isName_82b, rX9_isName_83, rX9_isName_85, rX9_isName_88, rX9_isName_91, rX9_isName_92, rX9_isName_95, rX9_isName_96, kA_44, kB_44, q2, c, i0, show ¬ (1 : Int32) = 0 from by decide, pCX9_isName, pSX9_isName, pOX9_isName, pLX9_isName, pCX9_isWord, pSX9_isWord, pOX9_isWord, pLX9_isWord, kl_I, kl_J, kl_R, kl_T, kl_N, Nat.le_refl, Nat.zero_le, List.map_nil, List.map_cons, List.sum_nil, List.sum_cons, c_I, c_J, c_R, c_T, va_rf, hI_wI, hJ_wJ, hR_wR, hI_J, hI_R, hJ_I, hJ_R, hR_I, hR_J, hN_I, hN_J, hN_R, wI_I, wJ_J, upd_at, updL_at, kR_s, Option.toList, List.append_nil, List.nil_append, List.cons_append, if_true, if_false, reduceIte, Bool.false_eq_true, not_true_eq_false, not_false_eq_true, true_and, and_true, false_and, and_false, true_or, or_true,  Nat.reduceEqDiff, Nat.reduceAdd, Nat.reduceLeDiff]
    rw [if_neg c0]
    have c0f : isW (bB tb) t 0 = false := by simpa using c0
    rw [c0f, bI_f] at i0
    rw [rsvL]
    by_cases c1 : isW (bB tb) t 1 = true
    · rw [if_pos c1, decide_eq_false (by simp), bI_f]
      rw [c1, bI_t] at i1
      simp (implicitDefEqProofs := false) only [eX9_isName, rX9_isName_0, rX9_isName_0b, rX9_isName_1, rX9_isName_4, rX9_isName_5, rX9_isName_8, rX9_isName_8b, rX9_isName_9, rX9_isName_11, rX9_isName_14, rX9_isName_17, rX9_isName_17b, rX9_isName_18, rX9_isName_20, rX9_isName_23, rX9_isName_26, rX9_isName_26b, rX9_isName_27, rX9_isName_29, rX9_isName_32, rX9_isName_35, rX9_isName_35b, rX9_isName_36, rX9_isName_38, rX9_isName_41, rX9_isName_44, rX9_isName_44b, rX9_isName_45, rX9_isName_47, rX9_isName_50, rX9_isName_53, rX9_isName_54, rX9_isName_55, rX9_isName_55b, rX9_isName_56, rX9_isName_58, rX9_isName_61, rX9_isName_64, rX9_isName_64b, rX9_isName_65, rX9_isName_67, rX9_isName_70, rX9_isName_73, rX9_isName_73b, rX9_isName_74, rX9_isName_76, rX9_isName_79, rX9_isName_82, rX9_isName_82b, rX9_isName_83, rX9_isName_85, rX9_isName_88, rX9_isName_91, rX9_isName_92, rX9_isName_95, rX9_isName_96, kA_44, kB_44, q2, c, i0, i1, show ¬ (1 : Int32) = 0 from by decide, pCX9_isName, pSX9_isName, pOX9_isName, pLX9_isName, pCX9_isWord, pSX9_isWord, pOX9_isWord, pLX9_isWord, kl_I, kl_J, kl_R, kl_T, kl_N, Nat.le_refl, Nat.zero_le, List.map_nil, List.map_cons, List.sum_nil, List.sum_cons, c_I, c_J, c_R, c_T, va_rf, hI_wI, hJ_wJ, hR_wR, hI_J, hI_R, hJ_I, hJ_R, hR_I, hR_J, hN_I, hN_J, hN_R, wI_I, wJ_J, upd_at, updL_at, kR_s, Option.toList, List.append_nil, List.nil_append, List.cons_append, if_true, if_false, reduceIte, Bool.false_eq_true, not_true_eq_false, not_false_eq_true, true_and, and_true, false_and, and_false, true_or, or_true,  Nat.reduceEqDiff, Nat.reduceAdd, Nat.reduceLeDiff]
    rw [if_neg c1]
    have c1f : isW (bB tb) t 1 = false := by simpa using c1
    rw [c1f, bI_f] at i1
    rw [rsvL]
    by_cases c2 : isW (bB tb) t 2 = true
    · rw [if_pos c2, decide_eq_false (by simp), bI_f]
      rw [c2, bI_t] at i2
      simp (implicitDefEqProofs := false) only [eX9_isName, rX9_isName_0, rX9_isName_0b, rX9_isName_1, rX9_isName_4, rX9_isName_5, rX9_isName_8, rX9_isName_8b, rX9_isName_9, rX9_isName_11, rX9_isName_14, rX9_isName_17, rX9_isName_17b, rX9_isName_18, rX9_isName_20, rX9_isName_23, rX9_isName_26, rX9_isName_26b, rX9_isName_27, rX9_isName_29, rX9_isName_32, rX9_isName_35, rX9_isName_35b, rX9_isName_36, rX9_isName_38, rX9_isName_41, rX9_isName_44, rX9_isName_44b, rX9_isName_45, rX9_isName_47, rX9_isName_50, rX9_isName_53, rX9_isName_54, rX9_isName_55, rX9_isName_55b, rX9_isName_56, rX9_isName_58, rX9_isName_61, rX9_isName_64, rX9_isName_64b, rX9_isName_65, rX9_isName_67, rX9_isName_70, rX9_isName_73, rX9_isName_73b, rX9_isName_74, rX9_isName_76, rX9_isName_79, rX9_isName_82, rX9_isName_82b, rX9_isName_83, rX9_isName_85, rX9_isName_88, rX9_isName_91, rX9_isName_92, rX9_isName_95, rX9_isName_96, kA_44, kB_44, q2, c, i0, i1, i2, show ¬ (1 : Int32) = 0 from by decide, pCX9_isName, pSX9_isName, pOX9_isName, pLX9_isName, pCX9_isWord, pSX9_isWord, pOX9_isWord, pLX9_isWord, kl_I, kl_J, kl_R, kl_T, kl_N, Nat.le_refl, Nat.zero_le, List.map_nil, List.map_cons, List.sum_nil, List.sum_cons, c_I, c_J, c_R, c_T, va_rf, hI_wI, hJ_wJ, hR_wR, hI_J, hI_R, hJ_I, hJ_R, hR_I, hR_J, hN_I, hN_J, hN_R, wI_I, wJ_J, upd_at, updL_at, kR_s, Option.toList, List.append_nil, List.nil_append, List.cons_append, if_true, if_false, reduceIte, Bool.false_eq_true, not_true_eq_false, not_false_eq_true, true_and, and_true, false_and, and_false, true_or, or_true,  Nat.reduceEqDiff, Nat.reduceAdd, Nat.reduceLeDiff]
    rw [if_neg c2]
    have c2f : isW (bB tb) t 2 = false := by simpa using c2
    rw [c2f, bI_f] at i2
    rw [rsvL]
    by_cases c3 : isW (bB tb) t 3 = true
    · rw [if_pos c3, decide_eq_false (by simp), bI_f]
      rw [c3, bI_t] at i3
      simp (implicitDefEqProofs := false) only [eX9_isName, rX9_isName_0, rX9_isName_0b, rX9_isName_1, rX9_isName_4, rX9_isName_5, rX9_isName_8, rX9_isName_8b, rX9_isName_9, rX9_isName_11, rX9_isName_14, rX9_isName_17, rX9_isName_17b, rX9_isName_18, rX9_isName_20, rX9_isName_23, rX9_isName_26, rX9_isName_26b, rX9_isName_27, rX9_isName_29, rX9_isName_32, rX9_isName_35, rX9_isName_35b, rX9_isName_36, rX9_isName_38, rX9_isName_41, rX9_isName_44, rX9_isName_44b, rX9_isName_45, rX9_isName_47, rX9_isName_50, rX9_isName_53, rX9_isName_54, rX9_isName_55, rX9_isName_55b, rX9_isName_56, rX9_isName_58, rX9_isName_61, rX9_isName_64, rX9_isName_64b, rX9_isName_65, rX9_isName_67, rX9_isName_70, rX9_isName_73, rX9_isName_73b, rX9_isName_74, rX9_isName_76, rX9_isName_79, rX9_isName_82, rX9_isName_82b, rX9_isName_83, rX9_isName_85, rX9_isName_88, rX9_isName_91, rX9_isName_92, rX9_isName_95, rX9_isName_96, kA_44, kB_44, q2, c, i0, i1, i2, i3, show ¬ (1 : Int32) = 0 from by decide, pCX9_isName, pSX9_isName, pOX9_isName, pLX9_isName, pCX9_isWord, pSX9_isWord, pOX9_isWord, pLX9_isWord, kl_I, kl_J, kl_R, kl_T, kl_N, Nat.le_refl, Nat.zero_le, List.map_nil, List.map_cons, List.sum_nil, List.sum_cons, c_I, c_J, c_R, c_T, va_rf, hI_wI, hJ_wJ, hR_wR, hI_J, hI_R, hJ_I, hJ_R, hR_I, hR_J, hN_I, hN_J, hN_R, wI_I, wJ_J, upd_at, updL_at, kR_s, Option.toList, List.append_nil, List.nil_append, List.cons_append, if_true, if_false, reduceIte, Bool.false_eq_true, not_true_eq_false, not_false_eq_true, true_and, and_true, false_and, and_false, true_or, or_true,  Nat.reduceEqDiff, Nat.reduceAdd, Nat.reduceLeDiff]
    rw [if_neg c3]
    have c3f : isW (bB tb) t 3 = false := by simpa using c3
    rw [c3f, bI_f] at i3
    rw [rsvL]
    by_cases c4 : isW (bB tb) t 4 = true
    · rw [if_pos c4, decide_eq_false (by simp), bI_f]
      rw [c4, bI_t] at i4
      simp (implicitDefEqProofs := false) only [eX9_isName, rX9_isName_0, rX9_isName_0b, rX9_isName_1, rX9_isName_4, rX9_isName_5, rX9_isName_8, rX9_isName_8b, rX9_isName_9, rX9_isName_11, rX9_isName_14, rX9_isName_17, rX9_isName_17b, rX9_isName_18, rX9_isName_20, rX9_isName_23, rX9_isName_26, rX9_isName_26b, rX9_isName_27, rX9_isName_29, rX9_isName_32, rX9_isName_35, rX9_isName_35b, rX9_isName_36, rX9_isName_38, rX9_isName_41, rX9_isName_44, rX9_isName_44b, rX9_isName_45, rX9_isName_47, rX9_isName_50, rX9_isName_53, rX9_isName_54, rX9_isName_55, rX9_isName_55b, rX9_isName_56, rX9_isName_58, rX9_isName_61, rX9_isName_64, rX9_isName_64b, rX9_isName_65, rX9_isName_67, rX9_isName_70, rX9_isName_73, rX9_isName_73b, rX9_isName_74, rX9_isName_76, rX9_isName_79, rX9_isName_82, rX9_isName_82b, rX9_isName_83, rX9_isName_85, rX9_isName_88, rX9_isName_91, rX9_isName_92, rX9_isName_95, rX9_isName_96, kA_44, kB_44, q2, c, i0, i1, i2, i3, i4, show ¬ (1 : Int32) = 0 from by decide, pCX9_isName, pSX9_isName, pOX9_isName, pLX9_isName, pCX9_isWord, pSX9_isWord, pOX9_isWord, pLX9_isWord, kl_I, kl_J, kl_R, kl_T, kl_N, Nat.le_refl, Nat.zero_le, List.map_nil, List.map_cons, List.sum_nil, List.sum_cons, c_I, c_J, c_R, c_T, va_rf, hI_wI, hJ_wJ, hR_wR, hI_J, hI_R, hJ_I, hJ_R, hR_I, hR_J, hN_I, hN_J, hN_R, wI_I, wJ_J, upd_at, updL_at, kR_s, Option.toList, List.append_nil, List.nil_append, List.cons_append, if_true, if_false, reduceIte, Bool.false_eq_true, not_true_eq_false, not_false_eq_true, true_and, and_true, false_and, and_false, true_or, or_true,  Nat.reduceEqDiff, Nat.reduceAdd, Nat.reduceLeDiff]
    rw [if_neg c4]
    have c4f : isW (bB tb) t 4 = false := by simpa using c4
    rw [c4f, bI_f] at i4
    rw [rsvL]
    by_cases c5 : isW (bB tb) t 5 = true
    · rw [if_pos c5, decide_eq_false (by simp), bI_f]
      rw [c5, bI_t] at i5
      simp (implicitDefEqProofs := false) only [eX9_isName, rX9_isName_0, rX9_isName_0b, rX9_isName_1, rX9_isName_4, rX9_isName_5, rX9_isName_8, rX9_isName_8b, rX9_isName_9, rX9_isName_11, rX9_isName_14, rX9_isName_17, rX9_isName_17b, rX9_isName_18, rX9_isName_20, rX9_isName_23, rX9_isName_26, rX9_isName_26b, rX9_isName_27, rX9_isName_29, rX9_isName_32, rX9_isName_35, rX9_isName_35b, rX9_isName_36, rX9_isName_38, rX9_isName_41, rX9_isName_44, rX9_isName_44b, rX9_isName_45, rX9_isName_47, rX9_isName_50, rX9_isName_53, rX9_isName_54, rX9_isName_55, rX9_isName_55b, rX9_isName_56, rX9_isName_58, rX9_isName_61, rX9_isName_64, rX9_isName_64b, rX9_isName_65, rX9_isName_67, rX9_isName_70, rX9_isName_73, rX9_isName_73b, rX9_isName_74, rX9_isName_76, rX9_isName_79, rX9_isName_82, rX9_isName_82b, rX9_isName_83, rX9_isName_85, rX9_isName_88, rX9_isName_91, rX9_isName_92, rX9_isName_95, rX9_isName_96, kA_44, kB_44, q2, c, i0, i1, i2, i3, i4, i5, show ¬ (1 : Int32) = 0 from by decide, pCX9_isName, pSX9_isName, pOX9_isName, pLX9_isName, pCX9_isWord, pSX9_isWord, pOX9_isWord, pLX9_isWord, kl_I, kl_J, kl_R, kl_T, kl_N, Nat.le_refl, Nat.zero_le, List.map_nil, List.map_cons, List.sum_nil, List.sum_cons, c_I, c_J, c_R, c_T, va_rf, hI_wI, hJ_wJ, hR_wR, hI_J, hI_R, hJ_I, hJ_R, hR_I, hR_J, hN_I, hN_J, hN_R, wI_I, wJ_J, upd_at, updL_at, kR_s, Option.toList, List.append_nil, List.nil_append, List.cons_append, if_true, if_false, reduceIte, Bool.false_eq_true, not_true_eq_false, not_false_eq_true, true_and, and_true, false_and, and_false, true_or, or_true,  Nat.reduceEqDiff, Nat.reduceAdd, Nat.reduceLeDiff]
    rw [if_neg c5]
    have c5f : isW (bB tb) t 5 = false := by simpa using c5
    rw [c5f, bI_f] at i5
    rw [rsvL]
    by_cases c6 : isW (bB tb) t 6 = true
    · rw [if_pos c6, decide_eq_false (by simp), bI_f]
      rw [c6, bI_t] at i6
      simp (implicitDefEqProofs := false) only [eX9_isName, rX9_isName_0, rX9_isName_0b, rX9_isName_1, rX9_isName_4, rX9_isName_5, rX9_isName_8, rX9_isName_8b, rX9_isName_9, rX9_isName_11, rX9_isName_14, rX9_isName_17, rX9_isName_17b, rX9_isName_18, rX9_isName_20, rX9_isName_23, rX9_isName_26, rX9_isName_26b, rX9_isName_27, rX9_isName_29, rX9_isName_32, rX9_isName_35, rX9_isName_35b, rX9_isName_36, rX9_isName_38, rX9_isName_41, rX9_isName_44, rX9_isName_44b, rX9_isName_45, rX9_isName_47, rX9_isName_50, rX9_isName_53, rX9_isName_54, rX9_isName_55, rX9_isName_55b, rX9_isName_56, rX9_isName_58, rX9_isName_61, rX9_isName_64, rX9_isName_64b, rX9_isName_65, rX9_isName_67, rX9_isName_70, rX9_isName_73, rX9_isName_73b, rX9_isName_74, rX9_isName_76, rX9_isName_79, rX9_isName_82, rX9_isName_82b, rX9_isName_83, rX9_isName_85, rX9_isName_88, rX9_isName_91, rX9_isName_92, rX9_isName_95, rX9_isName_96, kA_44, kB_44, q2, c, i0, i1, i2, i3, i4, i5, i6, show ¬ (1 : Int32) = 0 from by decide, pCX9_isName, pSX9_isName, pOX9_isName, pLX9_isName, pCX9_isWord, pSX9_isWord, pOX9_isWord, pLX9_isWord, kl_I, kl_J, kl_R, kl_T, kl_N, Nat.le_refl, Nat.zero_le, List.map_nil, List.map_cons, List.sum_nil, List.sum_cons, c_I, c_J, c_R, c_T, va_rf, hI_wI, hJ_wJ, hR_wR, hI_J, hI_R, hJ_I, hJ_R, hR_I, hR_J, hN_I, hN_J, hN_R, wI_I, wJ_J, upd_at, updL_at, kR_s, Option.toList, List.append_nil, List.nil_append, List.cons_append, if_true, if_false, reduceIte, Bool.false_eq_true, not_true_eq_false, not_false_eq_true, true_and, and_true, false_and, and_false, true_or, or_true,  Nat.reduceEqDiff, Nat.reduceAdd, Nat.reduceLeDiff]
    rw [if_neg c6]
    have c6f : isW (bB tb) t 6 = false := by simpa using c6
    rw [c6f, bI_f] at i6
    rw [rsvL]
    by_cases c7 : isW (bB tb) t 7 = true
    · rw [if_pos c7, decide_eq_false (by simp), bI_f]
      rw [c7, bI_t] at i7
      simp (implicitDefEqProofs := false) only [eX9_isName, rX9_isName_0, rX9_isName_0b, rX9_isName_1, rX9_isName_4, rX9_isName_5, rX9_isName_8, rX9_isName_8b, rX9_isName_9, rX9_isName_11, rX9_isName_14, rX9_isName_17, rX9_isName_17b, rX9_isName_18, rX9_isName_20, rX9_isName_23, rX9_isName_26, rX9_isName_26b, rX9_isName_27, rX9_isName_29, rX9_isName_32, rX9_isName_35, rX9_isName_35b, rX9_isName_36, rX9_isName_38, rX9_isName_41, rX9_isName_44, rX9_isName_44b, rX9_isName_45, rX9_isName_47, rX9_isName_50, rX9_isName_53, rX9_isName_54, rX9_isName_55, rX9_isName_55b, rX9_isName_56, rX9_isName_58, rX9_isName_61, rX9_isName_64, rX9_isName_64b, rX9_isName_65, rX9_isName_67, rX9_isName_70, rX9_isName_73, rX9_isName_73b, rX9_isName_74, rX9_isName_76, rX9_isName_79, rX9_isName_82, rX9_isName_82b, rX9_isName_83, rX9_isName_85, rX9_isName_88, rX9_isName_91, rX9_isName_92, rX9_isName_95, rX9_isName_96, kA_44, kB_44, q2, c, i0, i1, i2, i3, i4, i5, i6, i7, show ¬ (1 : Int32) = 0 from by decide, pCX9_isName, pSX9_isName, pOX9_isName, pLX9_isName, pCX9_isWord, pSX9_isWord, pOX9_isWord, pLX9_isWord, kl_I, kl_J, kl_R, kl_T, kl_N, Nat.le_refl, Nat.zero_le, List.map_nil, List.map_cons, List.sum_nil, List.sum_cons, c_I, c_J, c_R, c_T, va_rf, hI_wI, hJ_wJ, hR_wR, hI_J, hI_R, hJ_I, hJ_R, hR_I, hR_J, hN_I, hN_J, hN_R, wI_I, wJ_J, upd_at, updL_at, kR_s, Option.toList, List.append_nil, List.nil_append, List.cons_append, if_true, if_false, reduceIte, Bool.false_eq_true, not_true_eq_false, not_false_eq_true, true_and, and_true, false_and, and_false, true_or, or_true,  Nat.reduceEqDiff, Nat.reduceAdd, Nat.reduceLeDiff]
    rw [if_neg c7]
    have c7f : isW (bB tb) t 7 = false := by simpa using c7
    rw [c7f, bI_f] at i7
    rw [rsvL]
    by_cases c8 : isW (bB tb) t 8 = true
    · rw [if_pos c8, decide_eq_false (by simp), bI_f]
      rw [c8, bI_t] at i8
      simp (implicitDefEqProofs := false) only [eX9_isName, rX9_isName_0, rX9_isName_0b, rX9_isName_1, rX9_isName_4, rX9_isName_5, rX9_isName_8, rX9_isName_8b, rX9_isName_9, rX9_isName_11, rX9_isName_14, rX9_isName_17, rX9_isName_17b, rX9_isName_18, rX9_isName_20, rX9_isName_23, rX9_isName_26, rX9_isName_26b, rX9_isName_27, rX9_isName_29, rX9_isName_32, rX9_isName_35, rX9_isName_35b, rX9_isName_36, rX9_isName_38, rX9_isName_41, rX9_isName_44, rX9_isName_44b, rX9_isName_45, rX9_isName_47, rX9_isName_50, rX9_isName_53, rX9_isName_54, rX9_isName_55, rX9_isName_55b, rX9_isName_56, rX9_isName_58, rX9_isName_61, rX9_isName_64, rX9_isName_64b, rX9_isName_65, rX9_isName_67, rX9_isName_70, rX9_isName_73, rX9_isName_73b, rX9_isName_74, rX9_isName_76, rX9_isName_79, rX9_isName_82, rX9_isName_82b, rX9_isName_83, rX9_isName_85, rX9_isName_88, rX9_isName_91, rX9_isName_92, rX9_isName_95, rX9_isName_96, kA_44, kB_44, q2, c, i0, i1, i2, i3, i4, i5, i6, i7, i8, show ¬ (1 : Int32) = 0 from by decide, pCX9_isName, pSX9_isName, pOX9_isName, pLX9_isName, pCX9_isWord, pSX9_isWord, pOX9_isWord, pLX9_isWord, kl_I, kl_J, kl_R, kl_T, kl_N, Nat.le_refl, Nat.zero_le, List.map_nil, List.map_cons, List.sum_nil, List.sum_cons, c_I, c_J, c_R, c_T, va_rf, hI_wI, hJ_wJ, hR_wR, hI_J, hI_R, hJ_I, hJ_R, hR_I, hR_J, hN_I, hN_J, hN_R, wI_I, wJ_J, upd_at, updL_at, kR_s, Option.toList, List.append_nil, List.nil_append, List.cons_append, if_true, if_false, reduceIte, Bool.false_eq_true, not_true_eq_false, not_false_eq_true, true_and, and_true, false_and, and_false, true_or, or_true,  Nat.reduceEqDiff, Nat.reduceAdd, Nat.reduceLeDiff]
    rw [if_neg c8]
    have c8f : isW (bB tb) t 8 = false := by simpa using c8
    rw [c8f, bI_f] at i8
    rw [rsvL, decide_eq_true rfl, bI_t]
    simp (implicitDefEqProofs := false) only [eX9_isName, rX9_isName_0, rX9_isName_0b, rX9_isName_1, rX9_isName_4, rX9_isName_5, rX9_isName_8, rX9_isName_8b, rX9_isName_9, rX9_isName_11, rX9_isName_14, rX9_isName_17, rX9_isName_17b, rX9_isName_18, rX9_isName_20, rX9_isName_23, rX9_isName_26, rX9_isName_26b, rX9_isName_27, rX9_isName_29, rX9_isName_32, rX9_isName_35, rX9_isName_35b, rX9_isName_36, rX9_isName_38, rX9_isName_41, rX9_isName_44, rX9_isName_44b, rX9_isName_45, rX9_isName_47, rX9_isName_50, rX9_isName_53, rX9_isName_54, rX9_isName_55, rX9_isName_55b, rX9_isName_56, rX9_isName_58, rX9_isName_61, rX9_isName_64, rX9_isName_64b, rX9_isName_65, rX9_isName_67, rX9_isName_70, rX9_isName_73, rX9_isName_73b, rX9_isName_74, rX9_isName_76, rX9_isName_79, rX9_isName_82, rX9_isName_82b, rX9_isName_83, rX9_isName_85, rX9_isName_88, rX9_isName_91, rX9_isName_92, rX9_isName_95, rX9_isName_96, kA_44, kB_44, q2, c, i0, i1, i2, i3, i4, i5, i6, i7, i8, pCX9_isName, pSX9_isName, pOX9_isName, pLX9_isName, pCX9_isWord, pSX9_isWord, pOX9_isWord, pLX9_isWord, kl_I, kl_J, kl_R, kl_T, kl_N, Nat.le_refl, Nat.zero_le, List.map_nil, List.map_cons, List.sum_nil, List.sum_cons, c_I, c_J, c_R, c_T, va_rf, hI_wI, hJ_wJ, hR_wR, hI_J, hI_R, hJ_I, hJ_R, hR_I, hR_J, hN_I, hN_J, hN_R, wI_I, wJ_J, upd_at, updL_at, kR_s, Option.toList, List.append_nil, List.nil_append, List.cons_append, if_true, if_false, reduceIte, Bool.false_eq_true, not_true_eq_false, not_false_eq_true, true_and, and_true, false_and, and_false, true_or, or_true,  Nat.reduceEqDiff, Nat.reduceAdd, Nat.reduceLeDiff]
  · rw [decide_eq_false (fun z => c z.1), bI_f]
    simp (implicitDefEqProofs := false) only [eX9_isName, rX9_isName_0, rX9_isName_0b, rX9_isName_1, rX9_isName_4, rX9_isName_5, rX9_isName_8, rX9_isName_8b, rX9_isName_9, rX9_isName_11, rX9_isName_14, rX9_isName_17, rX9_isName_17b, rX9_isName_18, rX9_isName_20, rX9_isName_23, rX9_isName_26, rX9_isName_26b, rX9_isName_27, rX9_isName_29, rX9_isName_32, rX9_isName_35, rX9_isName_35b, rX9_isName_36, rX9_isName_38, rX9_isName_41, rX9_isName_44, rX9_isName_44b, rX9_isName_45, rX9_isName_47, rX9_isName_50, rX9_isName_53, rX9_isName_54, kA_44, kB_44, q2, c, pCX9_isName, pSX9_isName, pOX9_isName, pLX9_isName, kl_I, kl_J, kl_R, kl_T, kl_N, Nat.le_refl, Nat.zero_le, List.map_nil, List.map_cons, List.sum_nil, List.sum_cons, c_I, c_J, c_R, c_T, va_rf, hI_wI, hJ_wJ, hR_wR, hI_J, hI_R, hJ_I, hJ_R, hR_I, hR_J, hN_I, hN_J, hN_R, wI_I, wJ_J, upd_at, updL_at, kR_s, Option.toList, List.append_nil, List.nil_append, List.cons_append, if_true, if_false, reduceIte, Bool.false_eq_true, not_true_eq_false, not_false_eq_true, true_and, and_true, false_and, and_false, true_or, or_true,  Nat.reduceEqDiff, Nat.reduceAdd, Nat.reduceLeDiff]
theorem c_house9 {d : Nat} {h : qH} {s n : Nat} {tb : Nat → Int32} {st : PS} {t : tK} (r : RM h s n tb st t) : match hH (bB tb) st t with
    | .inr x => ∀ Q, WM (d + 7) mX9_houseAtHand [.ref (44 : Nat)] h Q = Q (some (some (.int (nI x)))) h
    | .inl e => ∃ h', (∀ Q, WM (d + 7) mX9_houseAtHand [.ref (44 : Nat)] h Q = Q (some (some (.int 0))) h') ∧ rg9 s h h' ∧ RO h' s st e := by
  have nm := c_isName (d := d) r
  have n5 := RM_9 r
  have r4 := r.2.1
  have rd := r.2.2.1
  have hs := rd.1
  have h6 := rd.2.2.1.1
  unfold hH
  by_cases c : t.1 = 1 ∧ rsv (bB tb) t = none
  · rw [if_pos c]
    rw [decide_eq_true c, bI_t] at nm
    have ew := r.2.2.2.1.2.2.2.1 c.1
    have lw := wV_lt r.2.2.2.2.1 c.1
    have fi := c_find (d := d + 6) (w := lN (wV (bB tb) t)) rd
    rw [fdW_e rd lw] at fi
    cases hf : fd st (wV (bB tb) t) with
    | none =>
      rw [hf, mI_no] at fi
      have fl := c_fl9 (d := d + 6) (v := 2) n5
      have o := RO_fl 2 r
      have e5 : hI (flH h 2) 44 9 = 5 := o.2.2.2.1
      refine ⟨flH h 2, fun Q => ?_, fl_rg, o⟩
      simp (implicitDefEqProofs := false) only [eX9_houseAtHand, rX9_houseAtHand_0, rX9_houseAtHand_0b, rX9_houseAtHand_1, rX9_houseAtHand_4, rX9_houseAtHand_7, rX9_houseAtHand_7b, rX9_houseAtHand_8, rX9_houseAtHand_9, rX9_houseAtHand_12, rX9_houseAtHand_12b, rX9_houseAtHand_13, rX9_houseAtHand_16, rX9_houseAtHand_16b, rX9_houseAtHand_17, rX9_houseAtHand_20, rX9_houseAtHand_23, rX9_houseAtHand_24, rX9_houseAtHand_25, rX9_houseAtHand_26, rX9_houseAtHand_29, rX9_houseAtHand_29b, rX9_houseAtHand_30, rX9_houseAtHand_31, rX9_houseAtHand_34, rX9_houseAtHand_34b, rX9_houseAtHand_35, rX9_houseAtHand_38, rX9_houseAtHand_39, rX9_houseAtHand_42, rX9_houseAtHand_43, rX9_houseAtHand_46, rX9_houseAtHand_47, kA_44, kB_44, kU0 hs, r4, nm, show ¬ (1 : Int32) = 0 from by decide, ew, fi, fl, e5, pCX9_houseAtHand, pSX9_houseAtHand, pOX9_houseAtHand, pLX9_houseAtHand, pCX9_isName, pSX9_isName, pOX9_isName, pLX9_isName, pCX9_flaw, pSX9_flaw, pOX9_flaw, pLX9_flaw, pCX8_find, pSX8_find, pOX8_find, pLX8_find, kl_I, kl_J, kl_R, kl_T, kl_N, Nat.le_refl, Nat.zero_le, List.map_nil, List.map_cons, List.sum_nil, List.sum_cons, c_I, c_J, c_R, c_T, va_rf, hI_wI, hJ_wJ, hR_wR, hI_J, hI_R, hJ_I, hJ_R, hR_I, hR_J, hN_I, hN_J, hN_R, wI_I, wJ_J, upd_at, updL_at, kR_s, Option.toList, List.append_nil, List.nil_append, List.cons_append, if_true, if_false, reduceIte, Bool.false_eq_true, not_true_eq_false, not_false_eq_true, true_and, and_true, false_and, and_false, true_or, or_true,  Nat.reduceEqDiff, Nat.reduceAdd, Nat.reduceLeDiff]
    | some x =>
      rw [hf, mI_so] at fi
      have xl := fd_lt hf
      have nm1 := nM (x := x) (by omega)
      intro Q
      simp (implicitDefEqProofs := false) only [eX9_houseAtHand, rX9_houseAtHand_0, rX9_houseAtHand_0b, rX9_houseAtHand_1, rX9_houseAtHand_4, rX9_houseAtHand_7, rX9_houseAtHand_7b, rX9_houseAtHand_8, rX9_houseAtHand_9, rX9_houseAtHand_12, rX9_houseAtHand_12b, rX9_houseAtHand_13, rX9_houseAtHand_16, rX9_houseAtHand_16b, rX9_houseAtHand_17, rX9_houseAtHand_20, rX9_houseAtHand_23, rX9_houseAtHand_24, rX9_houseAtHand_25, rX9_houseAtHand_26, rX9_houseAtHand_29, rX9_houseAtHand_29b, rX9_houseAtHand_30, rX9_houseAtHand_31, rX9_houseAtHand_34, rX9_houseAtHand_34b, rX9_houseAtHand_35, rX9_houseAtHand_38, rX9_houseAtHand_39, rX9_houseAtHand_42, rX9_houseAtHand_43, rX9_houseAtHand_46, rX9_houseAtHand_47, kA_44, kB_44, kU0 hs, r4, nm, show ¬ (1 : Int32) = 0 from by decide, ew, fi, nm1, n5, pCX9_houseAtHand, pSX9_houseAtHand, pOX9_houseAtHand, pLX9_houseAtHand, pCX9_isName, pSX9_isName, pOX9_isName, pLX9_isName, pCX9_flaw, pSX9_flaw, pOX9_flaw, pLX9_flaw, pCX8_find, pSX8_find, pOX8_find, pLX8_find, kl_I, kl_J, kl_R, kl_T, kl_N, Nat.le_refl, Nat.zero_le, List.map_nil, List.map_cons, List.sum_nil, List.sum_cons, c_I, c_J, c_R, c_T, va_rf, hI_wI, hJ_wJ, hR_wR, hI_J, hI_R, hJ_I, hJ_R, hR_I, hR_J, hN_I, hN_J, hN_R, wI_I, wJ_J, upd_at, updL_at, kR_s, Option.toList, List.append_nil, List.nil_append, List.cons_append, if_true, if_false, reduceIte, Bool.false_eq_true, not_true_eq_false, not_false_eq_true, true_and, and_true, false_and, and_false, true_or, or_true,  Nat.reduceEqDiff, Nat.reduceAdd, Nat.reduceLeDiff]
  · rw [if_neg c]
    rw [decide_eq_false c, bI_f] at nm
    have fl := c_fl9 (d := d + 6) (v := 1) n5
    have o := RO_fl 1 r
    have e5 : hI (flH h 1) 44 9 = 5 := o.2.2.2.1
    have rd1 : mRd (flH h 1) s st := o.2.2.1
    have fi := c_find (d := d + 6) (w := hJ (flH h 1) 44 14) rd1
    have q1 := mI_1 (x := fdW (hJ (flH h 1) (s + 12)) (hJ (flH h 1) 44 14) (aN st.1) 0) (fun y hy => by have := fdW_b hy; omega)
    have r41 : hR (flH h 1) 44 4 = some s := r4
    refine ⟨flH h 1, fun Q => ?_, fl_rg, o⟩
    by_cases c2 : fdW (hJ (flH h 1) (s + 12)) (hJ (flH h 1) 44 14) (aN st.1) 0 = none
    · rw [c2, mI_no] at fi
      simp (implicitDefEqProofs := false) only [eX9_houseAtHand, rX9_houseAtHand_0, rX9_houseAtHand_0b, rX9_houseAtHand_1, rX9_houseAtHand_4, rX9_houseAtHand_7, rX9_houseAtHand_7b, rX9_houseAtHand_8, rX9_houseAtHand_9, rX9_houseAtHand_12, rX9_houseAtHand_12b, rX9_houseAtHand_13, rX9_houseAtHand_16, rX9_houseAtHand_16b, rX9_houseAtHand_17, rX9_houseAtHand_20, rX9_houseAtHand_23, rX9_houseAtHand_24, rX9_houseAtHand_25, rX9_houseAtHand_26, rX9_houseAtHand_29, rX9_houseAtHand_29b, rX9_houseAtHand_30, rX9_houseAtHand_31, rX9_houseAtHand_34, rX9_houseAtHand_34b, rX9_houseAtHand_35, rX9_houseAtHand_38, rX9_houseAtHand_39, rX9_houseAtHand_42, rX9_houseAtHand_43, rX9_houseAtHand_46, rX9_houseAtHand_47, kA_44, kB_44, kU0 hs, r4, r41, nm, fl, fi, o_flaw (d := d + 6) (v := 2) e5, e5, pCX9_houseAtHand, pSX9_houseAtHand, pOX9_houseAtHand, pLX9_houseAtHand, pCX9_isName, pSX9_isName, pOX9_isName, pLX9_isName, pCX9_flaw, pSX9_flaw, pOX9_flaw, pLX9_flaw, pCX8_find, pSX8_find, pOX8_find, pLX8_find, kl_I, kl_J, kl_R, kl_T, kl_N, Nat.le_refl, Nat.zero_le, List.map_nil, List.map_cons, List.sum_nil, List.sum_cons, c_I, c_J, c_R, c_T, va_rf, hI_wI, hJ_wJ, hR_wR, hI_J, hI_R, hJ_I, hJ_R, hR_I, hR_J, hN_I, hN_J, hN_R, wI_I, wJ_J, upd_at, updL_at, kR_s, Option.toList, List.append_nil, List.nil_append, List.cons_append, if_true, if_false, reduceIte, Bool.false_eq_true, not_true_eq_false, not_false_eq_true, true_and, and_true, false_and, and_false, true_or, or_true,  Nat.reduceEqDiff, Nat.reduceAdd, Nat.reduceLeDiff]
    · simp (implicitDefEqProofs := false) only [eX9_houseAtHand, rX9_houseAtHand_0, rX9_houseAtHand_0b, rX9_houseAtHand_1, rX9_houseAtHand_4, rX9_houseAtHand_7, rX9_houseAtHand_7b, rX9_houseAtHand_8, rX9_houseAtHand_9, rX9_houseAtHand_12, rX9_houseAtHand_12b, rX9_houseAtHand_13, rX9_houseAtHand_16, rX9_houseAtHand_16b, rX9_houseAtHand_17, rX9_houseAtHand_20, rX9_houseAtHand_23, rX9_houseAtHand_24, rX9_houseAtHand_25, rX9_houseAtHand_26, rX9_houseAtHand_29, rX9_houseAtHand_29b, rX9_houseAtHand_30, rX9_houseAtHand_31, rX9_houseAtHand_34, rX9_houseAtHand_34b, rX9_houseAtHand_35, rX9_houseAtHand_38, rX9_houseAtHand_39, rX9_houseAtHand_42, rX9_houseAtHand_43, rX9_houseAtHand_46, rX9_houseAtHand_47, kA_44, kB_44, kU0 hs, r4, r41, nm, fl, fi, q1, c2, e5, pCX9_houseAtHand, pSX9_houseAtHand, pOX9_houseAtHand, pLX9_houseAtHand, pCX9_isName, pSX9_isName, pOX9_isName, pLX9_isName, pCX9_flaw, pSX9_flaw, pOX9_flaw, pLX9_flaw, pCX8_find, pSX8_find, pOX8_find, pLX8_find, kl_I, kl_J, kl_R, kl_T, kl_N, Nat.le_refl, Nat.zero_le, List.map_nil, List.map_cons, List.sum_nil, List.sum_cons, c_I, c_J, c_R, c_T, va_rf, hI_wI, hJ_wJ, hR_wR, hI_J, hI_R, hJ_I, hJ_R, hR_I, hR_J, hN_I, hN_J, hN_R, wI_I, wJ_J, upd_at, updL_at, kR_s, Option.toList, List.append_nil, List.nil_append, List.cons_append, if_true, if_false, reduceIte, Bool.false_eq_true, not_true_eq_false, not_false_eq_true, true_and, and_true, false_and, and_false, true_or, or_true,  Nat.reduceEqDiff, Nat.reduceAdd, Nat.reduceLeDiff]
