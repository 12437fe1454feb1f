/-! ===== the model's reader: all lines ===== -/
def tLe (b : Nat → Nat) (n : Nat) (t t' : tK) : Prop := tOK b n t' ∧ t.2.1 ≤ t'.2.1
theorem tLe_k {b : Nat → Nat} {n : Nat} {t t' : tK} (h : tLe b n t t') : tLe b n t (tkN b n t'.2.2) := by
  have := tkN_ok (b := b) h.1.2.2.1
  refine ⟨this.1, ?_⟩
  have := h.1.2.1
  have := h.2
  omega
theorem tLe_W {b : Nat → Nat} {n j : Nat} {t t' t1 : tK} (h : tLe b n t t') (e : tW b n j t' = .inr t1) : tLe b n t t1 := by
  unfold tW at e
  split at e
  · simp only [Sum.inr.injEq] at e
    rw [← e]; exact tLe_k h
  · cases e
theorem tLe_N {b : Nat → Nat} {n lo hi : Nat} {t t' : tK} {p : Nat × tK} (h : tLe b n t t') (e : tN b n lo hi t' = .inr p) : tLe b n t p.2 := by
  unfold tN at e
  split at e
  · split at e
    · simp only [Sum.inr.injEq] at e
      rw [← e]; exact tLe_k h
    · cases e
  · cases e
theorem bd_i {α β : Type} {x : RE α} {f : α → RE β} {p : β} (h : bd x f = .inr p) : ∃ a, x = .inr a ∧ f a = .inr p := by
  cases x with
  | inl e => cases h
  | inr a => exact ⟨a, rfl, h⟩
theorem lAny_le {b : Nat → Nat} {n j : Nat} {st : PS} {t t' : tK} {p : PS × tK} (h : tLe b n t t') (e : lAny b n st j t' = .inr p) : tLe b n t p.2 := by
  unfold lAny at e
  split at e
  · unfold lStreet at e
    obtain ⟨t1, h1, e⟩ := bd_i e
    obtain ⟨q, h2, e⟩ := bd_i e
    cases e
    exact tLe_N (tLe_W h h1) h2
  split at e
  · unfold lHouse at e
    split at e
    · split at e
      · split at e
        · cases e
        · split at e
          · cases e
            exact tLe_k (tLe_k (tLe_k h))
          · obtain ⟨t3, h1, e⟩ := bd_i e
            obtain ⟨q, h2, e⟩ := bd_i e
            obtain ⟨t5, h3, e⟩ := bd_i e
            obtain ⟨q2, h4, e⟩ := bd_i e
            cases e
            exact tLe_N (tLe_W (tLe_N (tLe_W (tLe_k (tLe_k h)) h1) h2) h3) h4
      · cases e
    · cases e
  split at e
  · unfold lSpark at e
    obtain ⟨x, -, e⟩ := bd_i e
    obtain ⟨y, -, e⟩ := bd_i e
    split at e
    · cases e
    · obtain ⟨t3, h1, e⟩ := bd_i e
      obtain ⟨q, h2, e⟩ := bd_i e
      cases e
      exact tLe_N (tLe_W (tLe_k (tLe_k h)) h1) h2
  split at e
  · unfold lDoes at e
    obtain ⟨x, -, e⟩ := bd_i e
    split at e
    · split at e
      · cases e
      · cases e
        exact tLe_k (tLe_k h)
    · cases e
  split at e
  · unfold lPulled at e
    obtain ⟨x, -, e⟩ := bd_i e
    split at e
    · cases e
    · cases e
      exact tLe_k h
  split at e
  · unfold lGlass at e
    obtain ⟨t1, h1, e⟩ := bd_i e
    obtain ⟨q, h2, e⟩ := bd_i e
    cases e
    exact tLe_N (tLe_W h h1) h2
  split at e
  · unfold lUnknown at e
    obtain ⟨x, -, e⟩ := bd_i e
    split at e
    · cases e
    · cases e
      exact tLe_k h
  · unfold lRung at e
    obtain ⟨t1, h1, e⟩ := bd_i e
    obtain ⟨q, h2, e⟩ := bd_i e
    split at e
    · cases e
      exact tLe_k (tLe_N (tLe_W h h1) h2)
    · obtain ⟨x, -, e⟩ := bd_i e
      cases e
      exact tLe_k (tLe_N (tLe_W h h1) h2)
theorem lLine_le {b : Nat → Nat} {n : Nat} {st : PS} {t : tK} {p : PS × tK} (ok : tOK b n t) (e : lLine b n st t = .inr p) : tLe b n t p.2 := by
  unfold lLine at e
  split at e
  · cases e
  · split at e
    · cases e
    · split at e
      · cases e
      · split at e
        · cases e
        · split at e
          · cases e
          · exact lAny_le (tLe_k ⟨ok, Nat.le_refl _⟩) e
theorem lLine_0 {b : Nat → Nat} {n : Nat} {st : PS} {t : tK} (h1 : t.1 = 1) (h2 : rsv b t = some 0) : lLine b n st t = if st.2.2 = true then .inl (3, t.2.1) else lStreet b n st (tkN b n t.2.2) := by
  unfold lLine
  rw [if_pos h1, h2]
  simp only [lAny, fuN]
  by_cases c : st.2.2 = true
  · simp [c]
  · simp [c]
theorem lLine_1 {b : Nat → Nat} {n : Nat} {st : PS} {t : tK} (h1 : t.1 = 1) (h2 : rsv b t = some 1) : lLine b n st t = if st.2.2 = false then .inl (6, t.2.1) else if 6 ≤ aN st.1 then .inl (5, t.2.1) else lHouse b n st (tkN b n t.2.2) := by
  unfold lLine
  rw [if_pos h1, h2]
  simp only [lAny, fuN]
  by_cases c : st.2.2 = false
  · simp [c]
  · simp [c]
theorem lLine_2 {b : Nat → Nat} {n : Nat} {st : PS} {t : tK} (h1 : t.1 = 1) (h2 : rsv b t = some 2) : lLine b n st t = if st.2.2 = false then .inl (6, t.2.1) else if 9 ≤ aSp st.1 then .inl (5, t.2.1) else lSpark b n st (tkN b n t.2.2) := by
  unfold lLine
  rw [if_pos h1, h2]
  simp only [lAny, fuN]
  by_cases c : st.2.2 = false
  · simp [c]
  · simp [c]
theorem lLine_3 {b : Nat → Nat} {n : Nat} {st : PS} {t : tK} (h1 : t.1 = 1) (h2 : rsv b t = some 3) : lLine b n st t = if st.2.2 = false then .inl (6, t.2.1) else lDoes b n st (tkN b n t.2.2) := by
  unfold lLine
  rw [if_pos h1, h2]
  simp only [lAny, fuN]
  by_cases c : st.2.2 = false
  · simp [c]
  · simp [c]
theorem lLine_4 {b : Nat → Nat} {n : Nat} {st : PS} {t : tK} (h1 : t.1 = 1) (h2 : rsv b t = some 4) : lLine b n st t = if st.2.2 = false then .inl (6, t.2.1) else lPulled b n st (tkN b n t.2.2) := by
  unfold lLine
  rw [if_pos h1, h2]
  simp only [lAny, fuN]
  by_cases c : st.2.2 = false
  · simp [c]
  · simp [c]
theorem lLine_5 {b : Nat → Nat} {n : Nat} {st : PS} {t : tK} (h1 : t.1 = 1) (h2 : rsv b t = some 5) : lLine b n st t = if st.2.2 = false then .inl (6, t.2.1) else if 4 ≤ aGl st.1 then .inl (5, t.2.1) else lGlass b n st (tkN b n t.2.2) := by
  unfold lLine
  rw [if_pos h1, h2]
  simp only [lAny, fuN]
  by_cases c : st.2.2 = false
  · simp [c]
  · simp [c]
theorem lLine_6 {b : Nat → Nat} {n : Nat} {st : PS} {t : tK} (h1 : t.1 = 1) (h2 : rsv b t = some 6) : lLine b n st t = if st.2.2 = false then .inl (6, t.2.1) else if 2 ≤ aUn st.1 then .inl (5, t.2.1) else lUnknown b n st (tkN b n t.2.2) := by
  unfold lLine
  rw [if_pos h1, h2]
  simp only [lAny, fuN]
  by_cases c : st.2.2 = false
  · simp [c]
  · simp [c]
theorem lLine_7 {b : Nat → Nat} {n : Nat} {st : PS} {t : tK} (h1 : t.1 = 1) (h2 : rsv b t = some 7) : lLine b n st t = if st.2.2 = false then .inl (6, t.2.1) else if 4 ≤ aRu st.1 then .inl (5, t.2.1) else lRung b n st (tkN b n t.2.2) := by
  unfold lLine
  rw [if_pos h1, h2]
  simp only [lAny, fuN]
  by_cases c : st.2.2 = false
  · simp [c]
  · simp [c]
theorem lLine_8 {b : Nat → Nat} {n : Nat} {st : PS} {t : tK} (h : ∀ j, j < 8 → isW b t j = false) : lLine b n st t = .inl (1, t.2.1) := by
  unfold lLine
  by_cases h1 : t.1 = 1
  · rw [if_pos h1]
    unfold rsv
    rw [rsvL, if_neg (by rw [h 0 (by decide)]; simp), rsvL, if_neg (by rw [h 1 (by decide)]; simp), rsvL, if_neg (by rw [h 2 (by decide)]; simp), rsvL, if_neg (by rw [h 3 (by decide)]; simp), rsvL, if_neg (by rw [h 4 (by decide)]; simp), rsvL, if_neg (by rw [h 5 (by decide)]; simp), rsvL, if_neg (by rw [h 6 (by decide)]; simp), rsvL, if_neg (by rw [h 7 (by decide)]; simp), rsvL]
    by_cases c : isW b t 8 = true
    · rw [if_pos c]; rfl
    · rw [if_neg c]; rfl
  · rw [if_neg h1]
theorem isW_1 {b : Nat → Nat} {t : tK} {j : Nat} (h : isW b t j = true) : t.1 = 1 := by unfold isW at h; exact (of_decide_eq_true h).1
theorem c_readLine {d : Nat} {h : qH} {s n : Nat} {tb : Nat → Int32} {st : PS} {t : tK} (r : RM h s n tb st t) : ∃ h', (∀ Q, WM (d + 10) mX9_readLine [.ref (44 : Nat)] h Q = Q (some none) h') ∧ oc h h' s n tb (lLine (bB tb) n st t) := by
  have iw := fun j hj => c_mw (d := d + 4) (h := h) j r hj

  have i0 := iw 0 (by decide)
  have i1 := iw 1 (by decide)
  have i2 := iw 2 (by decide)
  have i3 := iw 3 (by decide)
  have i4 := iw 4 (by decide)
  have i5 := iw 5 (by decide)
  have i6 := iw 6 (by decide)
  have i7 := iw 7 (by decide)
  by_cases c0 : isW (bB tb) t 0 = true
  · have rv : rsv (bB tb) t = some 0 := by unfold rsv; rw [rsvL, if_pos c0]
    obtain ⟨h1, e1, x1⟩ := c_rdStreet (d := d) r (isW_1 c0)
    rw [lLine_0 (isW_1 c0) rv]
    rw [c0, bI_t] at i0
    refine ⟨h1, fun Q => ?_, x1⟩
    simp (implicitDefEqProofs := false) only [eX9_readLine, rX9_readLine_0, rX9_readLine_0b, rX9_readLine_1, rX9_readLine_3, rX9_readLine_6, rX9_readLine_9, rX9_readLine_9b, rX9_readLine_10, rX9_readLine_13, rX9_readLine_16, rX9_readLine_16b, rX9_readLine_17, rX9_readLine_19, rX9_readLine_22, rX9_readLine_25, rX9_readLine_25b, rX9_readLine_26, rX9_readLine_29, rX9_readLine_32, rX9_readLine_32b, rX9_readLine_33, rX9_readLine_35, rX9_readLine_38, rX9_readLine_41, rX9_readLine_41b, rX9_readLine_42, rX9_readLine_45, rX9_readLine_48, rX9_readLine_48b, rX9_readLine_49, rX9_readLine_51, rX9_readLine_54, rX9_readLine_57, rX9_readLine_57b, rX9_readLine_58, rX9_readLine_61, rX9_readLine_64, rX9_readLine_64b, rX9_readLine_65, rX9_readLine_67, rX9_readLine_70, rX9_readLine_73, rX9_readLine_73b, rX9_readLine_74, rX9_readLine_77, rX9_readLine_80, rX9_readLine_80b, rX9_readLine_81, rX9_readLine_83, rX9_readLine_86, rX9_readLine_89, rX9_readLine_89b, rX9_readLine_90, rX9_readLine_93, rX9_readLine_96, rX9_readLine_96b, rX9_readLine_97, rX9_readLine_99, rX9_readLine_102, rX9_readLine_105, rX9_readLine_105b, rX9_readLine_106, rX9_readLine_109, rX9_readLine_112, rX9_readLine_112b, rX9_readLine_113, rX9_readLine_115, rX9_readLine_118, rX9_readLine_121, rX9_readLine_121b, rX9_readLine_122, rX9_readLine_125, rX9_readLine_128, rX9_readLine_128b, rX9_readLine_129, rX9_readLine_130, rX9_readLine_133, kA_44, kB_44, i0, show ¬ (1 : Int32) = 0 from by decide, e1, pCX9_readLine, pSX9_readLine, pOX9_readLine, pLX9_readLine, pCX9_isWord, pSX9_isWord, pOX9_isWord, pLX9_isWord, pCX9_readStreet, pSX9_readStreet, pOX9_readStreet, pLX9_readStreet, kl_I, kl_J, kl_R, kl_T, kl_N, Nat.le_refl, Nat.zero_le, List.map_nil, List.map_cons, List.sum_nil, List.sum_cons, c_I, c_J, c_R, c_T, va_rf, hI_wI, hJ_wJ, hR_wR, hI_J, hI_R, hJ_I, hJ_R, hR_I, hR_J, hN_I, hN_J, hN_R, wI_I, wJ_J, upd_at, updL_at, kR_s, Option.toList, List.append_nil, List.nil_append, List.cons_append, if_true, if_false, reduceIte, Bool.false_eq_true, not_true_eq_false, not_false_eq_true, true_and, and_true, false_and, and_false, true_or, or_true,  Nat.reduceEqDiff, Nat.reduceAdd, Nat.reduceLeDiff]
  have c0f : isW (bB tb) t 0 = false := by simpa using c0
  rw [c0f, bI_f] at i0
  by_cases c1 : isW (bB tb) t 1 = true
  · have rv : rsv (bB tb) t = some 1 := by unfold rsv; rw [rsvL, if_neg c0]; rw [rsvL, if_pos c1]
    obtain ⟨h1, e1, x1⟩ := c_rdHouse (d := d) r (isW_1 c1)
    rw [lLine_1 (isW_1 c1) rv]
    rw [c1, bI_t] at i1
    refine ⟨h1, fun Q => ?_, x1⟩
    simp (implicitDefEqProofs := false) only [eX9_readLine, rX9_readLine_0, rX9_readLine_0b, rX9_readLine_1, rX9_readLine_3, rX9_readLine_6, rX9_readLine_9, rX9_readLine_9b, rX9_readLine_10, rX9_readLine_13, rX9_readLine_16, rX9_readLine_16b, rX9_readLine_17, rX9_readLine_19, rX9_readLine_22, rX9_readLine_25, rX9_readLine_25b, rX9_readLine_26, rX9_readLine_29, rX9_readLine_32, rX9_readLine_32b, rX9_readLine_33, rX9_readLine_35, rX9_readLine_38, rX9_readLine_41, rX9_readLine_41b, rX9_readLine_42, rX9_readLine_45, rX9_readLine_48, rX9_readLine_48b, rX9_readLine_49, rX9_readLine_51, rX9_readLine_54, rX9_readLine_57, rX9_readLine_57b, rX9_readLine_58, rX9_readLine_61, rX9_readLine_64, rX9_readLine_64b, rX9_readLine_65, rX9_readLine_67, rX9_readLine_70, rX9_readLine_73, rX9_readLine_73b, rX9_readLine_74, rX9_readLine_77, rX9_readLine_80, rX9_readLine_80b, rX9_readLine_81, rX9_readLine_83, rX9_readLine_86, rX9_readLine_89, rX9_readLine_89b, rX9_readLine_90, rX9_readLine_93, rX9_readLine_96, rX9_readLine_96b, rX9_readLine_97, rX9_readLine_99, rX9_readLine_102, rX9_readLine_105, rX9_readLine_105b, rX9_readLine_106, rX9_readLine_109, rX9_readLine_112, rX9_readLine_112b, rX9_readLine_113, rX9_readLine_115, rX9_readLine_118, rX9_readLine_121, rX9_readLine_121b, rX9_readLine_122, rX9_readLine_125, rX9_readLine_128, rX9_readLine_128b, rX9_readLine_129, rX9_readLine_130, rX9_readLine_133, kA_44, kB_44, i0, i1, show ¬ (1 : Int32) = 0 from by decide, e1, pCX9_readLine, pSX9_readLine, pOX9_readLine, pLX9_readLine, pCX9_isWord, pSX9_isWord, pOX9_isWord, pLX9_isWord, pCX9_readHouse, pSX9_readHouse, pOX9_readHouse, pLX9_readHouse, kl_I, kl_J, kl_R, kl_T, kl_N, Nat.le_refl, Nat.zero_le, List.map_nil, List.map_cons, List.sum_nil, List.sum_cons, c_I, c_J, c_R, c_T, va_rf, hI_wI, hJ_wJ, hR_wR, hI_J, hI_R, hJ_I, hJ_R, hR_I, hR_J, hN_I, hN_J, hN_R, wI_I, wJ_J, upd_at, updL_at, kR_s, Option.toList, List.append_nil, List.nil_append, List.cons_append, if_true, if_false, reduceIte, Bool.false_eq_true, not_true_eq_false, not_false_eq_true, true_and, and_true, false_and, and_false, true_or, or_true,  Nat.reduceEqDiff, Nat.reduceAdd, Nat.reduceLeDiff]
  have c1f : isW (bB tb) t 1 = false := by simpa using c1
  rw [c1f, bI_f] at i1
  by_cases c2 : isW (bB tb) t 2 = true
  · have rv : rsv (bB tb) t = some 2 := by unfold rsv; rw [rsvL, if_neg c0]; rw [rsvL, if_neg c1]; rw [rsvL, if_pos c2]
    obtain ⟨h1, e1, x1⟩ := c_rdSpark (d := d) r (isW_1 c2)
    rw [lLine_2 (isW_1 c2) rv]
    rw [c2, bI_t] at i2
    refine ⟨h1, fun Q => ?_, x1⟩
    simp (implicitDefEqProofs := false) only [eX9_readLine, rX9_readLine_0, rX9_readLine_0b, rX9_readLine_1, rX9_readLine_3, rX9_readLine_6, rX9_readLine_9, rX9_readLine_9b, rX9_readLine_10, rX9_readLine_13, rX9_readLine_16, rX9_readLine_16b, rX9_readLine_17, rX9_readLine_19, rX9_readLine_22, rX9_readLine_25, rX9_readLine_25b, rX9_readLine_26, rX9_readLine_29, rX9_readLine_32, rX9_readLine_32b, rX9_readLine_33, rX9_readLine_35, rX9_readLine_38, rX9_readLine_41, rX9_readLine_41b, rX9_readLine_42, rX9_readLine_45, rX9_readLine_48, rX9_readLine_48b, rX9_readLine_49, rX9_readLine_51, rX9_readLine_54, rX9_readLine_57, rX9_readLine_57b, rX9_readLine_58, rX9_readLine_61, rX9_readLine_64, rX9_readLine_64b, rX9_readLine_65, rX9_readLine_67, rX9_readLine_70, rX9_readLine_73, rX9_readLine_73b, rX9_readLine_74, rX9_readLine_77, rX9_readLine_80, rX9_readLine_80b, rX9_readLine_81, rX9_readLine_83, rX9_readLine_86, rX9_readLine_89, rX9_readLine_89b, rX9_readLine_90, rX9_readLine_93, rX9_readLine_96, rX9_readLine_96b, rX9_readLine_97, rX9_readLine_99, rX9_readLine_102, rX9_readLine_105, rX9_readLine_105b, rX9_readLine_106, rX9_readLine_109, rX9_readLine_112, rX9_readLine_112b, rX9_readLine_113, rX9_readLine_115, rX9_readLine_118, rX9_readLine_121, rX9_readLine_121b, rX9_readLine_122, rX9_readLine_125, rX9_readLine_128, rX9_readLine_128b, rX9_readLine_129, rX9_readLine_130, rX9_readLine_133, kA_44, kB_44, i0, i1, i2, show ¬ (1 : Int32) = 0 from by decide, e1, pCX9_readLine, pSX9_readLine, pOX9_readLine, pLX9_readLine, pCX9_isWord, pSX9_isWord, pOX9_isWord, pLX9_isWord, pCX9_readSpark, pSX9_readSpark, pOX9_readSpark, pLX9_readSpark, kl_I, kl_J, kl_R, kl_T, kl_N, Nat.le_refl, Nat.zero_le, List.map_nil, List.map_cons, List.sum_nil, List.sum_cons, c_I, c_J, c_R, c_T, va_rf, hI_wI, hJ_wJ, hR_wR, hI_J, hI_R, hJ_I, hJ_R, hR_I, hR_J, hN_I, hN_J, hN_R, wI_I, wJ_J, upd_at, updL_at, kR_s, Option.toList, List.append_nil, List.nil_append, List.cons_append, if_true, if_false, reduceIte, Bool.false_eq_true, not_true_eq_false, not_false_eq_true, true_and, and_true, false_and, and_false, true_or, or_true,  Nat.reduceEqDiff, Nat.reduceAdd, Nat.reduceLeDiff]
  have c2f : isW (bB tb) t 2 = false := by simpa using c2
  rw [c2f, bI_f] at i2
  by_cases c3 : isW (bB tb) t 3 = true
  · have rv : rsv (bB tb) t = some 3 := by unfold rsv; rw [rsvL, if_neg c0]; rw [rsvL, if_neg c1]; rw [rsvL, if_neg c2]; rw [rsvL, if_pos c3]
    obtain ⟨h1, e1, x1⟩ := c_rdDoes (d := d) r (isW_1 c3)
    rw [lLine_3 (isW_1 c3) rv]
    rw [c3, bI_t] at i3
    refine ⟨h1, fun Q => ?_, x1⟩
    simp (implicitDefEqProofs := false) only [eX9_readLine, rX9_readLine_0, rX9_readLine_0b, rX9_readLine_1, rX9_readLine_3, rX9_readLine_6, rX9_readLine_9, rX9_readLine_9b, rX9_readLine_10, rX9_readLine_13, rX9_readLine_16, rX9_readLine_16b, rX9_readLine_17, rX9_readLine_19, rX9_readLine_22, rX9_readLine_25, rX9_readLine_25b, rX9_readLine_26, rX9_readLine_29, rX9_readLine_32, rX9_readLine_32b, rX9_readLine_33, rX9_readLine_35, rX9_readLine_38, rX9_readLine_41, rX9_readLine_41b, rX9_readLine_42, rX9_readLine_45, rX9_readLine_48, rX9_readLine_48b, rX9_readLine_49, rX9_readLine_51, rX9_readLine_54, rX9_readLine_57, rX9_readLine_57b, rX9_readLine_58, rX9_readLine_61, rX9_readLine_64, rX9_readLine_64b, rX9_readLine_65, rX9_readLine_67, rX9_readLine_70, rX9_readLine_73, rX9_readLine_73b, rX9_readLine_74, rX9_readLine_77, rX9_readLine_80, rX9_readLine_80b, rX9_readLine_81, rX9_readLine_83, rX9_readLine_86, rX9_readLine_89, rX9_readLine_89b, rX9_readLine_90, rX9_readLine_93, rX9_readLine_96, rX9_readLine_96b, rX9_readLine_97, rX9_readLine_99, rX9_readLine_102, rX9_readLine_105, rX9_readLine_105b, rX9_readLine_106, rX9_readLine_109, rX9_readLine_112, rX9_readLine_112b, rX9_readLine_113, rX9_readLine_115, rX9_readLine_118, rX9_readLine_121, rX9_readLine_121b, rX9_readLine_122, rX9_readLine_125, rX9_readLine_128, rX9_readLine_128b, rX9_readLine_129, rX9_readLine_130, rX9_readLine_133, kA_44, kB_44, i0, i1, i2, i3, show ¬ (1 : Int32) = 0 from by decide, e1, pCX9_readLine, pSX9_readLine, pOX9_readLine, pLX9_readLine, pCX9_isWord, pSX9_isWord, pOX9_isWord, pLX9_isWord, pCX9_readDoes, pSX9_readDoes, pOX9_readDoes, pLX9_readDoes, kl_I, kl_J, kl_R, kl_T, kl_N, Nat.le_refl, Nat.zero_le, List.map_nil, List.map_cons, List.sum_nil, List.sum_cons, c_I, c_J, c_R, c_T, va_rf, hI_wI, hJ_wJ, hR_wR, hI_J, hI_R, hJ_I, hJ_R, hR_I, hR_J, hN_I, hN_J, hN_R, wI_I, wJ_J, upd_at, updL_at, kR_s, Option.toList, List.append_nil, List.nil_append, List.cons_append, if_true, if_false, reduceIte, Bool.false_eq_true, not_true_eq_false, not_false_eq_true, true_and, and_true, false_and, and_false, true_or, or_true,  Nat.reduceEqDiff, Nat.reduceAdd, Nat.reduceLeDiff]
  have c3f : isW (bB tb) t 3 = false := by simpa using c3
  rw [c3f, bI_f] at i3
  by_cases c4 : isW (bB tb) t 4 = true
  · have rv : rsv (bB tb) t = some 4 := by unfold rsv; rw [rsvL, if_neg c0]; rw [rsvL, if_neg c1]; rw [rsvL, if_neg c2]; rw [rsvL, if_neg c3]; rw [rsvL, if_pos c4]
    obtain ⟨h1, e1, x1⟩ := c_rdPulled (d := d) r (isW_1 c4)
    rw [lLine_4 (isW_1 c4) rv]
    rw [c4, bI_t] at i4
    refine ⟨h1, fun Q => ?_, x1⟩
    simp (implicitDefEqProofs := false) only [eX9_readLine, rX9_readLine_0, rX9_readLine_0b, rX9_readLine_1, rX9_readLine_3, rX9_readLine_6, rX9_readLine_9, rX9_readLine_9b, rX9_readLine_10, rX9_readLine_13, rX9_readLine_16, rX9_readLine_16b, rX9_readLine_17, rX9_readLine_19, rX9_readLine_22, rX9_readLine_25, rX9_readLine_25b, rX9_readLine_26, rX9_readLine_29, rX9_readLine_32, rX9_readLine_32b, rX9_readLine_33, rX9_readLine_35, rX9_readLine_38, rX9_readLine_41, rX9_readLine_41b, rX9_readLine_42, rX9_readLine_45, rX9_readLine_48, rX9_readLine_48b, rX9_readLine_49, rX9_readLine_51, rX9_readLine_54, rX9_readLine_57, rX9_readLine_57b, rX9_readLine_58, rX9_readLine_61, rX9_readLine_64, rX9_readLine_64b, rX9_readLine_65, rX9_readLine_67, rX9_readLine_70, rX9_readLine_73, rX9_readLine_73b, rX9_readLine_74, rX9_readLine_77, rX9_readLine_80, rX9_readLine_80b, rX9_readLine_81, rX9_readLine_83, rX9_readLine_86, rX9_readLine_89, rX9_readLine_89b, rX9_readLine_90, rX9_readLine_93, rX9_readLine_96, rX9_readLine_96b, rX9_readLine_97, rX9_readLine_99, rX9_readLine_102, rX9_readLine_105, rX9_readLine_105b, rX9_readLine_106, rX9_readLine_109, rX9_readLine_112, rX9_readLine_112b, rX9_readLine_113, rX9_readLine_115, rX9_readLine_118, rX9_readLine_121, rX9_readLine_121b, rX9_readLine_122, rX9_readLine_125, rX9_readLine_128, rX9_readLine_128b, rX9_readLine_129, rX9_readLine_130, rX9_readLine_133, kA_44, kB_44, i0, i1, i2, i3, i4, show ¬ (1 : Int32) = 0 from by decide, e1, pCX9_readLine, pSX9_readLine, pOX9_readLine, pLX9_readLine, pCX9_isWord, pSX9_isWord, pOX9_isWord, pLX9_isWord, pCX9_readPulled, pSX9_readPulled, pOX9_readPulled, pLX9_readPulled, kl_I, kl_J, kl_R, kl_T, kl_N, Nat.le_refl, Nat.zero_le, List.map_nil, List.map_cons, List.sum_nil, List.sum_cons, c_I, c_J, c_R, c_T, va_rf, hI_wI, hJ_wJ, hR_wR, hI_J, hI_R, hJ_I, hJ_R, hR_I, hR_J, hN_I, hN_J, hN_R, wI_I, wJ_J, upd_at, updL_at, kR_s, Option.toList, List.append_nil, List.nil_append, List.cons_append, if_true, if_false, reduceIte, Bool.false_eq_true, not_true_eq_false, not_false_eq_true, true_and, and_true, false_and, and_false, true_or, or_true,  Nat.reduceEqDiff, Nat.reduceAdd, Nat.reduceLeDiff]
  have c4f : isW (bB tb) t 4 = false := by simpa using c4
  rw [c4f, bI_f] at i4
  by_cases c5 : isW (bB tb) t 5 = true
  · have rv : rsv (bB tb) t = some 5 := by unfold rsv; rw [rsvL, if_neg c0]; rw [rsvL, if_neg c1]; rw [rsvL, if_neg c2]; rw [rsvL, if_neg c3]; rw [rsvL, if_neg c4]; rw [rsvL, if_pos c5]
    obtain ⟨h1, e1, x1⟩ := c_rdGlass (d := d) r (isW_1 c5)
    rw [lLine_5 (isW_1 c5) rv]
    rw [c5, bI_t] at i5
    refine ⟨h1, fun Q => ?_, x1⟩
    simp (implicitDefEqProofs := false) only [eX9_readLine, rX9_readLine_0, rX9_readLine_0b, rX9_readLine_1, rX9_readLine_3, rX9_readLine_6, rX9_readLine_9, rX9_readLine_9b, rX9_readLine_10, rX9_readLine_13, rX9_readLine_16, rX9_readLine_16b, rX9_readLine_17, rX9_readLine_19, rX9_readLine_22, rX9_readLine_25, rX9_readLine_25b, rX9_readLine_26, rX9_readLine_29, rX9_readLine_32, rX9_readLine_32b, rX9_readLine_33, rX9_readLine_35, rX9_readLine_38, rX9_readLine_41, rX9_readLine_41b, rX9_readLine_42, rX9_readLine_45, rX9_readLine_48, rX9_readLine_48b, rX9_readLine_49, rX9_readLine_51, rX9_readLine_54, rX9_readLine_57, rX9_readLine_57b, rX9_readLine_58, rX9_readLine_61, rX9_readLine_64, rX9_readLine_64b, rX9_readLine_65, rX9_readLine_67, rX9_readLine_70, rX9_readLine_73, rX9_readLine_73b, rX9_readLine_74, rX9_readLine_77, rX9_readLine_80, rX9_readLine_80b, rX9_readLine_81, rX9_readLine_83, rX9_readLine_86, rX9_readLine_89, rX9_readLine_89b, rX9_readLine_90, rX9_readLine_93, rX9_readLine_96, rX9_readLine_96b, rX9_readLine_97, rX9_readLine_99, rX9_readLine_102, rX9_readLine_105, rX9_readLine_105b, rX9_readLine_106, rX9_readLine_109, rX9_readLine_112, rX9_readLine_112b, rX9_readLine_113, rX9_readLine_115, rX9_readLine_118, rX9_readLine_121, rX9_readLine_121b, rX9_readLine_122, rX9_readLine_125, rX9_readLine_128, rX9_readLine_128b, rX9_readLine_129, rX9_readLine_130, rX9_readLine_133, kA_44, kB_44, i0, i1, i2, i3, i4, i5, show ¬ (1 : Int32) = 0 from by decide, e1, pCX9_readLine, pSX9_readLine, pOX9_readLine, pLX9_readLine, pCX9_isWord, pSX9_isWord, pOX9_isWord, pLX9_isWord, pCX9_readGlass, pSX9_readGlass, pOX9_readGlass, pLX9_readGlass, kl_I, kl_J, kl_R, kl_T, kl_N, Nat.le_refl, Nat.zero_le, List.map_nil, List.map_cons, List.sum_nil, List.sum_cons, c_I, c_J, c_R, c_T, va_rf, hI_wI, hJ_wJ, hR_wR, hI_J, hI_R, hJ_I, hJ_R, hR_I, hR_J, hN_I, hN_J, hN_R, wI_I, wJ_J, upd_at, updL_at, kR_s, Option.toList, List.append_nil, List.nil_append, List.cons_append, if_true, if_false, reduceIte, Bool.false_eq_true, not_true_eq_false, not_false_eq_true, true_and, and_true, false_and, and_false, true_or, or_true,  Nat.reduceEqDiff, Nat.reduceAdd, Nat.reduceLeDiff]
  have c5f : isW (bB tb) t 5 = false := by simpa using c5
  rw [c5f, bI_f] at i5
  by_cases c6 : isW (bB tb) t 6 = true
  · have rv : rsv (bB tb) t = some 6 := by unfold rsv; rw [rsvL, if_neg c0]; rw [rsvL, if_neg c1]; rw [rsvL, if_neg c2]; rw [rsvL, if_neg c3]; rw [rsvL, if_neg c4]; rw [rsvL, if_neg c5]; rw [rsvL, if_pos c6]
    obtain ⟨h1, e1, x1⟩ := c_rdUnknown (d := d) r (isW_1 c6)
    rw [lLine_6 (isW_1 c6) rv]
    rw [c6, bI_t] at i6
    refine ⟨h1, fun Q => ?_, x1⟩
    simp (implicitDefEqProofs := false) only [eX9_readLine, rX9_readLine_0, rX9_readLine_0b, rX9_readLine_1, rX9_readLine_3, rX9_readLine_6, rX9_readLine_9, rX9_readLine_9b, rX9_readLine_10, rX9_readLine_13, rX9_readLine_16, rX9_readLine_16b, rX9_readLine_17, rX9_readLine_19, rX9_readLine_22, rX9_readLine_25, rX9_readLine_25b, rX9_readLine_26, rX9_readLine_29, rX9_readLine_32, rX9_readLine_32b, rX9_readLine_33, rX9_readLine_35, rX9_readLine_38, rX9_readLine_41, rX9_readLine_41b, rX9_readLine_42, rX9_readLine_45, rX9_readLine_48, rX9_readLine_48b, rX9_readLine_49, rX9_readLine_51, rX9_readLine_54, rX9_readLine_57, rX9_readLine_57b, rX9_readLine_58, rX9_readLine_61, rX9_readLine_64, rX9_readLine_64b, rX9_readLine_65, rX9_readLine_67, rX9_readLine_70, rX9_readLine_73, rX9_readLine_73b, rX9_readLine_74, rX9_readLine_77, rX9_readLine_80, rX9_readLine_80b, rX9_readLine_81, rX9_readLine_83, rX9_readLine_86, rX9_readLine_89, rX9_readLine_89b, rX9_readLine_90, rX9_readLine_93, rX9_readLine_96, rX9_readLine_96b, rX9_readLine_97, rX9_readLine_99, rX9_readLine_102, rX9_readLine_105, rX9_readLine_105b, rX9_readLine_106, rX9_readLine_109, rX9_readLine_112, rX9_readLine_112b, rX9_readLine_113, rX9_readLine_115, rX9_readLine_118, rX9_readLine_121, rX9_readLine_121b, rX9_readLine_122, rX9_readLine_125, rX9_readLine_128, rX9_readLine_128b, rX9_readLine_129, rX9_readLine_130, rX9_readLine_133, kA_44, kB_44, i0, i1, i2, i3, i4, i5, i6, show ¬ (1 : Int32) = 0 from by decide, e1, pCX9_readLine, pSX9_readLine, pOX9_readLine, pLX9_readLine, pCX9_isWord, pSX9_isWord, pOX9_isWord, pLX9_isWord, pCX9_readUnknown, pSX9_readUnknown, pOX9_readUnknown, pLX9_readUnknown, kl_I, kl_J, kl_R, kl_T, kl_N, Nat.le_refl, Nat.zero_le, List.map_nil, List.map_cons, List.sum_nil, List.sum_cons, c_I, c_J, c_R, c_T, va_rf, hI_wI, hJ_wJ, hR_wR, hI_J, hI_R, hJ_I, hJ_R, hR_I, hR_J, hN_I, hN_J, hN_R, wI_I, wJ_J, upd_at, updL_at, kR_s, Option.toList, List.append_nil, List.nil_append, List.cons_append, if_true, if_false, reduceIte, Bool.false_eq_true, not_true_eq_false, not_false_eq_true, true_and, and_true, false_and, and_false, true_or, or_true,  Nat.reduceEqDiff, Nat.reduceAdd, Nat.reduceLeDiff]
  have c6f : isW (bB tb) t 6 = false := by simpa using c6
  rw [c6f, bI_f] at i6
  by_cases c7 : isW (bB tb) t 7 = true
  · have rv : rsv (bB tb) t = some 7 := by unfold rsv; rw [rsvL, if_neg c0]; rw [rsvL, if_neg c1]; rw [rsvL, if_neg c2]; rw [rsvL, if_neg c3]; rw [rsvL, if_neg c4]; rw [rsvL, if_neg c5]; rw [rsvL, if_neg c6]; rw [rsvL, if_pos c7]
    obtain ⟨h1, e1, x1⟩ := c_rdRung (d := d) r (isW_1 c7)
    rw [lLine_7 (isW_1 c7) rv]
    rw [c7, bI_t] at i7
    refine ⟨h1, fun Q => ?_, x1⟩
    simp (implicitDefEqProofs := false) only [eX9_readLine, rX9_readLine_0, rX9_readLine_0b, rX9_readLine_1, rX9_readLine_3, rX9_readLine_6, rX9_readLine_9, rX9_readLine_9b, rX9_readLine_10, rX9_readLine_13, rX9_readLine_16, rX9_readLine_16b, rX9_readLine_17, rX9_readLine_19, rX9_readLine_22, rX9_readLine_25, rX9_readLine_25b, rX9_readLine_26, rX9_readLine_29, rX9_readLine_32, rX9_readLine_32b, rX9_readLine_33, rX9_readLine_35, rX9_readLine_38, rX9_readLine_41, rX9_readLine_41b, rX9_readLine_42, rX9_readLine_45, rX9_readLine_48, rX9_readLine_48b, rX9_readLine_49, rX9_readLine_51, rX9_readLine_54, rX9_readLine_57, rX9_readLine_57b, rX9_readLine_58, rX9_readLine_61, rX9_readLine_64, rX9_readLine_64b, rX9_readLine_65, rX9_readLine_67, rX9_readLine_70, rX9_readLine_73, rX9_readLine_73b, rX9_readLine_74, rX9_readLine_77, rX9_readLine_80, rX9_readLine_80b, rX9_readLine_81, rX9_readLine_83, rX9_readLine_86, rX9_readLine_89, rX9_readLine_89b, rX9_readLine_90, rX9_readLine_93, rX9_readLine_96, rX9_readLine_96b, rX9_readLine_97, rX9_readLine_99, rX9_readLine_102, rX9_readLine_105, rX9_readLine_105b, rX9_readLine_106, rX9_readLine_109, rX9_readLine_112, rX9_readLine_112b, rX9_readLine_113, rX9_readLine_115, rX9_readLine_118, rX9_readLine_121, rX9_readLine_121b, rX9_readLine_122, rX9_readLine_125, rX9_readLine_128, rX9_readLine_128b, rX9_readLine_129, rX9_readLine_130, rX9_readLine_133, kA_44, kB_44, i0, i1, i2, i3, i4, i5, i6, i7, show ¬ (1 : Int32) = 0 from by decide, e1, pCX9_readLine, pSX9_readLine, pOX9_readLine, pLX9_readLine, pCX9_isWord, pSX9_isWord, pOX9_isWord, pLX9_isWord, pCX9_readRung, pSX9_readRung, pOX9_readRung, pLX9_readRung, kl_I, kl_J, kl_R, kl_T, kl_N, Nat.le_refl, Nat.zero_le, List.map_nil, List.map_cons, List.sum_nil, List.sum_cons, c_I, c_J, c_R, c_T, va_rf, hI_wI, hJ_wJ, hR_wR, hI_J, hI_R, hJ_I, hJ_R, hR_I, hR_J, hN_I, hN_J, hN_R, wI_I, wJ_J, upd_at, updL_at, kR_s, Option.toList, List.append_nil, List.nil_append, List.cons_append, if_true, if_false, reduceIte, Bool.false_eq_true, not_true_eq_false, not_false_eq_true, true_and, and_true, false_and, and_false, true_or, or_true,  Nat.reduceEqDiff, Nat.reduceAdd, Nat.reduceLeDiff]
  have c7f : isW (bB tb) t 7 = false := by simpa using c7
  rw [c7f, bI_f] at i7
  rw [lLine_8 (fun j hj => by
    rcases (show j = 0 ∨ j = 1 ∨ j = 2 ∨ j = 3 ∨ j = 4 ∨ j = 5 ∨ j = 6 ∨ j = 7 by omega) with rfl | rfl | rfl | rfl | rfl | rfl | rfl | rfl <;> assumption)]
  have fl : ∀ Q, WM (d + 9) mX9_flaw [.ref (44 : Nat), .int 1] h Q = Q (some none) (flH h (nI 1)) := c_fl9 (d := d + 9) (v := 1) (RM_9 r)
  refine ⟨flH h (nI 1), fun Q => ?_, fl_rg, st, RO_fl 1 r⟩
  simp (implicitDefEqProofs := false) only [eX9_readLine, rX9_readLine_0, rX9_readLine_0b, rX9_readLine_1, rX9_readLine_3, rX9_readLine_6, rX9_readLine_9, rX9_readLine_9b, rX9_readLine_10, rX9_readLine_13, rX9_readLine_16, rX9_readLine_16b, rX9_readLine_17, rX9_readLine_19, rX9_readLine_22, rX9_readLine_25, rX9_readLine_25b, rX9_readLine_26, rX9_readLine_29, rX9_readLine_32, rX9_readLine_32b, rX9_readLine_33, rX9_readLine_35, rX9_readLine_38, rX9_readLine_41, rX9_readLine_41b, rX9_readLine_42, rX9_readLine_45, rX9_readLine_48, rX9_readLine_48b, rX9_readLine_49, rX9_readLine_51, rX9_readLine_54, rX9_readLine_57, rX9_readLine_57b, rX9_readLine_58, rX9_readLine_61, rX9_readLine_64, rX9_readLine_64b, rX9_readLine_65, rX9_readLine_67, rX9_readLine_70, rX9_readLine_73, rX9_readLine_73b, rX9_readLine_74, rX9_readLine_77, rX9_readLine_80, rX9_readLine_80b, rX9_readLine_81, rX9_readLine_83, rX9_readLine_86, rX9_readLine_89, rX9_readLine_89b, rX9_readLine_90, rX9_readLine_93, rX9_readLine_96, rX9_readLine_96b, rX9_readLine_97, rX9_readLine_99, rX9_readLine_102, rX9_readLine_105, rX9_readLine_105b, rX9_readLine_106, rX9_readLine_109, rX9_readLine_112, rX9_readLine_112b, rX9_readLine_113, rX9_readLine_115, rX9_readLine_118, rX9_readLine_121, rX9_readLine_121b, rX9_readLine_122, rX9_readLine_125, rX9_readLine_128, rX9_readLine_128b, rX9_readLine_129, rX9_readLine_130, rX9_readLine_133, kA_44, kB_44, i0, i1, i2, i3, i4, i5, i6, i7, fl, pCX9_readLine, pSX9_readLine, pOX9_readLine, pLX9_readLine, pCX9_isWord, pSX9_isWord, pOX9_isWord, pLX9_isWord, pCX9_flaw, pSX9_flaw, pOX9_flaw, pLX9_flaw, kl_I, kl_J, kl_R, kl_T, kl_N, Nat.le_refl, Nat.zero_le, List.map_nil, List.map_cons, List.sum_nil, List.sum_cons, c_I, c_J, c_R, c_T, va_rf, hI_wI, hJ_wJ, hR_wR, hI_J, hI_R, hJ_I, hJ_R, hR_I, hR_J, hN_I, hN_J, hN_R, wI_I, wJ_J, upd_at, updL_at, kR_s, Option.toList, List.append_nil, List.nil_append, List.cons_append, if_true, if_false, reduceIte, Bool.false_eq_true, not_true_eq_false, not_false_eq_true, true_and, and_true, false_and, and_false, true_or, or_true,  Nat.reduceEqDiff, Nat.reduceAdd, Nat.reduceLeDiff]
theorem srt_4 {k : Nat} : (nI (srt k) = 4) = (k = 3) := by
  unfold srt
  apply propext
  split
  · rename_i q; subst q; decide
  · split
    · rename_i q; subst q; decide
    · split
      · rename_i q; subst q; decide
      · split
        · rename_i q; subst q; decide
        · constructor
          · intro q; exact absurd q (by decide)
          · intro q; omega
theorem srt_1 {k : Nat} : (nI (srt k) = 1) = (k = 0) := by
  unfold srt
  apply propext
  split
  · rename_i q; subst q; decide
  · split
    · rename_i q; subst q; decide
    · split
      · rename_i q; subst q; decide
      · split
        · rename_i q; subst q; decide
        · constructor
          · intro q; exact absurd q (by decide)
          · intro q; omega
theorem c_eats {d : Nat} {h : qH} {s n : Nat} {tb : Nat → Int32} {st : PS} {t : tK} (r : RM h s n tb st t) : if t.1 = 3 then ∃ h', (∀ Q, WM (d + 2) mX9_eatsSemicolon [.ref (44 : Nat)] h Q = Q (some (some (.int 1))) h') ∧ rg9 s h h' ∧ RM h' s n tb st (tkN (bB tb) n t.2.2) else ∀ Q, WM (d + 2) mX9_eatsSemicolon [.ref (44 : Nat)] h Q = Q (some (some (.int 0))) h := by
  have r9 := r.2.2.2.1.2.1
  have q4 : (hI h 44 9 = 4) = (t.1 = 3) := by rw [r9]; exact srt_4
  by_cases c : t.1 = 3
  · rw [if_pos c]
    obtain ⟨h1, e1, x1, r1⟩ := c_st9 (d := d) r (by omega)
    refine ⟨h1, fun Q => ?_, x1, r1⟩
    simp (implicitDefEqProofs := false) only [eX9_eatsSemicolon, rX9_eatsSemicolon_0, rX9_eatsSemicolon_0b, rX9_eatsSemicolon_1, rX9_eatsSemicolon_4, rX9_eatsSemicolon_5, rX9_eatsSemicolon_8, rX9_eatsSemicolon_9, rX9_eatsSemicolon_12, rX9_eatsSemicolon_13, rX9_eatsSemicolon_14, rX9_eatsSemicolon_15, rX9_eatsSemicolon_18, rX9_eatsSemicolon_18b, rX9_eatsSemicolon_19, rX9_eatsSemicolon_22, rX9_eatsSemicolon_23, kA_44, kB_44, q4.trans (eq_true c), show ¬ (1 : Int32) = 0 from by decide, e1, pCX9_eatsSemicolon, pSX9_eatsSemicolon, pOX9_eatsSemicolon, pLX9_eatsSemicolon, pCX9_goesOn, pSX9_goesOn, pOX9_goesOn, pLX9_goesOn, kl_I, kl_J, kl_R, kl_T, kl_N, Nat.le_refl, Nat.zero_le, List.map_nil, List.map_cons, List.sum_nil, List.sum_cons, c_I, c_J, c_R, c_T, va_rf, hI_wI, hJ_wJ, hR_wR, hI_J, hI_R, hJ_I, hJ_R, hR_I, hR_J, hN_I, hN_J, hN_R, wI_I, wJ_J, upd_at, updL_at, kR_s, Option.toList, List.append_nil, List.nil_append, List.cons_append, if_true, if_false, reduceIte, Bool.false_eq_true, not_true_eq_false, not_false_eq_true, true_and, and_true, false_and, and_false, true_or, or_true,  Nat.reduceEqDiff, Nat.reduceAdd, Nat.reduceLeDiff]
  · rw [if_neg c]
    intro Q
    simp (implicitDefEqProofs := false) only [eX9_eatsSemicolon, rX9_eatsSemicolon_0, rX9_eatsSemicolon_0b, rX9_eatsSemicolon_1, rX9_eatsSemicolon_4, rX9_eatsSemicolon_5, rX9_eatsSemicolon_8, rX9_eatsSemicolon_9, rX9_eatsSemicolon_12, rX9_eatsSemicolon_13, rX9_eatsSemicolon_14, rX9_eatsSemicolon_15, rX9_eatsSemicolon_18, rX9_eatsSemicolon_18b, rX9_eatsSemicolon_19, rX9_eatsSemicolon_22, rX9_eatsSemicolon_23, kA_44, kB_44, q4, c, pCX9_eatsSemicolon, pSX9_eatsSemicolon, pOX9_eatsSemicolon, pLX9_eatsSemicolon, kl_I, kl_J, kl_R, kl_T, kl_N, Nat.le_refl, Nat.zero_le, List.map_nil, List.map_cons, List.sum_nil, List.sum_cons, c_I, c_J, c_R, c_T, va_rf, hI_wI, hJ_wJ, hR_wR, hI_J, hI_R, hJ_I, hJ_R, hR_I, hR_J, hN_I, hN_J, hN_R, wI_I, wJ_J, upd_at, updL_at, kR_s, Option.toList, List.append_nil, List.nil_append, List.cons_append, if_true, if_false, reduceIte, Bool.false_eq_true, not_true_eq_false, not_false_eq_true, true_and, and_true, false_and, and_false, true_or, or_true,  Nat.reduceEqDiff, Nat.reduceAdd, Nat.reduceLeDiff]
/-- the whole text -/
def ocA (h h' : qH) (s n : Nat) (tb : Nat → Int32) (R : RE PS) : Prop := rg9 s h h' ∧ match R with
  | .inr st => ∃ t, RM h' s n tb st t
  | .inl e => ∃ st, RO h' s st e
theorem l_readAll {d : Nat} {s n : Nat} {tb : Nat → Int32} : ∀ (k i : Nat), i + k = 901 → ∀ (h : qH) (st : PS) (t : tK), RM h s n tb st t → i ≤ t.2.1 → ∃ h', (∀ Q, WP (d + 11) mX9_readAll (0, 0) 2 [some (.ref (44 : Nat)), some (.int 1)] [] h Q = Q (some none) h') ∧ ocA h h' s n tb (prs (bB tb) n k st t) := by
  intro k
  induction k with
  | zero =>
    intro i hi h st t r ht
    have := r.1.2.2.1
    have := r.2.2.2.2.1.2.1
    have := r.2.2.2.2.1.2.2.1
    omega
  | succ k ih =>
    intro i hi h st t r ht
    obtain ⟨h1, e1, x1, q1⟩ := c_readLine (d := d) r
    rw [prs]
    cases hl : lLine (bB tb) n st t with
    | inl e =>
      rw [hl] at q1
      obtain ⟨st', o⟩ := q1
      have o5 := o.2.2.2.1
      have hs := o.2.2.1.1
      have r41 := o.2.1
      have h6 := o.2.2.1.2.2.1.1
      have v1 := o.2.2.1.2.2.2.1.2.1
      refine ⟨h1, fun Q => ?_, x1, st', o⟩
      have vz : (nI (aN st'.1) = 0) = (aN st'.1 = 0) := nq (x := aN st'.1) (k := 0) (c := 0) rfl (by omega) (by omega)
      by_cases cz : aN st'.1 = 0
      · simp (implicitDefEqProofs := false) only [rX9_readAll_2, rX9_readAll_3, rX9_readAll_6, rX9_readAll_6b, rX9_readAll_7, rX9_readAll_10, rX9_readAll_10b, rX9_readAll_11, rX9_readAll_14, kA_44, kB_44, show ¬ (1 : Int32) = 0 from by decide, e1, o_eats (d := d + 10) o5, pCX9_readAll, pSX9_readAll, pOX9_readAll, pLX9_readAll, pCX9_readLine, pSX9_readLine, pOX9_readLine, pLX9_readLine, pCX9_eatsSemicolon, pSX9_eatsSemicolon, pOX9_eatsSemicolon, pLX9_eatsSemicolon, kl_I, kl_J, kl_R, kl_T, kl_N, Nat.le_refl, Nat.zero_le, List.map_nil, List.map_cons, List.sum_nil, List.sum_cons, c_I, c_J, c_R, c_T, va_rf, hI_wI, hJ_wJ, hR_wR, hI_J, hI_R, hJ_I, hJ_R, hR_I, hR_J, hN_I, hN_J, hN_R, wI_I, wJ_J, upd_at, updL_at, kR_s, Option.toList, List.append_nil, List.nil_append, List.cons_append, if_true, if_false, reduceIte, Bool.false_eq_true, not_true_eq_false, not_false_eq_true, true_and, and_true, false_and, and_false, true_or, or_true,  Nat.reduceEqDiff, Nat.reduceAdd, Nat.reduceLeDiff]
        rw [rX9_readAll_15]
        simp (implicitDefEqProofs := false) only [rX9_readAll_2, rX9_readAll_3, rX9_readAll_18, rX9_readAll_18b, rX9_readAll_19, rX9_readAll_22, rX9_readAll_23, rX9_readAll_26, rX9_readAll_26b, rX9_readAll_27, rX9_readAll_28, rX9_readAll_31, rX9_readAll_31b, rX9_readAll_32, rX9_readAll_35, rX9_readAll_38, rX9_readAll_41, rX9_readAll_41b, rX9_readAll_42, rX9_readAll_44, rX9_readAll_47, kA_44, kB_44, kU0 hs, r41, o5, show ¬ (5 : Int32) = 1 from by decide, fun v => o_flaw (d := d + 10) (v := v) o5, v1, vz.trans (eq_true cz), pCX9_readAll, pSX9_readAll, pOX9_readAll, pLX9_readAll, pCX9_flaw, pSX9_flaw, pOX9_flaw, pLX9_flaw, kl_I, kl_J, kl_R, kl_T, kl_N, Nat.le_refl, Nat.zero_le, List.map_nil, List.map_cons, List.sum_nil, List.sum_cons, c_I, c_J, c_R, c_T, va_rf, hI_wI, hJ_wJ, hR_wR, hI_J, hI_R, hJ_I, hJ_R, hR_I, hR_J, hN_I, hN_J, hN_R, wI_I, wJ_J, upd_at, updL_at, kR_s, Option.toList, List.append_nil, List.nil_append, List.cons_append, if_true, if_false, reduceIte, Bool.false_eq_true, not_true_eq_false, not_false_eq_true, true_and, and_true, false_and, and_false, true_or, or_true,  Nat.reduceEqDiff, Nat.reduceAdd, Nat.reduceLeDiff]
      · simp (implicitDefEqProofs := false) only [rX9_readAll_2, rX9_readAll_3, rX9_readAll_6, rX9_readAll_6b, rX9_readAll_7, rX9_readAll_10, rX9_readAll_10b, rX9_readAll_11, rX9_readAll_14, kA_44, kB_44, show ¬ (1 : Int32) = 0 from by decide, e1, o_eats (d := d + 10) o5, pCX9_readAll, pSX9_readAll, pOX9_readAll, pLX9_readAll, pCX9_readLine, pSX9_readLine, pOX9_readLine, pLX9_readLine, pCX9_eatsSemicolon, pSX9_eatsSemicolon, pOX9_eatsSemicolon, pLX9_eatsSemicolon, kl_I, kl_J, kl_R, kl_T, kl_N, Nat.le_refl, Nat.zero_le, List.map_nil, List.map_cons, List.sum_nil, List.sum_cons, c_I, c_J, c_R, c_T, va_rf, hI_wI, hJ_wJ, hR_wR, hI_J, hI_R, hJ_I, hJ_R, hR_I, hR_J, hN_I, hN_J, hN_R, wI_I, wJ_J, upd_at, updL_at, kR_s, Option.toList, List.append_nil, List.nil_append, List.cons_append, if_true, if_false, reduceIte, Bool.false_eq_true, not_true_eq_false, not_false_eq_true, true_and, and_true, false_and, and_false, true_or, or_true,  Nat.reduceEqDiff, Nat.reduceAdd, Nat.reduceLeDiff]
        rw [rX9_readAll_15]
        simp (implicitDefEqProofs := false) only [rX9_readAll_2, rX9_readAll_3, rX9_readAll_18, rX9_readAll_18b, rX9_readAll_19, rX9_readAll_22, rX9_readAll_23, rX9_readAll_26, rX9_readAll_26b, rX9_readAll_27, rX9_readAll_28, rX9_readAll_31, rX9_readAll_31b, rX9_readAll_32, rX9_readAll_35, rX9_readAll_38, rX9_readAll_41, rX9_readAll_41b, rX9_readAll_42, rX9_readAll_44, rX9_readAll_47, kA_44, kB_44, kU0 hs, r41, o5, show ¬ (5 : Int32) = 1 from by decide, fun v => o_flaw (d := d + 10) (v := v) o5, v1, vz, cz, pCX9_readAll, pSX9_readAll, pOX9_readAll, pLX9_readAll, pCX9_flaw, pSX9_flaw, pOX9_flaw, pLX9_flaw, kl_I, kl_J, kl_R, kl_T, kl_N, Nat.le_refl, Nat.zero_le, List.map_nil, List.map_cons, List.sum_nil, List.sum_cons, c_I, c_J, c_R, c_T, va_rf, hI_wI, hJ_wJ, hR_wR, hI_J, hI_R, hJ_I, hJ_R, hR_I, hR_J, hN_I, hN_J, hN_R, wI_I, wJ_J, upd_at, updL_at, kR_s, Option.toList, List.append_nil, List.nil_append, List.cons_append, if_true, if_false, reduceIte, Bool.false_eq_true, not_true_eq_false, not_false_eq_true, true_and, and_true, false_and, and_false, true_or, or_true,  Nat.reduceEqDiff, Nat.reduceAdd, Nat.reduceLeDiff]
    | inr p =>
      rw [hl] at q1
      have le := lLine_le r.2.2.2.2.1 hl
      have ea := c_eats (d := d + 8) q1
      rw [bd_r]
      have r9 := q1.2.2.2.1.2.1
      have hs := q1.2.2.1.1
      have r41 := q1.2.1
      have h6 := q1.2.2.1.2.2.1.1
      have v1 := q1.2.2.1.2.2.2.1.2.1
      have vz : (nI (aN p.1.1) = 0) = (aN p.1.1 = 0) := nq (x := aN p.1.1) (k := 0) (c := 0) rfl (by omega) (by omega)
      by_cases c3 : p.2.1 = 3
      · rw [if_pos c3] at ea
        obtain ⟨h2, e2, x2, r2⟩ := ea
        rw [if_neg (by omega), if_pos c3]
        have lt := q1.2.2.2.2.1.2.2.2.2.2 (by omega)
        have tk := (tkN_ok (b := bB tb) q1.2.2.2.2.1.2.2.1).2
        have ll := le.2
        obtain ⟨h3, e3, x3, q3⟩ := ih (i + 1) (by omega) h2 p.1 (tkN (bB tb) n p.2.2.2) r2 (by omega)
        refine ⟨h3, fun Q => ?_, rg_tr x1 (rg_tr x2 x3), q3⟩
        have e3 := e3 Q
        simp (implicitDefEqProofs := false) only [rX9_readAll_2, rX9_readAll_3, rX9_readAll_6, rX9_readAll_6b, rX9_readAll_7, rX9_readAll_10, rX9_readAll_10b, rX9_readAll_11, rX9_readAll_14, kA_44, kB_44, show ¬ (1 : Int32) = 0 from by decide, e1, e2, pCX9_readAll, pSX9_readAll, pOX9_readAll, pLX9_readAll, pCX9_readLine, pSX9_readLine, pOX9_readLine, pLX9_readLine, pCX9_eatsSemicolon, pSX9_eatsSemicolon, pOX9_eatsSemicolon, pLX9_eatsSemicolon, kl_I, kl_J, kl_R, kl_T, kl_N, Nat.le_refl, Nat.zero_le, List.map_nil, List.map_cons, List.sum_nil, List.sum_cons, c_I, c_J, c_R, c_T, va_rf, hI_wI, hJ_wJ, hR_wR, hI_J, hI_R, hJ_I, hJ_R, hR_I, hR_J, hN_I, hN_J, hN_R, wI_I, wJ_J, upd_at, updL_at, kR_s, Option.toList, List.append_nil, List.nil_append, List.cons_append, if_true, if_false, reduceIte, Bool.false_eq_true, not_true_eq_false, not_false_eq_true, true_and, and_true, false_and, and_false, true_or, or_true,  Nat.reduceEqDiff, Nat.reduceAdd, Nat.reduceLeDiff]
        rw [rX9_readAll_15]
        exact e3
      · rw [if_neg c3] at ea
        have n51 := RM_9 q1
        have qe : (hI h1 44 9 = 1) = (p.2.1 = 0) := by rw [r9]; exact srt_1
        have st1 : ∀ Q X, WP (d + 11) mX9_readAll (0, 0) 18 [some (.ref (44 : Nat)), some (.int 0)] [] h1 Q = X → WP (d + 11) mX9_readAll (0, 0) 2 [some (.ref (44 : Nat)), some (.int 1)] [] h Q = X := fun Q X hX => by
          simp (implicitDefEqProofs := false) only [rX9_readAll_2, rX9_readAll_3, rX9_readAll_6, rX9_readAll_6b, rX9_readAll_7, rX9_readAll_10, rX9_readAll_10b, rX9_readAll_11, rX9_readAll_14, kA_44, kB_44, show ¬ (1 : Int32) = 0 from by decide, e1, ea, pCX9_readAll, pSX9_readAll, pOX9_readAll, pLX9_readAll, pCX9_readLine, pSX9_readLine, pOX9_readLine, pLX9_readLine, pCX9_eatsSemicolon, pSX9_eatsSemicolon, pOX9_eatsSemicolon, pLX9_eatsSemicolon, kl_I, kl_J, kl_R, kl_T, kl_N, Nat.le_refl, Nat.zero_le, List.map_nil, List.map_cons, List.sum_nil, List.sum_cons, c_I, c_J, c_R, c_T, va_rf, hI_wI, hJ_wJ, hR_wR, hI_J, hI_R, hJ_I, hJ_R, hR_I, hR_J, hN_I, hN_J, hN_R, wI_I, wJ_J, upd_at, updL_at, kR_s, Option.toList, List.append_nil, List.nil_append, List.cons_append, if_true, if_false, reduceIte, Bool.false_eq_true, not_true_eq_false, not_false_eq_true, true_and, and_true, false_and, and_false, true_or, or_true,  Nat.reduceEqDiff, Nat.reduceAdd, Nat.reduceLeDiff]
          rw [rX9_readAll_15]
          simp (implicitDefEqProofs := false) only [rX9_readAll_2, rX9_readAll_3, kl_I, kl_J, kl_R, kl_T, kl_N, Nat.le_refl, Nat.zero_le, List.map_nil, List.map_cons, List.sum_nil, List.sum_cons, c_I, c_J, c_R, c_T, va_rf, hI_wI, hJ_wJ, hR_wR, hI_J, hI_R, hJ_I, hJ_R, hR_I, hR_J, hN_I, hN_J, hN_R, wI_I, wJ_J, upd_at, updL_at, kR_s, Option.toList, List.append_nil, List.nil_append, List.cons_append, if_true, if_false, reduceIte, Bool.false_eq_true, not_true_eq_false, not_false_eq_true, true_and, and_true, false_and, and_false, true_or, or_true,  Nat.reduceEqDiff, Nat.reduceAdd, Nat.reduceLeDiff]
          exact hX
        by_cases c0 : p.2.1 = 0
        · rw [if_pos c0]
          by_cases cz : aN p.1.1 = 0
          · rw [if_neg (by omega)]
            have fl : ∀ Q, WM (d + 10) mX9_flaw [.ref (44 : Nat), .int 6] h1 Q = Q (some none) (flH h1 (nI 6)) := c_fl9 (d := d + 10) (v := 6) n51
            refine ⟨flH h1 (nI 6), fun Q => st1 Q _ ?_, rg_tr x1 fl_rg, p.1, RO_fl 6 q1⟩
            simp (implicitDefEqProofs := false) only [rX9_readAll_18, rX9_readAll_18b, rX9_readAll_19, rX9_readAll_22, rX9_readAll_23, rX9_readAll_26, rX9_readAll_26b, rX9_readAll_27, rX9_readAll_28, rX9_readAll_31, rX9_readAll_31b, rX9_readAll_32, rX9_readAll_35, rX9_readAll_38, rX9_readAll_41, rX9_readAll_41b, rX9_readAll_42, rX9_readAll_44, rX9_readAll_47, kA_44, kB_44, kU0 hs, r41, qe.trans (eq_true c0), v1, vz.trans (eq_true cz), fl, pCX9_readAll, pSX9_readAll, pOX9_readAll, pLX9_readAll, pCX9_flaw, pSX9_flaw, pOX9_flaw, pLX9_flaw, kl_I, kl_J, kl_R, kl_T, kl_N, Nat.le_refl, Nat.zero_le, List.map_nil, List.map_cons, List.sum_nil, List.sum_cons, c_I, c_J, c_R, c_T, va_rf, hI_wI, hJ_wJ, hR_wR, hI_J, hI_R, hJ_I, hJ_R, hR_I, hR_J, hN_I, hN_J, hN_R, wI_I, wJ_J, upd_at, updL_at, kR_s, Option.toList, List.append_nil, List.nil_append, List.cons_append, if_true, if_false, reduceIte, Bool.false_eq_true, not_true_eq_false, not_false_eq_true, true_and, and_true, false_and, and_false, true_or, or_true,  Nat.reduceEqDiff, Nat.reduceAdd, Nat.reduceLeDiff]
          · rw [if_pos (by omega)]
            refine ⟨h1, fun Q => st1 Q _ ?_, x1, p.2, q1⟩
            simp (implicitDefEqProofs := false) only [rX9_readAll_18, rX9_readAll_18b, rX9_readAll_19, rX9_readAll_22, rX9_readAll_23, rX9_readAll_26, rX9_readAll_26b, rX9_readAll_27, rX9_readAll_28, rX9_readAll_31, rX9_readAll_31b, rX9_readAll_32, rX9_readAll_35, rX9_readAll_38, rX9_readAll_41, rX9_readAll_41b, rX9_readAll_42, rX9_readAll_44, rX9_readAll_47, kA_44, kB_44, kU0 hs, r41, qe.trans (eq_true c0), v1, vz, cz, pCX9_readAll, pSX9_readAll, pOX9_readAll, pLX9_readAll, kl_I, kl_J, kl_R, kl_T, kl_N, Nat.le_refl, Nat.zero_le, List.map_nil, List.map_cons, List.sum_nil, List.sum_cons, c_I, c_J, c_R, c_T, va_rf, hI_wI, hJ_wJ, hR_wR, hI_J, hI_R, hJ_I, hJ_R, hR_I, hR_J, hN_I, hN_J, hN_R, wI_I, wJ_J, upd_at, updL_at, kR_s, Option.toList, List.append_nil, List.nil_append, List.cons_append, if_true, if_false, reduceIte, Bool.false_eq_true, not_true_eq_false, not_false_eq_true, true_and, and_true, false_and, and_false, true_or, or_true,  Nat.reduceEqDiff, Nat.reduceAdd, Nat.reduceLeDiff]
        · rw [if_neg c0, if_neg c3]
          have fl : ∀ Q, WM (d + 10) mX9_flaw [.ref (44 : Nat), .int 1] h1 Q = Q (some none) (flH h1 (nI 1)) := c_fl9 (d := d + 10) (v := 1) n51
          have o := RO_fl 1 q1
          have o5 := o.2.2.2.1
          have r4f := o.2.1
          have vf := o.2.2.1.2.2.2.1.2.1
          refine ⟨flH h1 (nI 1), fun Q => st1 Q _ ?_, rg_tr x1 fl_rg, p.1, o⟩
          by_cases cz : aN p.1.1 = 0
          · simp (implicitDefEqProofs := false) only [rX9_readAll_18, rX9_readAll_18b, rX9_readAll_19, rX9_readAll_22, rX9_readAll_23, rX9_readAll_26, rX9_readAll_26b, rX9_readAll_27, rX9_readAll_28, rX9_readAll_31, rX9_readAll_31b, rX9_readAll_32, rX9_readAll_35, rX9_readAll_38, rX9_readAll_41, rX9_readAll_41b, rX9_readAll_42, rX9_readAll_44, rX9_readAll_47, kA_44, kB_44, kU0 hs, r4f, qe, c0, fl, fun v => o_flaw (d := d + 10) (v := v) o5, vf, vz.trans (eq_true cz), pCX9_readAll, pSX9_readAll, pOX9_readAll, pLX9_readAll, pCX9_flaw, pSX9_flaw, pOX9_flaw, pLX9_flaw, kl_I, kl_J, kl_R, kl_T, kl_N, Nat.le_refl, Nat.zero_le, List.map_nil, List.map_cons, List.sum_nil, List.sum_cons, c_I, c_J, c_R, c_T, va_rf, hI_wI, hJ_wJ, hR_wR, hI_J, hI_R, hJ_I, hJ_R, hR_I, hR_J, hN_I, hN_J, hN_R, wI_I, wJ_J, upd_at, updL_at, kR_s, Option.toList, List.append_nil, List.nil_append, List.cons_append, if_true, if_false, reduceIte, Bool.false_eq_true, not_true_eq_false, not_false_eq_true, true_and, and_true, false_and, and_false, true_or, or_true,  Nat.reduceEqDiff, Nat.reduceAdd, Nat.reduceLeDiff]
          · simp (implicitDefEqProofs := false) only [rX9_readAll_18, rX9_readAll_18b, rX9_readAll_19, rX9_readAll_22, rX9_readAll_23, rX9_readAll_26, rX9_readAll_26b, rX9_readAll_27, rX9_readAll_28, rX9_readAll_31, rX9_readAll_31b, rX9_readAll_32, rX9_readAll_35, rX9_readAll_38, rX9_readAll_41, rX9_readAll_41b, rX9_readAll_42, rX9_readAll_44, rX9_readAll_47, kA_44, kB_44, kU0 hs, r4f, qe, c0, fl, vf, vz, cz, pCX9_readAll, pSX9_readAll, pOX9_readAll, pLX9_readAll, pCX9_flaw, pSX9_flaw, pOX9_flaw, pLX9_flaw, kl_I, kl_J, kl_R, kl_T, kl_N, Nat.le_refl, Nat.zero_le, List.map_nil, List.map_cons, List.sum_nil, List.sum_cons, c_I, c_J, c_R, c_T, va_rf, hI_wI, hJ_wJ, hR_wR, hI_J, hI_R, hJ_I, hJ_R, hR_I, hR_J, hN_I, hN_J, hN_R, wI_I, wJ_J, upd_at, updL_at, kR_s, Option.toList, List.append_nil, List.nil_append, List.cons_append, if_true, if_false, reduceIte, Bool.false_eq_true, not_true_eq_false, not_false_eq_true, true_and, and_true, false_and, and_false, true_or, or_true,  Nat.reduceEqDiff, Nat.reduceAdd, Nat.reduceLeDiff]
