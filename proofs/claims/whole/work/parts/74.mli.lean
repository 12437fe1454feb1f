/-! ===== the model's reader: the street grows ===== -/
theorem doN_cg {a a' : aS} (e : aDo a' = aDo a) : ∀ n, doN a' n = doN a n
  | 0 => rfl
  | n + 1 => by rw [doN, doN, doN_cg e n, e]
theorem doN_add {a : aS} {k : Nat} {c : Option Nat} {b : Nat} : ∀ n, n ≤ aN a → doN (aAdd a k c b) n = doN a n
  | 0, _ => rfl
  | n + 1, h => by rw [doN, doN, doN_add n (by omega), aDo_aAdd, vup_at, if_neg (show ¬ n = aN a by omega)]
theorem doN_do {a : aS} {x v : Nat} (h0 : aDo a x = 0) (hv : ¬ v = 0) : ∀ n, doN (aDoS a x v) n = doN a n + (if x < n then 1 else 0)
  | 0 => rfl
  | n + 1 => by
    rw [doN, doN, doN_do h0 hv n, aDo_aDoS, vup_at]
    by_cases e : n = x
    · subst e
      rw [if_pos rfl, if_neg hv, h0, if_pos rfl, if_neg (by omega), if_pos (by omega)]
    · rw [if_neg e]
      by_cases q : x < n
      · rw [if_pos q, if_pos (show x < n + 1 by omega)]; omega
      · rw [if_neg q, if_neg (show ¬ x < n + 1 by omega)]; omega
theorem popc_or : ∀ p, p < 64 → ∀ x, x < 6 → p.testBit x = false → popc 6 (p ||| 2 ^ x) = popc 6 p + 1 := by decide +kernel
theorem mRd_fr {h : qH} {s : Nat} {st : PS} {v : Nat} (w : mRd h s st) (hv : v ≤ 9) : mRd (wI h s (upd (hI h s) 0 (nI v))) s (aFrS st.1 v, st.2.1, true) := by
  obtain ⟨hs, fi, ww, ⟨u0, u1, u2, u3, u4, u5, u6, u7, u20⟩, w5, w6, w7, w8, w9, w10, w11, w12⟩ := w
  unfold mRd
  simp only [aFr_aFrS, aN_aFrS, aKi_aFrS, aCs_aFrS, aBy_aFrS, aDo_aFrS, aPu_aFrS, aSp_aFrS, aFm_aFrS, aTo_aFrS, aDy_aFrS, aGl_aFrS, aGd_aFrS, aUn_aFrS, aUh_aFrS, aRu_aFrS, aRd_aFrS, aRf_aFrS, hWa, hWb, hWc, hWd, upd_at, vup_at, Nat.reduceEqDiff, if_true, if_false, reduceIte, Nat.zero_ne_one, Nat.one_ne_zero, Nat.succ_ne_self, hJ_I]
  exact ⟨hs, fi, aW_fr ww hv, ⟨trivial, u1, u2, by rw [doN_cg (a' := aFrS st.1 v) (a := st.1) rfl]; exact u3, u4, u5, u6, u7, u20⟩, w5, w6, w7, w8, w9, w10, w11, fun q => by cases q⟩
theorem mRd_add {h : qH} {s : Nat} {st : PS} {k : Nat} {c : Option Nat} {b v : Nat} (w : mRd h s st) (op : st.2.2 = true) (h6 : aN st.1 < 6) (hk : k < 4) (hc : ∀ x, c = some x → x ≤ 60) (hb : b ≤ 100) (hv : v < 2 ^ 40) : mRd (wI (wI (wI (wI (wJ h (s + 12) (vp_updL (hJ h (s + 12)) (aN st.1) (lN v))) (s + 1) (upd (hI h (s + 1)) (aN st.1) (nI k))) (s + 2) (upd (hI h (s + 2)) (aN st.1) (oI c))) (s + 3) (upd (hI h (s + 3)) (aN st.1) (nI b))) s (upd (hI h s) 1 (nI (aN st.1 + 1)))) s (adH st v k c b) := by
  obtain ⟨hs, fi, ww, ⟨u0, u1, u2, u3, u4, u5, u6, u7, u20⟩, w5, w6, w7, w8, w9, w10, w11, w12⟩ := w
  unfold mRd adH
  simp only [aFr_aAdd, aN_aAdd, aKi_aAdd, aCs_aAdd, aBy_aAdd, aDo_aAdd, aPu_aAdd, aSp_aAdd, aFm_aAdd, aTo_aAdd, aDy_aAdd, aGl_aAdd, aGd_aAdd, aUn_aAdd, aUh_aAdd, aRu_aAdd, aRd_aAdd, aRf_aAdd, hWa, hWb, hWc, hWd, upd_at, vup_at, Nat.reduceEqDiff, if_true, if_false, reduceIte, Nat.zero_ne_one, Nat.one_ne_zero, Nat.succ_ne_self, hJ_I, hI_J, hJ_wJ]
  refine ⟨hs, fi, aW_add ww h6 hk hc hb, ⟨u0, trivial, u2, ?_, u4, u5, u6, u7, u20⟩, fun j hj => ?_, w6, w7, w8, w9, fun j hj => ?_, fun j h1 h2 => w11 j (by omega) h2, fun q => ?_⟩
  · rw [doN, doN_add _ (Nat.le_refl _), aDo_aAdd, vup_at, if_pos rfl, if_pos rfl, Nat.add_zero]; exact u3
  · by_cases e : j = aN st.1
    · simp only [if_pos e]; exact ⟨trivial, trivial, trivial, by rw [e, w11 _ (Nat.le_refl _) h6]; rfl⟩
    · simp only [if_neg e]; exact w5 j (by omega)
  · rw [updL_at]
    by_cases e : j = aN st.1
    · simp only [if_pos e]; exact ⟨trivial, hv⟩
    · simp only [if_neg e]; exact w10 j (by omega)
  · rw [op] at q; cases q
theorem mRd_spk {h : qH} {s : Nat} {st : PS} {x y d : Nat} (w : mRd h s st) (op : st.2.2 = true) (h9 : aSp st.1 < 9) (hx : x < aN st.1) (hy : y < aN st.1) (hxy : ¬ y = x) (hn : spkN st.1 x y = none) (hd : d ≤ 9) : mRd (wI (wI (wI (wI h (s + 5) (upd (hI h (s + 5)) (aSp st.1) (nI x))) (s + 6) (upd (hI h (s + 6)) (aSp st.1) (nI y))) (s + 7) (upd (hI h (s + 7)) (aSp st.1) (nI d))) s (upd (hI h s) 2 (nI (aSp st.1 + 1)))) s (aSpk st.1 x y d, st.2) := by
  obtain ⟨hs, fi, ww, ⟨u0, u1, u2, u3, u4, u5, u6, u7, u20⟩, w5, w6, w7, w8, w9, w10, w11, w12⟩ := w
  unfold mRd
  simp only [aFr_aSpk, aN_aSpk, aKi_aSpk, aCs_aSpk, aBy_aSpk, aDo_aSpk, aPu_aSpk, aSp_aSpk, aFm_aSpk, aTo_aSpk, aDy_aSpk, aGl_aSpk, aGd_aSpk, aUn_aSpk, aUh_aSpk, aRu_aSpk, aRd_aSpk, aRf_aSpk, hWa, hWb, hWc, hWd, upd_at, vup_at, Nat.reduceEqDiff, if_true, if_false, reduceIte, Nat.zero_ne_one, Nat.one_ne_zero, Nat.succ_ne_self, hJ_I]
  refine ⟨hs, fi, aW_spk ww h9 hx hy hxy hn hd, ⟨u0, u1, trivial, by rw [doN_cg (a' := aSpk st.1 x y d) (a := st.1) rfl]; exact u3, u4, u5, u6, u7, u20⟩, w5, fun j hj => ?_, w7, w8, w9, w10, w11, fun q => by rw [op] at q; cases q⟩
  by_cases e : j = aSp st.1
  · simp only [if_pos e]; exact ⟨trivial, trivial, trivial⟩
  · simp only [if_neg e]; exact w6 j (by omega)
theorem mRd_do {h : qH} {s : Nat} {st : PS} {x v : Nat} (w : mRd h s st) (op : st.2.2 = true) (hx : x < aN st.1) (h0 : aDo st.1 x = 0) (hv0 : ¬ v = 0) (hv : v ≤ 3) : mRd (wI (wI h (s + 4) (upd (hI h (s + 4)) x (nI v))) s (upd (hI h s) 3 (nI (doN st.1 (aN st.1) + 1)))) s (aDoS st.1 x v, st.2) := by
  obtain ⟨hs, fi, ww, ⟨u0, u1, u2, u3, u4, u5, u6, u7, u20⟩, w5, w6, w7, w8, w9, w10, w11, w12⟩ := w
  unfold mRd
  simp only [aFr_aDoS, aN_aDoS, aKi_aDoS, aCs_aDoS, aBy_aDoS, aDo_aDoS, aPu_aDoS, aSp_aDoS, aFm_aDoS, aTo_aDoS, aDy_aDoS, aGl_aDoS, aGd_aDoS, aUn_aDoS, aUh_aDoS, aRu_aDoS, aRd_aDoS, aRf_aDoS, hWa, hWb, hWc, hWd, upd_at, vup_at, Nat.reduceEqDiff, if_true, if_false, reduceIte, Nat.zero_ne_one, Nat.one_ne_zero, Nat.succ_ne_self, hJ_I]
  refine ⟨hs, fi, aW_do ww hv, ⟨u0, u1, u2, by rw [doN_do h0 hv0, if_pos hx], u4, u5, u6, u7, u20⟩, fun j hj => ?_, w6, w7, w8, w9, w10, fun j h1 h2 => ?_, fun q => by rw [op] at q; cases q⟩
  · obtain ⟨q1, q2, q3, q4⟩ := w5 j hj
    refine ⟨q1, q2, q3, ?_⟩
    by_cases e : j = x
    · simp only [if_pos e]
    · simp only [if_neg e]; exact q4
  · rw [if_neg (by omega)]; exact w11 j h1 h2
theorem mRd_pu {h : qH} {s : Nat} {st : PS} {x : Nat} (w : mRd h s st) (op : st.2.2 = true) (hx : x < aN st.1) (hb : (aPu st.1).testBit x = false) : mRd (wI h s (upd (upd (hI h s) 20 (nI (aPu st.1 ||| 2 ^ x))) 4 (nI (popc 6 (aPu st.1) + 1)))) s (aPuS st.1 x, st.2) := by
  obtain ⟨hs, fi, ww, ⟨u0, u1, u2, u3, u4, u5, u6, u7, u20⟩, w5, w6, w7, w8, w9, w10, w11, w12⟩ := w
  have h6 := ww.1
  have p64 := p6 h6
  have pu := ww.2.2.2.1
  unfold mRd
  simp only [aFr_aPuS, aN_aPuS, aKi_aPuS, aCs_aPuS, aBy_aPuS, aDo_aPuS, aPu_aPuS, aSp_aPuS, aFm_aPuS, aTo_aPuS, aDy_aPuS, aGl_aPuS, aGd_aPuS, aUn_aPuS, aUh_aPuS, aRu_aPuS, aRd_aPuS, aRf_aPuS, hWa, hWb, hWc, hWd, upd_at, vup_at, Nat.reduceEqDiff, if_true, if_false, reduceIte, Nat.zero_ne_one, Nat.one_ne_zero, Nat.succ_ne_self, hJ_I]
  exact ⟨hs, fi, aW_pu ww hx, ⟨u0, u1, u2, by rw [doN_cg (a' := aPuS st.1 x) (a := st.1) rfl]; exact u3, by rw [popc_or _ (by omega) x (by omega) hb], u5, u6, u7, trivial⟩, w5, w6, w7, w8, w9, w10, w11, fun q => by rw [op] at q; cases q⟩
theorem mRd_gl {h : qH} {s : Nat} {st : PS} {v : Nat} (w : mRd h s st) (op : st.2.2 = true) (h4 : aGl st.1 < 4) (hv : v ≤ 30) (hl : aGl st.1 = 0 ∨ aGd st.1 (aGl st.1 - 1) < v) : mRd (wI (wI h (s + 8) (upd (hI h (s + 8)) (aGl st.1) (nI v))) s (upd (hI h s) 5 (nI (aGl st.1 + 1)))) s (aGlS st.1 v, st.2) := by
  obtain ⟨hs, fi, ww, ⟨u0, u1, u2, u3, u4, u5, u6, u7, u20⟩, w5, w6, w7, w8, w9, w10, w11, w12⟩ := w
  unfold mRd
  simp only [aFr_aGlS, aN_aGlS, aKi_aGlS, aCs_aGlS, aBy_aGlS, aDo_aGlS, aPu_aGlS, aSp_aGlS, aFm_aGlS, aTo_aGlS, aDy_aGlS, aGl_aGlS, aGd_aGlS, aUn_aGlS, aUh_aGlS, aRu_aGlS, aRd_aGlS, aRf_aGlS, hWa, hWb, hWc, hWd, upd_at, vup_at, Nat.reduceEqDiff, if_true, if_false, reduceIte, Nat.zero_ne_one, Nat.one_ne_zero, Nat.succ_ne_self, hJ_I]
  refine ⟨hs, fi, aW_gl ww h4 hv hl, ⟨u0, u1, u2, by rw [doN_cg (a' := aGlS st.1 v) (a := st.1) rfl]; exact u3, u4, trivial, u6, u7, u20⟩, w5, w6, fun j hj => ?_, w8, w9, w10, w11, fun q => by rw [op] at q; cases q⟩
  by_cases e : j = aGl st.1
  · simp only [if_pos e]
  · simp only [if_neg e]; exact w7 j (by omega)
theorem mRd_un {h : qH} {s : Nat} {st : PS} {x : Nat} (w : mRd h s st) (op : st.2.2 = true) (h2 : aUn st.1 < 2) (hx : x < aN st.1) (hn : unL st.1 x (aUn st.1) 0 = false) : mRd (wI (wI h (s + 9) (upd (hI h (s + 9)) (aUn st.1) (nI x))) s (upd (hI h s) 6 (nI (aUn st.1 + 1)))) s (aUnS st.1 x, st.2) := by
  obtain ⟨hs, fi, ww, ⟨u0, u1, u2, u3, u4, u5, u6, u7, u20⟩, w5, w6, w7, w8, w9, w10, w11, w12⟩ := w
  unfold mRd
  simp only [aFr_aUnS, aN_aUnS, aKi_aUnS, aCs_aUnS, aBy_aUnS, aDo_aUnS, aPu_aUnS, aSp_aUnS, aFm_aUnS, aTo_aUnS, aDy_aUnS, aGl_aUnS, aGd_aUnS, aUn_aUnS, aUh_aUnS, aRu_aUnS, aRd_aUnS, aRf_aUnS, hWa, hWb, hWc, hWd, upd_at, vup_at, Nat.reduceEqDiff, if_true, if_false, reduceIte, Nat.zero_ne_one, Nat.one_ne_zero, Nat.succ_ne_self, hJ_I]
  refine ⟨hs, fi, aW_un ww h2 hx hn, ⟨u0, u1, u2, by rw [doN_cg (a' := aUnS st.1 x) (a := st.1) rfl]; exact u3, u4, u5, trivial, u7, u20⟩, w5, w6, w7, fun j hj => ?_, w9, w10, w11, fun q => by rw [op] at q; cases q⟩
  by_cases e : j = aUn st.1
  · simp only [if_pos e]
  · simp only [if_neg e]; exact w8 j (by omega)
theorem mRd_ru {h : qH} {s : Nat} {st : PS} {d : Nat} {q : Option Nat} (w : mRd h s st) (op : st.2.2 = true) (h4 : aRu st.1 < 4) (hd : d ≤ 30) (hq : ∀ x, q = some x → x < aN st.1) : mRd (wI (wI (wI h (s + 10) (upd (hI h (s + 10)) (aRu st.1) (nI d))) (s + 11) (upd (hI h (s + 11)) (aRu st.1) (oI q))) s (upd (hI h s) 7 (nI (aRu st.1 + 1)))) s (aRuS st.1 d q, st.2) := by
  obtain ⟨hs, fi, ww, ⟨u0, u1, u2, u3, u4, u5, u6, u7, u20⟩, w5, w6, w7, w8, w9, w10, w11, w12⟩ := w
  unfold mRd
  simp only [aFr_aRuS, aN_aRuS, aKi_aRuS, aCs_aRuS, aBy_aRuS, aDo_aRuS, aPu_aRuS, aSp_aRuS, aFm_aRuS, aTo_aRuS, aDy_aRuS, aGl_aRuS, aGd_aRuS, aUn_aRuS, aUh_aRuS, aRu_aRuS, aRd_aRuS, aRf_aRuS, hWa, hWb, hWc, hWd, upd_at, vup_at, Nat.reduceEqDiff, if_true, if_false, reduceIte, Nat.zero_ne_one, Nat.one_ne_zero, Nat.succ_ne_self, hJ_I]
  refine ⟨hs, fi, aW_ru ww h4 hd hq, ⟨u0, u1, u2, by rw [doN_cg (a' := aRuS st.1 d q) (a := st.1) rfl]; exact u3, u4, u5, u6, trivial, u20⟩, w5, w6, w7, w8, fun j hj => ?_, w10, w11, fun q => by rw [op] at q; cases q⟩
  by_cases e : j = aRu st.1
  · simp only [if_pos e]; exact ⟨trivial, trivial⟩
  · simp only [if_neg e]; exact w9 j (by omega)
theorem RM_up {h h' : qH} {s n : Nat} {tb : Nat → Int32} {st st' : PS} {t : tK} (r : RM h s n tb st t) (x : rg9 s h h') (e1 : hI h' 44 = hI h 44) (e2 : hJ h' 44 = hJ h 44) (w : mRd h' s st') : RM h' s n tb st' t := by
  obtain ⟨tp, r4, w0, tk, ok, e12⟩ := r
  obtain ⟨j, ej, -⟩ := w.1
  refine ⟨⟨by rw [x.1]; exact tp.1, by rw [e1]; exact tp.2.1, tp.2.2.1, by rw [(x.2.2.1 45 (by decide) (by omega)).1]; exact tp.2.2.2⟩, by rw [x.1]; exact r4, w, ?_, ok, by rw [e1]; exact e12⟩
  unfold tkF
  rw [e1, e2]
  exact tk
/-- lines begin -/
theorem c_lineB {d : Nat} {h : qH} {s n : Nat} {tb : Nat → Int32} {st : PS} {t : tK} {many most : Nat} (r : RM h s n tb st t) (h4 : t.1 ≠ 4) (hm : many ≤ 9) (hM : most ≤ 9) : ∃ h', (∀ Q, WM (d + 2) mX9_lineBegins [.ref (44 : Nat), .int (nI many), .int (nI most)] h Q = Q (some none) h') ∧ rg9 s h h' ∧ (if many = most then RO h' s st (5, t.2.1) else if st.2.2 = false then RO h' s st (6, t.2.1) else RM h' s n tb st (tkN (bB tb) n t.2.2)) := by
  have n5 := RM_9 r
  have r4 := r.2.1
  have rd := r.2.2.1
  have hs := rd.1
  have u0 := rd.2.2.2.1.1
  have f9 := rd.2.2.1.2.1
  have q : (nI many = nI most) = (many = most) := propext (nI_eq (by omega) (by omega))
  have nm := nM (x := aFr st.1) (by omega)
  by_cases c : many = most
  · have fl := c_fl9 (d := d + 1) (v := 5) n5
    have o := RO_fl 5 r
    have e5 : hI (flH h 5) 44 9 = 5 := o.2.2.2.1
    have v0 : hI (flH h 5) s 0 = (if st.2.2 = true then nI (aFr st.1) else -1) := o.2.2.1.2.2.2.1.1
    have r41 : hR (flH h 5) 44 4 = some s := r4
    refine ⟨flH h 5, fun Q => ?_, fl_rg, by rw [if_pos c]; exact o⟩
    by_cases c2 : st.2.2 = true
    · rw [if_pos c2] at v0
      simp (implicitDefEqProofs := false) only [eX9_lineBegins, rX9_lineBegins_0, rX9_lineBegins_1, rX9_lineBegins_2, rX9_lineBegins_5, rX9_lineBegins_5b, rX9_lineBegins_6, rX9_lineBegins_7, rX9_lineBegins_10, rX9_lineBegins_10b, rX9_lineBegins_11, rX9_lineBegins_14, rX9_lineBegins_17, rX9_lineBegins_18, rX9_lineBegins_21, rX9_lineBegins_21b, rX9_lineBegins_22, rX9_lineBegins_24, rX9_lineBegins_27, rX9_lineBegins_27b, rX9_lineBegins_28, rX9_lineBegins_31, kA_44, kB_44, kU0 hs, r41, q, c, fl, v0, nm, o_goesOn (d := d + 1) e5, pCX9_lineBegins, pSX9_lineBegins, pOX9_lineBegins, pLX9_lineBegins, pCX9_flaw, pSX9_flaw, pOX9_flaw, pLX9_flaw, pCX9_goesOn, pSX9_goesOn, pOX9_goesOn, pLX9_goesOn, kl_I, kl_J, kl_R, kl_T, kl_N, Nat.le_refl, Nat.zero_le, List.map_nil, List.map_cons, List.sum_nil, List.sum_cons, c_I, c_J, c_R, c_T, va_rf, hI_wI, hJ_wJ, hR_wR, hI_J, hI_R, hJ_I, hJ_R, hR_I, hR_J, hN_I, hN_J, hN_R, wI_I, wJ_J, upd_at, updL_at, kR_s, Option.toList, List.append_nil, List.nil_append, List.cons_append, if_true, if_false, reduceIte, Bool.false_eq_true, not_true_eq_false, not_false_eq_true, true_and, and_true, false_and, and_false, true_or, or_true,  Nat.reduceEqDiff, Nat.reduceAdd, Nat.reduceLeDiff]
    · rw [if_neg c2] at v0
      simp (implicitDefEqProofs := false) only [eX9_lineBegins, rX9_lineBegins_0, rX9_lineBegins_1, rX9_lineBegins_2, rX9_lineBegins_5, rX9_lineBegins_5b, rX9_lineBegins_6, rX9_lineBegins_7, rX9_lineBegins_10, rX9_lineBegins_10b, rX9_lineBegins_11, rX9_lineBegins_14, rX9_lineBegins_17, rX9_lineBegins_18, rX9_lineBegins_21, rX9_lineBegins_21b, rX9_lineBegins_22, rX9_lineBegins_24, rX9_lineBegins_27, rX9_lineBegins_27b, rX9_lineBegins_28, rX9_lineBegins_31, kA_44, kB_44, kU0 hs, r41, q, c, fl, v0, o_flaw (d := d + 1) (v := 6) e5, o_goesOn (d := d + 1) e5, pCX9_lineBegins, pSX9_lineBegins, pOX9_lineBegins, pLX9_lineBegins, pCX9_flaw, pSX9_flaw, pOX9_flaw, pLX9_flaw, pCX9_goesOn, pSX9_goesOn, pOX9_goesOn, pLX9_goesOn, kl_I, kl_J, kl_R, kl_T, kl_N, Nat.le_refl, Nat.zero_le, List.map_nil, List.map_cons, List.sum_nil, List.sum_cons, c_I, c_J, c_R, c_T, va_rf, hI_wI, hJ_wJ, hR_wR, hI_J, hI_R, hJ_I, hJ_R, hR_I, hR_J, hN_I, hN_J, hN_R, wI_I, wJ_J, upd_at, updL_at, kR_s, Option.toList, List.append_nil, List.nil_append, List.cons_append, if_true, if_false, reduceIte, Bool.false_eq_true, not_true_eq_false, not_false_eq_true, true_and, and_true, false_and, and_false, true_or, or_true,  Nat.reduceEqDiff, Nat.reduceAdd, Nat.reduceLeDiff]
  · by_cases c2 : st.2.2 = true
    · skip
      rw [if_pos c2] at u0
      obtain ⟨h', e, x, r'⟩ := c_st9 (d := d) r h4
      refine ⟨h', fun Q => ?_, x, by rw [if_neg c, if_neg (by rw [c2]; simp)]; exact r'⟩
      simp (implicitDefEqProofs := false) only [eX9_lineBegins, rX9_lineBegins_0, rX9_lineBegins_1, rX9_lineBegins_2, rX9_lineBegins_5, rX9_lineBegins_5b, rX9_lineBegins_6, rX9_lineBegins_7, rX9_lineBegins_10, rX9_lineBegins_10b, rX9_lineBegins_11, rX9_lineBegins_14, rX9_lineBegins_17, rX9_lineBegins_18, rX9_lineBegins_21, rX9_lineBegins_21b, rX9_lineBegins_22, rX9_lineBegins_24, rX9_lineBegins_27, rX9_lineBegins_27b, rX9_lineBegins_28, rX9_lineBegins_31, kA_44, kB_44, kU0 hs, r4, q, c, u0, nm, e, pCX9_lineBegins, pSX9_lineBegins, pOX9_lineBegins, pLX9_lineBegins, pCX9_goesOn, pSX9_goesOn, pOX9_goesOn, pLX9_goesOn, kl_I, kl_J, kl_R, kl_T, kl_N, Nat.le_refl, Nat.zero_le, List.map_nil, List.map_cons, List.sum_nil, List.sum_cons, c_I, c_J, c_R, c_T, va_rf, hI_wI, hJ_wJ, hR_wR, hI_J, hI_R, hJ_I, hJ_R, hR_I, hR_J, hN_I, hN_J, hN_R, wI_I, wJ_J, upd_at, updL_at, kR_s, Option.toList, List.append_nil, List.nil_append, List.cons_append, if_true, if_false, reduceIte, Bool.false_eq_true, not_true_eq_false, not_false_eq_true, true_and, and_true, false_and, and_false, true_or, or_true,  Nat.reduceEqDiff, Nat.reduceAdd, Nat.reduceLeDiff]
    · skip
      rw [if_neg c2] at u0
      have fl := c_fl9 (d := d + 1) (v := 6) n5
      have o := RO_fl 6 r
      have e5 : hI (flH h 6) 44 9 = 5 := o.2.2.2.1
      refine ⟨flH h 6, fun Q => ?_, fl_rg, by rw [if_neg c, if_pos (by simpa using c2)]; exact o⟩
      simp (implicitDefEqProofs := false) only [eX9_lineBegins, rX9_lineBegins_0, rX9_lineBegins_1, rX9_lineBegins_2, rX9_lineBegins_5, rX9_lineBegins_5b, rX9_lineBegins_6, rX9_lineBegins_7, rX9_lineBegins_10, rX9_lineBegins_10b, rX9_lineBegins_11, rX9_lineBegins_14, rX9_lineBegins_17, rX9_lineBegins_18, rX9_lineBegins_21, rX9_lineBegins_21b, rX9_lineBegins_22, rX9_lineBegins_24, rX9_lineBegins_27, rX9_lineBegins_27b, rX9_lineBegins_28, rX9_lineBegins_31, kA_44, kB_44, kU0 hs, r4, q, c, u0, fl, o_goesOn (d := d + 1) e5, pCX9_lineBegins, pSX9_lineBegins, pOX9_lineBegins, pLX9_lineBegins, pCX9_flaw, pSX9_flaw, pOX9_flaw, pLX9_flaw, pCX9_goesOn, pSX9_goesOn, pOX9_goesOn, pLX9_goesOn, kl_I, kl_J, kl_R, kl_T, kl_N, Nat.le_refl, Nat.zero_le, List.map_nil, List.map_cons, List.sum_nil, List.sum_cons, c_I, c_J, c_R, c_T, va_rf, hI_wI, hJ_wJ, hR_wR, hI_J, hI_R, hJ_I, hJ_R, hR_I, hR_J, hN_I, hN_J, hN_R, wI_I, wJ_J, upd_at, updL_at, kR_s, Option.toList, List.append_nil, List.nil_append, List.cons_append, if_true, if_false, reduceIte, Bool.false_eq_true, not_true_eq_false, not_false_eq_true, true_and, and_true, false_and, and_false, true_or, or_true,  Nat.reduceEqDiff, Nat.reduceAdd, Nat.reduceLeDiff]
/-- over: all that a line does then -/
def ovF (d : Nat) (h : qH) : Prop := hI h 44 9 = 5 ∧ (∀ Q, WM (d + 8) mX9_goesOn [.ref (44 : Nat)] h Q = Q (some none) h) ∧ (∀ v Q, WM (d + 8) mX9_flaw [.ref (44 : Nat), .int v] h Q = Q (some none) h) ∧ (∀ j Q, WM (d + 8) mX9_isWord [.ref (44 : Nat), .retAddr j] h Q = Q (some (some (.int 0))) h) ∧ (∀ j, j < 21 → ∀ Q, WM (d + 8) mX9_needs [.ref (44 : Nat), .retAddr j] h Q = Q (some none) h) ∧ (∀ lo hi Q, WM (d + 8) mX9_readWhole [.ref (44 : Nat), .int lo, .int hi] h Q = Q (some (some (.int lo))) h) ∧ (∀ j, j < 21 → ∀ lo hi Q, WM (d + 8) mX9_readPart [.ref (44 : Nat), .retAddr j, .int lo, .int hi] h Q = Q (some (some (.int lo))) h) ∧ (∀ Q, WM (d + 8) mX9_isName [.ref (44 : Nat)] h Q = Q (some (some (.int 0))) h) ∧ (∀ Q, WM (d + 8) mX9_houseAtHand [.ref (44 : Nat)] h Q = Q (some (some (.int 0))) h) ∧ (∀ Q, WM (d + 8) mX9_readHouseName [.ref (44 : Nat)] h Q = Q (some (some (.int 0))) h)
theorem ovf {d : Nat} {h : qH} {s : Nat} {st : PS} {e : Nat × Nat} (o : RO h s st e) : ovF d h := by
  obtain ⟨F, r4, rd, e5, -⟩ := o
  exact ⟨e5, o_goesOn e5, fun v => o_flaw e5, fun j => o_isWord e5, fun j hj => o_needs (d := d + 7) hj e5, fun lo hi => o_readWhole (d := d + 7) e5, fun j hj lo hi => o_readPart (d := d + 6) hj e5, o_isName e5, o_house (d := d + 7) r4 rd e5, o_houseName (d := d + 6) r4 rd e5⟩
theorem bd_bd {α β γ : Type} {x : RE α} {f : α → RE β} {g : β → RE γ} : bd x (fun a => bd (f a) g) = bd (bd x f) g := by cases x <;> rfl
theorem tN_t {b : Nat → Nat} {n lo hi : Nat} {t : tK} {p : Nat × tK} (h : tN b n lo hi t = .inr p) : t.2.2 ≤ n → t.2.2 ≤ p.2.2.1 := by
  intro hn
  unfold tN at h
  split at h
  · split at h
    · simp only [Sum.inr.injEq] at h
      subst h
      exact (tkN_ok hn).2
    · cases h
  · cases h
theorem c_rdStreet {d : Nat} {h : qH} {s n : Nat} {tb : Nat → Int32} {st : PS} {t : tK} (r : RM h s n tb st t) (h1 : t.1 = 1) : ∃ h', (∀ Q, WM (d + 9) mX9_readStreet [.ref (44 : Nat)] h Q = Q (some none) h') ∧ oc h h' s n tb (if st.2.2 = true then .inl (3, t.2.1) else lStreet (bB tb) n st (tkN (bB tb) n t.2.2)) := by
  have n5 := RM_9 r
  have r4 := r.2.1
  have rd := r.2.2.1
  have hs := rd.1
  have u0 := rd.2.2.2.1.1
  have f9 := rd.2.2.1.2.1
  have nm := nM (x := aFr st.1) (by omega)
  by_cases c : st.2.2 = true
  · rw [if_pos c]
    rw [if_pos c] at u0
    have fl := c_fl9 (d := d + 8) (v := 3) n5
    have o := RO_fl 3 r
    obtain ⟨o5, og, of, ow, on, orw, orp, oi, oh, ohn⟩ := ovf (d := d) o
    refine ⟨flH h (nI 3), fun Q => ?_, fl_rg, st, o⟩
    have fl' : ∀ Q, WM (d + 8) mX9_flaw [.ref (44 : Nat), .int 3] h Q = Q (some none) (flH h (nI 3)) := fl
    simp (implicitDefEqProofs := false) only [eX9_readStreet, rX9_readStreet_0, rX9_readStreet_0b, rX9_readStreet_1, rX9_readStreet_4, rX9_readStreet_7, rX9_readStreet_8, rX9_readStreet_11, rX9_readStreet_11b, rX9_readStreet_12, rX9_readStreet_13, rX9_readStreet_16, rX9_readStreet_16b, rX9_readStreet_17, rX9_readStreet_20, rX9_readStreet_20b, rX9_readStreet_21, rX9_readStreet_23, rX9_readStreet_24, rX9_readStreet_26, rX9_readStreet_29, rX9_readStreet_30, rX9_readStreet_30b, rX9_readStreet_31, rX9_readStreet_34, rX9_readStreet_35, rX9_readStreet_38, rX9_readStreet_38b, rX9_readStreet_39, rX9_readStreet_42, rX9_readStreet_43, rX9_readStreet_46, kA_44, kB_44, kU0 hs, r4, u0, nm, fl', og, orp 9 (by decide), o5, pCX9_readStreet, pSX9_readStreet, pOX9_readStreet, pLX9_readStreet, pCX9_flaw, pSX9_flaw, pOX9_flaw, pLX9_flaw, pCX9_goesOn, pSX9_goesOn, pOX9_goesOn, pLX9_goesOn, pCX9_readPart, pSX9_readPart, pOX9_readPart, pLX9_readPart, kl_I, kl_J, kl_R, kl_T, kl_N, Nat.le_refl, Nat.zero_le, List.map_nil, List.map_cons, List.sum_nil, List.sum_cons, c_I, c_J, c_R, c_T, va_rf, hI_wI, hJ_wJ, hR_wR, hI_J, hI_R, hJ_I, hJ_R, hR_I, hR_J, hN_I, hN_J, hN_R, wI_I, wJ_J, upd_at, updL_at, kR_s, Option.toList, List.append_nil, List.nil_append, List.cons_append, if_true, if_false, reduceIte, Bool.false_eq_true, not_true_eq_false, not_false_eq_true, true_and, and_true, false_and, and_false, true_or, or_true,  Nat.reduceEqDiff, Nat.reduceAdd, Nat.reduceLeDiff]
  · rw [if_neg c]
    rw [if_neg c] at u0
    obtain ⟨h1, e1, x1, r1⟩ := c_st9 (d := d + 7) r (by omega)
    have rp := c_readPart (d := d + 1) 9 0 9 r1 (by decide) (by decide) (by decide)
    unfold lStreet
    rw [bd_bd]
    cases hR : bd (tW (bB tb) n 9 (tkN (bB tb) n t.2.2)) (fun t1 => tN (bB tb) n 0 9 t1) with
    | inl e =>
      rw [hR] at rp
      obtain ⟨h2, e2, x2, o⟩ := rp
      refine ⟨h2, fun Q => ?_, rg_tr x1 x2, st, o⟩
      have e2' : ∀ Q, WM (d + 8) mX9_readPart [.ref (44 : Nat), .retAddr (9 : Nat), .int 0, .int 9] h1 Q = Q (some (some (.int 0))) h2 := e2
      simp (implicitDefEqProofs := false) only [eX9_readStreet, rX9_readStreet_0, rX9_readStreet_0b, rX9_readStreet_1, rX9_readStreet_4, rX9_readStreet_7, rX9_readStreet_8, rX9_readStreet_11, rX9_readStreet_11b, rX9_readStreet_12, rX9_readStreet_13, rX9_readStreet_16, rX9_readStreet_16b, rX9_readStreet_17, rX9_readStreet_20, rX9_readStreet_20b, rX9_readStreet_21, rX9_readStreet_23, rX9_readStreet_24, rX9_readStreet_26, rX9_readStreet_29, rX9_readStreet_30, rX9_readStreet_30b, rX9_readStreet_31, rX9_readStreet_34, rX9_readStreet_35, rX9_readStreet_38, rX9_readStreet_38b, rX9_readStreet_39, rX9_readStreet_42, rX9_readStreet_43, rX9_readStreet_46, kA_44, kB_44, kU0 hs, r4, u0, e1, e2', o.2.2.2.1, pCX9_readStreet, pSX9_readStreet, pOX9_readStreet, pLX9_readStreet, pCX9_goesOn, pSX9_goesOn, pOX9_goesOn, pLX9_goesOn, pCX9_readPart, pSX9_readPart, pOX9_readPart, pLX9_readPart, kl_I, kl_J, kl_R, kl_T, kl_N, Nat.le_refl, Nat.zero_le, List.map_nil, List.map_cons, List.sum_nil, List.sum_cons, c_I, c_J, c_R, c_T, va_rf, hI_wI, hJ_wJ, hR_wR, hI_J, hI_R, hJ_I, hJ_R, hR_I, hR_J, hN_I, hN_J, hN_R, wI_I, wJ_J, upd_at, updL_at, kR_s, Option.toList, List.append_nil, List.nil_append, List.cons_append, if_true, if_false, reduceIte, Bool.false_eq_true, not_true_eq_false, not_false_eq_true, true_and, and_true, false_and, and_false, true_or, or_true,  Nat.reduceEqDiff, Nat.reduceAdd, Nat.reduceLeDiff]
    | inr p =>
      rw [hR] at rp
      obtain ⟨h2, e2, x2, r2⟩ := rp
      have e2' : ∀ Q, WM (d + 8) mX9_readPart [.ref (44 : Nat), .retAddr (9 : Nat), .int 0, .int 9] h1 Q = Q (some (some (.int (nI p.1)))) h2 := e2
      have p9 : p.1 ≤ 9 := by
        cases ht : tW (bB tb) n 9 (tkN (bB tb) n t.2.2) with
        | inl e => rw [ht] at hR; cases hR
        | inr t1 => rw [ht] at hR; exact (tN_b hR).2
      have r42 := r2.2.1
      have w2 := mRd_fr (v := p.1) r2.2.2.1 p9
      have x3 : rg9 s h2 (wI h2 s (upd (hI h2 s) 0 (nI p.1))) := rg_w rg_refl (by omega) hs
      have n44 : ¬ 44 = s := by obtain ⟨j, ej, -⟩ := hs; omega
      refine ⟨_, fun Q => ?_, rg_tr x1 (rg_tr x2 x3), RM_up r2 x3 (by rw [hI_wI, if_neg n44]) rfl w2⟩
      simp (implicitDefEqProofs := false) only [eX9_readStreet, rX9_readStreet_0, rX9_readStreet_0b, rX9_readStreet_1, rX9_readStreet_4, rX9_readStreet_7, rX9_readStreet_8, rX9_readStreet_11, rX9_readStreet_11b, rX9_readStreet_12, rX9_readStreet_13, rX9_readStreet_16, rX9_readStreet_16b, rX9_readStreet_17, rX9_readStreet_20, rX9_readStreet_20b, rX9_readStreet_21, rX9_readStreet_23, rX9_readStreet_24, rX9_readStreet_26, rX9_readStreet_29, rX9_readStreet_30, rX9_readStreet_30b, rX9_readStreet_31, rX9_readStreet_34, rX9_readStreet_35, rX9_readStreet_38, rX9_readStreet_38b, rX9_readStreet_39, rX9_readStreet_42, rX9_readStreet_43, rX9_readStreet_46, kA_44, kB_44, kU0 hs, r4, r42, u0, e1, e2', RM_9 r2, pCX9_readStreet, pSX9_readStreet, pOX9_readStreet, pLX9_readStreet, pCX9_goesOn, pSX9_goesOn, pOX9_goesOn, pLX9_goesOn, pCX9_readPart, pSX9_readPart, pOX9_readPart, pLX9_readPart, kl_I, kl_J, kl_R, kl_T, kl_N, Nat.le_refl, Nat.zero_le, List.map_nil, List.map_cons, List.sum_nil, List.sum_cons, c_I, c_J, c_R, c_T, va_rf, hI_wI, hJ_wJ, hR_wR, hI_J, hI_R, hJ_I, hJ_R, hR_I, hR_J, hN_I, hN_J, hN_R, wI_I, wJ_J, upd_at, updL_at, kR_s, Option.toList, List.append_nil, List.nil_append, List.cons_append, if_true, if_false, reduceIte, Bool.false_eq_true, not_true_eq_false, not_false_eq_true, true_and, and_true, false_and, and_false, true_or, or_true,  Nat.reduceEqDiff, Nat.reduceAdd, Nat.reduceLeDiff]
