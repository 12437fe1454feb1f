/-! ===== the model between calls ===== -/
def mBd (S : AS) : Prop := aW (sA S) ∧ (sB (sX S) ∧ tB (sA S) (sX S)) ∧ (∀ p ∈ sP S, sB p ∧ tB (sA S) p) ∧ ∀ p ∈ sM S, sB p ∧ tB (sA S) p
def mNo (h : qH) (S : AS) : Prop := aN (sA S) = 0 ∧ hR h 44 3 = none ∧ sA S = a0 ∧ sX S = (0, 0, 0) ∧ sP S = [] ∧ sM S = []
def mYe (h : qH) (S : AS) : Prop := 0 < aN (sA S) ∧ ∃ s, hR h 44 3 = some s ∧ mSt h s (sA S) ∧ s + 13 ≤ hN h
def mPa (h : qH) (S : AS) : Prop := hI h 44 19 = nI (sP S).length ∧ (sP S).length ≤ 16 ∧ ∀ i, i < (sP S).length → vF (fun k => hI h 48 (10 * i + k)) (sA S) ((sP S).getD ((sP S).length - 1 - i) (0, 0, 0))
def mIm (h : qH) (S : AS) : Prop := hI h 44 20 = nI (sM S).length ∧ (sM S).length ≤ 3 ∧ ∀ i, i < (sM S).length → vF (fun k => hI h 49 (10 * i + k)) (sA S) ((sM S).getD i (0, 0, 0))
def mTp (h : qH) (S : AS) : Prop := sTl S ≤ 900 ∧ hI h 44 6 = nI (sTl S) ∧ ∀ i, i < 900 → hI h 45 i = sTb S i
def mEn (h : qH) (S : AS) : Prop := hI h 44 12 = nI (sF S) ∧ hI h 44 1 = nI (sTr S) ∧ hI h 44 2 = (if sTr S = 4 then nI (sPl S) else -1)
def MI (h : qH) (S : AS) : Prop := Fin0 (hR h) ∧ mBd S ∧ (mNo h S ∨ mYe h S) ∧ vF (hI h 46) (sA S) (sX S) ∧ mPa h S ∧ mIm h S ∧ hI h 44 22 = -1 ∧ mTp h S ∧ mEn h S
/-- what a call of the model leaves as it is -/
def mf (n : Nat) (h h' : qH) : Prop := hN h' = hN h + n ∧ ∀ b, (b < 44 ∨ b = 56 ∨ SCR ≤ b) → hI h' b = hI h b ∧ hJ h' b = hJ h b ∧ hR h' b = hR h b
theorem mf_0 {h h' : qH} {n : Nat} (a : hN h' = hN h + n) (b : ∀ c, (c < 44 ∨ c = 56 ∨ SCR ≤ c) → hI h' c = hI h c ∧ hJ h' c = hJ h c ∧ hR h' c = hR h c) : mf n h h' := ⟨a, b⟩
theorem mf_tr {n m : Nat} {h h1 h2 : qH} (a : mf n h h1) (b : mf m h1 h2) : mf (n + m) h h2 := ⟨by rw [b.1, a.1]; omega, fun c hc => ⟨(b.2 c hc).1.trans (a.2 c hc).1, (b.2 c hc).2.1.trans (a.2 c hc).2.1, (b.2 c hc).2.2.trans (a.2 c hc).2.2⟩⟩
/-- what a query keeps -/
def kp (h h' : qH) : Prop := hR h' = hR h ∧ hN h' = hN h ∧ (∀ b, b ∉ [44, 47, 50, 51, 52, 53, 54, 55] → hI h' b = hI h b ∧ hJ h' b = hJ h b) ∧ ∀ j, j ∈ [6, 12, 19, 20, 22] → hI h' 44 j = hI h 44 j
theorem kp_refl {h : qH} : kp h h := ⟨rfl, rfl, fun _ _ => ⟨rfl, rfl⟩, fun _ _ => rfl⟩
theorem kp_tr {h h1 h2 : qH} (a : kp h h1) (b : kp h1 h2) : kp h h2 := ⟨b.1.trans a.1, b.2.1.trans a.2.1, fun c hc => ⟨(b.2.2.1 c hc).1.trans (a.2.2.1 c hc).1, (b.2.2.1 c hc).2.trans (a.2.2.1 c hc).2⟩, fun j hj => (b.2.2.2 j hj).trans (a.2.2.2 j hj)⟩
theorem kp_sx {L : List Nat} {h h' : qH} (x : sx L h h') (hL : ∀ b ∈ L, b ∈ [47, 50, 51, 52, 53, 55]) : kp h h' := ⟨x.1, x.2.2.1, fun b hb => ⟨x.2.2.2 b (fun q => hb (by have := hL b q; simp at this ⊢; omega)), by rw [x.2.1]⟩, fun j _ => by rw [x.2.2.2 44 (fun q => by have := hL 44 q; simp at this)]⟩
theorem kp_w {h h1 : qH} {k : Nat} {v : Int32} (a : kp h h1) (hk : k ∉ [6, 12, 19, 20, 22]) : kp h (wI h1 44 (upd (hI h1 44) k v)) := by
  refine kp_tr a ⟨rfl, rfl, fun b hb => ⟨?_, rfl⟩, fun j hj => ?_⟩
  · rw [hI_wI, if_neg (fun q => hb (by rw [q]; simp))]
  · rw [hI_wI, if_pos rfl, upd_at, if_neg (fun q => hk (by rw [← q]; exact hj))]
theorem kp_tm {h h1 : qH} {v : Int32} (a : kp h h1) : kp h (tm h1 v) := by
  have e : tm h1 v = wI (wI h1 44 (upd (hI h1 44) 1 v)) 44 (upd (hI (wI h1 44 (upd (hI h1 44) 1 v)) 44) 2 (-1)) := by
    rw [wI_I, hI_wI, if_pos rfl]; rfl
  rw [e]
  exact kp_w (kp_w a (by decide)) (by decide)
/-- thrown: nothing -/
def th (h : qH) : qH := wI h 44 (upd (hI h 44) 0 0)
theorem kp_th {h : qH} : kp h (th h) := kp_w kp_refl (by decide)
theorem kp_mf {h h' : qH} (k : kp h h') : mf 0 h h' := ⟨k.2.1, fun b hb => ⟨(k.2.2.1 b (by simp; unfold SCR at hb; omega)).1, (k.2.2.1 b (by simp; unfold SCR at hb; omega)).2, by rw [k.1]⟩⟩
theorem vF_cg {f g : Nat → Int32} {a : aS} {x : sT} (v : vF f a x) (e : f = g) : vF g a x := by rw [← e]; exact v
theorem mSt_kp {h h' : qH} {s : Nat} {a : aS} (w : mSt h s a) (k : kp h h') : mSt h' s a := by
  obtain ⟨j, e, -⟩ := w.1
  exact mSt_mv w (by rw [k.1]) (fun i _ => (k.2.2.1 _ (by simp; omega)).1)
theorem MI_kp {h h' : qH} {S S' : AS} (I : MI h S) (k : kp h h') (e0 : S'.1 = S.1) (e1 : S'.2.1 = S.2.1) (e2 : S'.2.2.1 = S.2.2.1) (en : mEn h' S') : MI h' S' := by
  obtain ⟨F, bd, st, v, pa, im, e22, tp, -⟩ := I
  obtain ⟨a, ⟨x, ps, ims⟩, ⟨tl, tb⟩, f1, f2, f3⟩ := S
  obtain ⟨a', xx, tt, f1', f2', f3'⟩ := S'
  simp only at e0 e1 e2
  subst e0 e1 e2
  refine ⟨by rw [k.1]; exact F, bd, ?_, by rw [(k.2.2.1 46 (by decide)).1]; exact v, ⟨by rw [k.2.2.2 19 (by decide)]; exact pa.1, pa.2.1, by rw [(k.2.2.1 48 (by decide)).1]; exact pa.2.2⟩, ⟨by rw [k.2.2.2 20 (by decide)]; exact im.1, im.2.1, by rw [(k.2.2.1 49 (by decide)).1]; exact im.2.2⟩, by rw [k.2.2.2 22 (by decide)]; exact e22, ⟨tp.1, by rw [k.2.2.2 6 (by decide)]; exact tp.2.1, by rw [(k.2.2.1 45 (by decide)).1]; exact tp.2.2⟩, en⟩
  rcases st with ⟨n1, n2, n3⟩ | ⟨n1, s, n2, n3, n4⟩
  · exact .inl ⟨n1, by rw [k.1]; exact n2, n3⟩
  · exact .inr ⟨n1, s, by rw [k.1]; exact n2, mSt_kp n3 k, by rw [k.2.1]; exact n4⟩
theorem MI_tm {h h1 : qH} {S : AS} {v : Nat} (I : MI h S) (k : kp h h1) (hv : v ≠ 4) : MI (tm h1 (nI v)) (trS S v) := by
  refine MI_kp I (kp_tm k) rfl rfl rfl ⟨?_, ?_, ?_⟩
  · rw [(kp_tm k).2.2.2 12 (by decide)]; exact I.2.2.2.2.2.2.2.2.1
  · unfold tm; rw [hI_wI, if_pos rfl, upd_at, if_neg (by decide), upd_at, if_pos rfl]; rfl
  · unfold tm
    rw [hI_wI, if_pos rfl, upd_at, if_pos rfl]
    exact (if_neg hv).symm
theorem MI_th {h : qH} {S : AS} (I : MI h S) : MI (th h) S := by
  refine MI_kp I kp_th rfl rfl rfl ⟨?_, ?_, ?_⟩
  · rw [kp_th.2.2.2 12 (by decide)]; exact I.2.2.2.2.2.2.2.2.1
  · unfold th; rw [hI_wI, if_pos rfl, upd_at, if_neg (by decide)]; exact I.2.2.2.2.2.2.2.2.2.1
  · unfold th; rw [hI_wI, if_pos rfl, upd_at, if_neg (by decide)]; exact I.2.2.2.2.2.2.2.2.2.2
/-- a call of the model: the answer, the next state -/
def ms (n d : Nat) (M : qM) (As : List Value) (h : qH) (S' : AS) (r : Option Value) : Prop := ∃ h', (∀ Q, WM d M As h Q = Q (some r) h') ∧ mf n h h' ∧ MI h' S'
theorem ms_of {d : Nat} {M : qM} {As : List Value} {h : qH} {S : AS} {v : Nat} {r : Option Value} {ls : qL} (I : MI h S) (hv : v ≠ 4) (E : ∀ Q, WM d M As h Q = WP d M (0, 0) 5 ls [] (th h) Q) (p : ∃ h1, (∀ Q, WP d M (0, 0) 5 ls [] (th h) Q = Q (some r) (tm h1 (nI v))) ∧ kp (th h) h1) : ms 0 d M As h (trS S v) r := by
  obtain ⟨h1, e, k⟩ := p
  exact ⟨_, fun Q => (E Q).trans (e Q), kp_mf (kp_tr kp_th (kp_tm k)), MI_tm I (kp_tr kp_th k) hv⟩
/-- what is known of a street, where there is one -/
theorem MI_y {h : qH} {S : AS} (I : MI h S) (c : ¬ aN (sA S) = 0) : ∃ s, mK h s (sA S) ∧ vF (hI h 46) (sA S) (sX S) ∧ (sX S).1 < 2 ^ aN (sA S) ∧ (sX S).2.1 < 2 ^ aN (sA S) ∧ (sX S).2.2 ≤ 90 ∧ (sX S).1 < 64 ∧ (sX S).2.1 < 64 ∧ aW (sA S) := by
  obtain ⟨F, bd, st, v, pa, im, e22, tp, -⟩ := I
  rcases st with ⟨n1, -⟩ | ⟨n1, s, n2, n3, n4⟩
  · exact absurd n1 c
  · exact ⟨s, ⟨F, n2, n3, e22⟩, v, bd.2.1.2.1, bd.2.1.2.2, bd.2.1.1.2.2, bd.2.1.1.1, bd.2.1.1.2.1, bd.1⟩
theorem MI_n {h : qH} {S : AS} (I : MI h S) (c : aN (sA S) = 0) : Fin0 (hR h) ∧ hR h 44 3 = none := by
  obtain ⟨F, bd, st, -⟩ := I
  rcases st with ⟨-, n1, -⟩ | ⟨n1, -⟩
  · exact ⟨F, n1⟩
  · omega
theorem ix0 {y : Int32} : ix y 0 = none := by
  unfold ix
  by_cases c : y < 0
  · rw [if_pos (.inl c)]
  · rw [if_pos (.inr (Int32.not_lt.mp c))]
theorem m_fault {d : Nat} {h : qH} {S : AS} (I : MI h S) : ms 0 d mX9_fault [.ref (44 : Nat)] h S (some (.int (nI (sF S)))) := by
  refine ⟨th h, fun Q => ?_, kp_mf kp_th, MI_th I⟩
  have e := I.2.2.2.2.2.2.2.2.1
  simp (implicitDefEqProofs := false) only [eX9_fault, rX9_fault_0, rX9_fault_0b, rX9_fault_1, rX9_fault_2, rX9_fault_5, rX9_fault_5b, rX9_fault_6, rX9_fault_9, kA_44, kB_44, e, pCX9_fault, pSX9_fault, pOX9_fault, pLX9_fault, th, kl_I, kl_J, kl_R, kl_T, kl_N, Nat.le_refl, Nat.zero_le, List.map_nil, List.map_cons, List.sum_nil, List.sum_cons, c_I, c_J, c_R, c_T, va_rf, hI_wI, hJ_wJ, hR_wR, hI_J, hI_R, hJ_I, hJ_R, hR_I, hR_J, hN_I, hN_J, hN_R, wI_I, wJ_J, upd_at, updL_at, kR_s, Option.toList, List.append_nil, List.nil_append, List.cons_append, if_true, if_false, reduceIte, Bool.false_eq_true, not_true_eq_false, not_false_eq_true, true_and, and_true, false_and, and_false, true_or, or_true,  Nat.reduceEqDiff, Nat.reduceAdd, Nat.reduceLeDiff]
theorem m_where {d : Nat} {h : qH} {S : AS} (I : MI h S) : ms 0 d mX9_where [.ref (44 : Nat)] h S (some (.int (if sTr S = 4 then nI (sPl S) else -1))) := by
  refine ⟨th h, fun Q => ?_, kp_mf kp_th, MI_th I⟩
  have e := I.2.2.2.2.2.2.2.2.2.2
  simp (implicitDefEqProofs := false) only [eX9_where, rX9_where_0, rX9_where_0b, rX9_where_1, rX9_where_2, rX9_where_5, rX9_where_5b, rX9_where_6, rX9_where_9, kA_44, kB_44, e, pCX9_where, pSX9_where, pOX9_where, pLX9_where, th, kl_I, kl_J, kl_R, kl_T, kl_N, Nat.le_refl, Nat.zero_le, List.map_nil, List.map_cons, List.sum_nil, List.sum_cons, c_I, c_J, c_R, c_T, va_rf, hI_wI, hJ_wJ, hR_wR, hI_J, hI_R, hJ_I, hJ_R, hR_I, hR_J, hN_I, hN_J, hN_R, wI_I, wJ_J, upd_at, updL_at, kR_s, Option.toList, List.append_nil, List.nil_append, List.cons_append, if_true, if_false, reduceIte, Bool.false_eq_true, not_true_eq_false, not_false_eq_true, true_and, and_true, false_and, and_false, true_or, or_true,  Nat.reduceEqDiff, Nat.reduceAdd, Nat.reduceLeDiff]
theorem m_trouble {d : Nat} {h : qH} {S : AS} (I : MI h S) : ms 0 d mX9_trouble [.ref (44 : Nat)] h S (some (.int (nI (sTr S)))) := by
  refine ⟨th h, fun Q => ?_, kp_mf kp_th, MI_th I⟩
  have e := I.2.2.2.2.2.2.2.2.2.1
  simp (implicitDefEqProofs := false) only [eX9_trouble, rX9_trouble_0, rX9_trouble_0b, rX9_trouble_1, rX9_trouble_2, rX9_trouble_5, rX9_trouble_5b, rX9_trouble_6, rX9_trouble_9, kA_44, kB_44, e, pCX9_trouble, pSX9_trouble, pOX9_trouble, pLX9_trouble, th, kl_I, kl_J, kl_R, kl_T, kl_N, Nat.le_refl, Nat.zero_le, List.map_nil, List.map_cons, List.sum_nil, List.sum_cons, c_I, c_J, c_R, c_T, va_rf, hI_wI, hJ_wJ, hR_wR, hI_J, hI_R, hJ_I, hJ_R, hR_I, hR_J, hN_I, hN_J, hN_R, wI_I, wJ_J, upd_at, updL_at, kR_s, Option.toList, List.append_nil, List.nil_append, List.cons_append, if_true, if_false, reduceIte, Bool.false_eq_true, not_true_eq_false, not_false_eq_true, true_and, and_true, false_and, and_false, true_or, or_true,  Nat.reduceEqDiff, Nat.reduceAdd, Nat.reduceLeDiff]

theorem m_burns {d : Nat} {h : qH} {S : AS} {y : Int32} (I : MI h S) : ms 0 (d + 10) mX9_burns [.ref (44 : Nat), .int y] h (trS S (sBurns S y).1) (some (.int (sBurns S y).2)) := by
  rw [sBurns]
  by_cases c1 : aN (sA S) = 0
  · rw [c1, ix0]
    refine ms_of (v := 1) (ls := [some (.ref (44 : Nat)), some (.int y)]) I (by decide) (fun Q => by simp (implicitDefEqProofs := false) only [eX9_burns, rX9_burns_0, rX9_burns_0b, rX9_burns_1, rX9_burns_2, kA_44, kB_44, pCX9_burns, pSX9_burns, pOX9_burns, pLX9_burns, th, kl_I, kl_J, kl_R, kl_T, kl_N, Nat.le_refl, Nat.zero_le, List.map_nil, List.map_cons, List.sum_nil, List.sum_cons, c_I, c_J, c_R, c_T, va_rf, hI_wI, hJ_wJ, hR_wR, hI_J, hI_R, hJ_I, hJ_R, hR_I, hR_J, hN_I, hN_J, hN_R, wI_I, wJ_J, upd_at, updL_at, kR_s, Option.toList, List.append_nil, List.nil_append, List.cons_append, if_true, if_false, reduceIte, Bool.false_eq_true, not_true_eq_false, not_false_eq_true, true_and, and_true, false_and, and_false, true_or, or_true,  Nat.reduceEqDiff, Nat.reduceAdd, Nat.reduceLeDiff]) ?_
    obtain ⟨F, r⟩ := MI_n (MI_th I) c1
    generalize th h = g at F r ⊢
    exact ⟨g, fun Q => by simp (implicitDefEqProofs := false) only [rX9_burns_5, rX9_burns_5b, rX9_burns_6, rX9_burns_7, rX9_burns_10, rX9_burns_13, rX9_burns_13b, rX9_burns_14, rX9_burns_15, rX9_burns_18, kA_44, kB_44, c_isHouse0 r, c_mrefused, show nI 1 = 1 from rfl, pCX9_burns, pSX9_burns, pOX9_burns, pLX9_burns, pCX9_isHouse, pSX9_isHouse, pOX9_isHouse, pLX9_isHouse, pCX9_refused, pSX9_refused, pOX9_refused, pLX9_refused, kl_I, kl_J, kl_R, kl_T, kl_N, Nat.le_refl, Nat.zero_le, List.map_nil, List.map_cons, List.sum_nil, List.sum_cons, c_I, c_J, c_R, c_T, va_rf, hI_wI, hJ_wJ, hR_wR, hI_J, hI_R, hJ_I, hJ_R, hR_I, hR_J, hN_I, hN_J, hN_R, wI_I, wJ_J, upd_at, updL_at, kR_s, Option.toList, List.append_nil, List.nil_append, List.cons_append, if_true, if_false, reduceIte, Bool.false_eq_true, not_true_eq_false, not_false_eq_true, true_and, and_true, false_and, and_false, true_or, or_true,  Nat.reduceEqDiff, Nat.reduceAdd, Nat.reduceLeDiff], kp_refl⟩
  · have I1 := MI_th I
    obtain ⟨s, k, v, t1, t2, t3, t4, t5, ww⟩ := MI_y I1 c1
    have ih := c_isHouse (d := d + 9) (y := y) k.2.1 k.2.2.1
    cases hx : ix y (aN (sA S)) with
    | none =>
      rw [hx] at ih
      refine ms_of (v := 1) (ls := [some (.ref (44 : Nat)), some (.int y)]) I (by decide) (fun Q => by simp (implicitDefEqProofs := false) only [eX9_burns, rX9_burns_0, rX9_burns_0b, rX9_burns_1, rX9_burns_2, kA_44, kB_44, pCX9_burns, pSX9_burns, pOX9_burns, pLX9_burns, th, kl_I, kl_J, kl_R, kl_T, kl_N, Nat.le_refl, Nat.zero_le, List.map_nil, List.map_cons, List.sum_nil, List.sum_cons, c_I, c_J, c_R, c_T, va_rf, hI_wI, hJ_wJ, hR_wR, hI_J, hI_R, hJ_I, hJ_R, hR_I, hR_J, hN_I, hN_J, hN_R, wI_I, wJ_J, upd_at, updL_at, kR_s, Option.toList, List.append_nil, List.nil_append, List.cons_append, if_true, if_false, reduceIte, Bool.false_eq_true, not_true_eq_false, not_false_eq_true, true_and, and_true, false_and, and_false, true_or, or_true,  Nat.reduceEqDiff, Nat.reduceAdd, Nat.reduceLeDiff]) ?_
      generalize th h = g at k ih ⊢
      exact ⟨g, fun Q => by simp (implicitDefEqProofs := false) only [rX9_burns_5, rX9_burns_5b, rX9_burns_6, rX9_burns_7, rX9_burns_10, rX9_burns_13, rX9_burns_13b, rX9_burns_14, rX9_burns_15, rX9_burns_18, kA_44, kB_44, ih, decide_false, bI_f, c_mrefused, show nI 1 = 1 from rfl, pCX9_burns, pSX9_burns, pOX9_burns, pLX9_burns, pCX9_isHouse, pSX9_isHouse, pOX9_isHouse, pLX9_isHouse, pCX9_refused, pSX9_refused, pOX9_refused, pLX9_refused, kl_I, kl_J, kl_R, kl_T, kl_N, Nat.le_refl, Nat.zero_le, List.map_nil, List.map_cons, List.sum_nil, List.sum_cons, c_I, c_J, c_R, c_T, va_rf, hI_wI, hJ_wJ, hR_wR, hI_J, hI_R, hJ_I, hJ_R, hR_I, hR_J, hN_I, hN_J, hN_R, wI_I, wJ_J, upd_at, updL_at, kR_s, Option.toList, List.append_nil, List.nil_append, List.cons_append, if_true, if_false, reduceIte, Bool.false_eq_true, not_true_eq_false, not_false_eq_true, true_and, and_true, false_and, and_false, true_or, or_true,  Nat.reduceEqDiff, Nat.reduceAdd, Nat.reduceLeDiff], kp_refl⟩
    | some i =>
      rw [hx] at ih
      obtain ⟨rfl, hi⟩ := ix_s (by have := ww.1; omega) hx
      refine ms_of (v := 0) (ls := [some (.ref (44 : Nat)), some (.int (nI i))]) I (by decide) (fun Q => by simp (implicitDefEqProofs := false) only [eX9_burns, rX9_burns_0, rX9_burns_0b, rX9_burns_1, rX9_burns_2, kA_44, kB_44, pCX9_burns, pSX9_burns, pOX9_burns, pLX9_burns, th, kl_I, kl_J, kl_R, kl_T, kl_N, Nat.le_refl, Nat.zero_le, List.map_nil, List.map_cons, List.sum_nil, List.sum_cons, c_I, c_J, c_R, c_T, va_rf, hI_wI, hJ_wJ, hR_wR, hI_J, hI_R, hJ_I, hJ_R, hR_I, hR_J, hN_I, hN_J, hN_R, wI_I, wJ_J, upd_at, updL_at, kR_s, Option.toList, List.append_nil, List.nil_append, List.cons_append, if_true, if_false, reduceIte, Bool.false_eq_true, not_true_eq_false, not_false_eq_true, true_and, and_true, false_and, and_false, true_or, or_true,  Nat.reduceEqDiff, Nat.reduceAdd, Nat.reduceLeDiff]) ?_
      generalize th h = g at k ih v ⊢
      obtain ⟨h1, e1, x1, u1, a1⟩ := c_finds (d := d + 6) k v
      have k1 := mK_sx k x1 (by decide)
      have F1 := k1.1
      have h6 := ww.1
      have v6 : vp_in (nI i) 6 := nI_vp (by omega) (by decide)
      have cl : (nI i).toNatClampNeg = i := nI_cl (by omega)
      exact ⟨h1, fun Q => by simp (implicitDefEqProofs := false) only [rX9_burns_5, rX9_burns_5b, rX9_burns_6, rX9_burns_7, rX9_burns_10, rX9_burns_13, rX9_burns_13b, rX9_burns_14, rX9_burns_15, rX9_burns_18, rX9_burns_19, rX9_burns_19b, rX9_burns_20, rX9_burns_23, rX9_burns_23b, rX9_burns_24, rX9_burns_24b, rX9_burns_25, rX9_burns_28, rX9_burns_29, rX9_burns_30, rX9_burns_33, rX9_burns_36, kA_44, kB_44, kA_50, kB_50, fin_44_5 F1, fin_44_15 F1, fin_44_16 F1, fin_44_17 F1, fin_44_18 F1, fin_44_21 F1, fin_44_23 F1, fin_44_24 F1, fin_44_25 F1, fin_44_29 F1, fin_44_33 F1, ih, reduceCtorEq, decide_true, bI_t, show ¬ (1 : Int32) = 0 from by decide, e1, v6, cl, a1.1 i hi, c_orNobody (a1.2.1 i), c_mgood, show nI 0 = 0 from rfl, pCX9_burns, pSX9_burns, pOX9_burns, pLX9_burns, pCX9_isHouse, pSX9_isHouse, pOX9_isHouse, pLX9_isHouse, pCX9_finds, pSX9_finds, pOX9_finds, pLX9_finds, pCX9_orNobody, pSX9_orNobody, pOX9_orNobody, pLX9_orNobody, pCX9_good, pSX9_good, pOX9_good, pLX9_good, kl_I, kl_J, kl_R, kl_T, kl_N, Nat.le_refl, Nat.zero_le, List.map_nil, List.map_cons, List.sum_nil, List.sum_cons, c_I, c_J, c_R, c_T, va_rf, hI_wI, hJ_wJ, hR_wR, hI_J, hI_R, hJ_I, hJ_R, hR_I, hR_J, hN_I, hN_J, hN_R, wI_I, wJ_J, upd_at, updL_at, kR_s, Option.toList, List.append_nil, List.nil_append, List.cons_append, if_true, if_false, reduceIte, Bool.false_eq_true, not_true_eq_false, not_false_eq_true, true_and, and_true, false_and, and_false, true_or, or_true,  Nat.reduceEqDiff, Nat.reduceAdd, Nat.reduceLeDiff], kp_sx x1 (by decide)⟩
theorem m_burnt {d : Nat} {h : qH} {S : AS} {y : Int32} (I : MI h S) : ms 0 (d + 10) mX9_burnt [.ref (44 : Nat), .int y] h (trS S (sBurnt S y).1) (some (.int (sBurnt S y).2)) := by
  rw [sBurnt]
  have E : ∀ Q, WM (d + 10) mX9_burnt [.ref (44 : Nat), .int y] h Q = WP (d + 10) mX9_burnt (0, 0) 5 [some (.ref (44 : Nat)), some (.int y), none] [] (th h) Q := fun Q => by simp (implicitDefEqProofs := false) only [eX9_burnt, rX9_burnt_0, rX9_burnt_0b, rX9_burnt_1, rX9_burnt_2, kA_44, kB_44, pCX9_burnt, pSX9_burnt, pOX9_burnt, pLX9_burnt, th, kl_I, kl_J, kl_R, kl_T, kl_N, Nat.le_refl, Nat.zero_le, List.map_nil, List.map_cons, List.sum_nil, List.sum_cons, c_I, c_J, c_R, c_T, va_rf, hI_wI, hJ_wJ, hR_wR, hI_J, hI_R, hJ_I, hJ_R, hR_I, hR_J, hN_I, hN_J, hN_R, wI_I, wJ_J, upd_at, updL_at, kR_s, Option.toList, List.append_nil, List.nil_append, List.cons_append, if_true, if_false, reduceIte, Bool.false_eq_true, not_true_eq_false, not_false_eq_true, true_and, and_true, false_and, and_false, true_or, or_true,  Nat.reduceEqDiff, Nat.reduceAdd, Nat.reduceLeDiff]
  by_cases c1 : aN (sA S) = 0
  · rw [if_pos c1]
    refine ms_of (v := 1) I (by decide) E ?_
    obtain ⟨F, r⟩ := MI_n (MI_th I) c1
    generalize th h = g at F r ⊢
    have rd := c_refusesDay (d := d + 8) (h := g) (b := false) (v := y) (lo := 0)
    rw [bI_f] at rd
    exact ⟨g, fun Q => by simp (implicitDefEqProofs := false) only [rX9_burnt_5, rX9_burnt_5b, rX9_burnt_6, rX9_burnt_6b, rX9_burnt_7, rX9_burnt_10, rX9_burnt_10b, rX9_burnt_13, rX9_burnt_14, rX9_burnt_17, rX9_burnt_18, rX9_burnt_19, rX9_burnt_20, rX9_burnt_23, rX9_burnt_24, rX9_burnt_25, rX9_burnt_28, rX9_burnt_28b, rX9_burnt_29, rX9_burnt_30, rX9_burnt_33, kA_44, kB_44, r, rd, c_mrefused, show nI 1 = 1 from rfl, show ¬ (1 : Int32) ≤ 0 from by decide, pCX9_burnt, pSX9_burnt, pOX9_burnt, pLX9_burnt, pCX9_refusesDay, pSX9_refusesDay, pOX9_refusesDay, pLX9_refusesDay, pCX9_refused, pSX9_refused, pOX9_refused, pLX9_refused, kl_I, kl_J, kl_R, kl_T, kl_N, Nat.le_refl, Nat.zero_le, List.map_nil, List.map_cons, List.sum_nil, List.sum_cons, c_I, c_J, c_R, c_T, va_rf, hI_wI, hJ_wJ, hR_wR, hI_J, hI_R, hJ_I, hJ_R, hR_I, hR_J, hN_I, hN_J, hN_R, wI_I, wJ_J, upd_at, updL_at, kR_s, Option.toList, List.append_nil, List.nil_append, List.cons_append, if_true, if_false, reduceIte, Bool.false_eq_true, not_true_eq_false, not_false_eq_true, true_and, and_true, false_and, and_false, true_or, or_true,  Nat.reduceEqDiff, Nat.reduceAdd, Nat.reduceLeDiff], kp_refl⟩
  · rw [if_neg c1]
    have I1 := MI_th I
    obtain ⟨s, k, v, t1, t2, t3, t4, t5, ww⟩ := MI_y I1 c1
    by_cases c2 : y < 0 ∨ 90 < y
    · rw [if_pos c2]
      refine ms_of (v := 2) I (by decide) E ?_
      generalize th h = g at k v ⊢
      have F := k.1
      have rd := c_refusesDay (d := d + 8) (h := g) (b := true) (v := y) (lo := 0)
      rw [bI_t] at rd
      exact ⟨g, fun Q => by simp (implicitDefEqProofs := false) only [rX9_burnt_5, rX9_burnt_5b, rX9_burnt_6, rX9_burnt_6b, rX9_burnt_7, rX9_burnt_10, rX9_burnt_10b, rX9_burnt_13, rX9_burnt_14, rX9_burnt_17, rX9_burnt_18, rX9_burnt_19, rX9_burnt_20, rX9_burnt_23, rX9_burnt_24, rX9_burnt_25, rX9_burnt_28, rX9_burnt_28b, rX9_burnt_29, rX9_burnt_30, rX9_burnt_33, kA_44, kB_44, kA_46, kB_46, fin_44_5 F, fin_44_15 F, fin_44_16 F, fin_44_17 F, fin_44_18 F, fin_44_21 F, fin_44_23 F, fin_44_24 F, fin_44_25 F, fin_44_29 F, fin_44_33 F, k.2.1, rd, c2, c_mrefused, show nI 2 = 2 from rfl, show ¬ (2 : Int32) ≤ 0 from by decide, Bool.true_eq_false, pCX9_burnt, pSX9_burnt, pOX9_burnt, pLX9_burnt, pCX9_refusesDay, pSX9_refusesDay, pOX9_refusesDay, pLX9_refusesDay, pCX9_refused, pSX9_refused, pOX9_refused, pLX9_refused, kl_I, kl_J, kl_R, kl_T, kl_N, Nat.le_refl, Nat.zero_le, List.map_nil, List.map_cons, List.sum_nil, List.sum_cons, c_I, c_J, c_R, c_T, va_rf, hI_wI, hJ_wJ, hR_wR, hI_J, hI_R, hJ_I, hJ_R, hR_I, hR_J, hN_I, hN_J, hN_R, wI_I, wJ_J, upd_at, updL_at, kR_s, Option.toList, List.append_nil, List.nil_append, List.cons_append, if_true, if_false, reduceIte, Bool.false_eq_true, not_true_eq_false, not_false_eq_true, true_and, and_true, false_and, and_false, true_or, or_true,  Nat.reduceEqDiff, Nat.reduceAdd, Nat.reduceLeDiff], kp_refl⟩
    · rw [if_neg c2]
      refine ms_of (v := 0) I (by decide) E ?_
      generalize th h = g at k v ⊢
      have F := k.1
      have rd := c_refusesDay (d := d + 8) (h := g) (b := true) (v := y) (lo := 0)
      rw [bI_t] at rd
      obtain ⟨i, hi, rfl⟩ := dy c2
      rw [nI_cl (by omega)]
      obtain ⟨h1, e1, x1, u1, a1⟩ := c_finds (d := d + 6) k v
      have k1 := mK_sx k x1 (by decide)
      have bb := c_mbb (d := d + 9) (y := i) k1.1 k1.2.1 k1.2.2.1 a1 (by omega)
      exact ⟨h1, fun Q => by simp (implicitDefEqProofs := false) only [rX9_burnt_5, rX9_burnt_5b, rX9_burnt_6, rX9_burnt_6b, rX9_burnt_7, rX9_burnt_10, rX9_burnt_10b, rX9_burnt_13, rX9_burnt_14, rX9_burnt_17, rX9_burnt_18, rX9_burnt_19, rX9_burnt_20, rX9_burnt_23, rX9_burnt_24, rX9_burnt_25, rX9_burnt_28, rX9_burnt_28b, rX9_burnt_29, rX9_burnt_30, rX9_burnt_33, rX9_burnt_34, rX9_burnt_34b, rX9_burnt_35, rX9_burnt_38, rX9_burnt_38b, rX9_burnt_39, rX9_burnt_39b, rX9_burnt_40, rX9_burnt_41, rX9_burnt_44, rX9_burnt_47, kA_44, kB_44, kA_46, kB_46, fin_44_5 F, fin_44_15 F, fin_44_16 F, fin_44_17 F, fin_44_18 F, fin_44_21 F, fin_44_23 F, fin_44_24 F, fin_44_25 F, fin_44_29 F, fin_44_33 F, k.2.1, rd, c2, Bool.true_eq_false, show (0 : Int32) ≤ 0 from by decide, e1, bb, c_mgood, show nI 0 = 0 from rfl, pCX9_burnt, pSX9_burnt, pOX9_burnt, pLX9_burnt, pCX9_refusesDay, pSX9_refusesDay, pOX9_refusesDay, pLX9_refusesDay, pCX9_finds, pSX9_finds, pOX9_finds, pLX9_finds, pCX9_burntBy, pSX9_burntBy, pOX9_burntBy, pLX9_burntBy, pCX9_good, pSX9_good, pOX9_good, pLX9_good, kl_I, kl_J, kl_R, kl_T, kl_N, Nat.le_refl, Nat.zero_le, List.map_nil, List.map_cons, List.sum_nil, List.sum_cons, c_I, c_J, c_R, c_T, va_rf, hI_wI, hJ_wJ, hR_wR, hI_J, hI_R, hJ_I, hJ_R, hR_I, hR_J, hN_I, hN_J, hN_R, wI_I, wJ_J, upd_at, updL_at, kR_s, Option.toList, List.append_nil, List.nil_append, List.cons_append, if_true, if_false, reduceIte, Bool.false_eq_true, not_true_eq_false, not_false_eq_true, true_and, and_true, false_and, and_false, true_or, or_true,  Nat.reduceEqDiff, Nat.reduceAdd, Nat.reduceLeDiff]; rfl, kp_sx x1 (by decide)⟩
theorem m_next {d : Nat} {h : qH} {S : AS} {y : Int32} (I : MI h S) : ms 0 (d + 10) mX9_next [.ref (44 : Nat), .int y] h (trS S (sNext S y).1) (some (.int (sNext S y).2)) := by
  rw [sNext]
  have E : ∀ Q, WM (d + 10) mX9_next [.ref (44 : Nat), .int y] h Q = WP (d + 10) mX9_next (0, 0) 5 [some (.ref (44 : Nat)), some (.int y), none] [] (th h) Q := fun Q => by simp (implicitDefEqProofs := false) only [eX9_next, rX9_next_0, rX9_next_0b, rX9_next_1, rX9_next_2, kA_44, kB_44, pCX9_next, pSX9_next, pOX9_next, pLX9_next, th, kl_I, kl_J, kl_R, kl_T, kl_N, Nat.le_refl, Nat.zero_le, List.map_nil, List.map_cons, List.sum_nil, List.sum_cons, c_I, c_J, c_R, c_T, va_rf, hI_wI, hJ_wJ, hR_wR, hI_J, hI_R, hJ_I, hJ_R, hR_I, hR_J, hN_I, hN_J, hN_R, wI_I, wJ_J, upd_at, updL_at, kR_s, Option.toList, List.append_nil, List.nil_append, List.cons_append, if_true, if_false, reduceIte, Bool.false_eq_true, not_true_eq_false, not_false_eq_true, true_and, and_true, false_and, and_false, true_or, or_true,  Nat.reduceEqDiff, Nat.reduceAdd, Nat.reduceLeDiff]
  by_cases c1 : aN (sA S) = 0
  · rw [if_pos c1]
    refine ms_of (v := 1) I (by decide) E ?_
    obtain ⟨F, r⟩ := MI_n (MI_th I) c1
    generalize th h = g at F r ⊢
    have rd := c_refusesDay (d := d + 8) (h := g) (b := false) (v := y) (lo := 0)
    rw [bI_f] at rd
    exact ⟨g, fun Q => by simp (implicitDefEqProofs := false) only [rX9_next_5, rX9_next_5b, rX9_next_6, rX9_next_6b, rX9_next_7, rX9_next_10, rX9_next_10b, rX9_next_13, rX9_next_14, rX9_next_17, rX9_next_18, rX9_next_19, rX9_next_20, rX9_next_23, rX9_next_24, rX9_next_25, rX9_next_28, rX9_next_28b, rX9_next_29, rX9_next_30, rX9_next_33, kA_44, kB_44, r, rd, c_mrefused, show nI 1 = 1 from rfl, show ¬ (1 : Int32) ≤ 0 from by decide, pCX9_next, pSX9_next, pOX9_next, pLX9_next, pCX9_refusesDay, pSX9_refusesDay, pOX9_refusesDay, pLX9_refusesDay, pCX9_refused, pSX9_refused, pOX9_refused, pLX9_refused, kl_I, kl_J, kl_R, kl_T, kl_N, Nat.le_refl, Nat.zero_le, List.map_nil, List.map_cons, List.sum_nil, List.sum_cons, c_I, c_J, c_R, c_T, va_rf, hI_wI, hJ_wJ, hR_wR, hI_J, hI_R, hJ_I, hJ_R, hR_I, hR_J, hN_I, hN_J, hN_R, wI_I, wJ_J, upd_at, updL_at, kR_s, Option.toList, List.append_nil, List.nil_append, List.cons_append, if_true, if_false, reduceIte, Bool.false_eq_true, not_true_eq_false, not_false_eq_true, true_and, and_true, false_and, and_false, true_or, or_true,  Nat.reduceEqDiff, Nat.reduceAdd, Nat.reduceLeDiff], kp_refl⟩
  · rw [if_neg c1]
    have I1 := MI_th I
    obtain ⟨s, k, v, t1, t2, t3, t4, t5, ww⟩ := MI_y I1 c1
    by_cases c2 : y < 0 ∨ 90 < y
    · rw [if_pos c2]
      refine ms_of (v := 2) I (by decide) E ?_
      generalize th h = g at k v ⊢
      have F := k.1
      have rd := c_refusesDay (d := d + 8) (h := g) (b := true) (v := y) (lo := 0)
      rw [bI_t] at rd
      exact ⟨g, fun Q => by simp (implicitDefEqProofs := false) only [rX9_next_5, rX9_next_5b, rX9_next_6, rX9_next_6b, rX9_next_7, rX9_next_10, rX9_next_10b, rX9_next_13, rX9_next_14, rX9_next_17, rX9_next_18, rX9_next_19, rX9_next_20, rX9_next_23, rX9_next_24, rX9_next_25, rX9_next_28, rX9_next_28b, rX9_next_29, rX9_next_30, rX9_next_33, kA_44, kB_44, kA_46, kB_46, fin_44_5 F, fin_44_15 F, fin_44_16 F, fin_44_17 F, fin_44_18 F, fin_44_21 F, fin_44_23 F, fin_44_24 F, fin_44_25 F, fin_44_29 F, fin_44_33 F, k.2.1, rd, c2, c_mrefused, show nI 2 = 2 from rfl, show ¬ (2 : Int32) ≤ 0 from by decide, Bool.true_eq_false, pCX9_next, pSX9_next, pOX9_next, pLX9_next, pCX9_refusesDay, pSX9_refusesDay, pOX9_refusesDay, pLX9_refusesDay, pCX9_refused, pSX9_refused, pOX9_refused, pLX9_refused, kl_I, kl_J, kl_R, kl_T, kl_N, Nat.le_refl, Nat.zero_le, List.map_nil, List.map_cons, List.sum_nil, List.sum_cons, c_I, c_J, c_R, c_T, va_rf, hI_wI, hJ_wJ, hR_wR, hI_J, hI_R, hJ_I, hJ_R, hR_I, hR_J, hN_I, hN_J, hN_R, wI_I, wJ_J, upd_at, updL_at, kR_s, Option.toList, List.append_nil, List.nil_append, List.cons_append, if_true, if_false, reduceIte, Bool.false_eq_true, not_true_eq_false, not_false_eq_true, true_and, and_true, false_and, and_false, true_or, or_true,  Nat.reduceEqDiff, Nat.reduceAdd, Nat.reduceLeDiff], kp_refl⟩
    · rw [if_neg c2]
      refine ms_of (v := 0) I (by decide) E ?_
      generalize th h = g at k v ⊢
      have F := k.1
      have rd := c_refusesDay (d := d + 8) (h := g) (b := true) (v := y) (lo := 0)
      rw [bI_t] at rd
      obtain ⟨i, hi, rfl⟩ := dy c2
      rw [nI_cl (by omega)]
      obtain ⟨h1, e1, x1, u1, a1⟩ := c_finds (d := d + 6) k v
      have k1 := mK_sx k x1 (by decide)
      have bb := c_nextOn (d := d + 8) (y := i) k1.1 k1.2.1 k1.2.2.1 a1 t5 (by omega) u1.2.2.2.1
      exact ⟨h1, fun Q => by simp (implicitDefEqProofs := false) only [rX9_next_5, rX9_next_5b, rX9_next_6, rX9_next_6b, rX9_next_7, rX9_next_10, rX9_next_10b, rX9_next_13, rX9_next_14, rX9_next_17, rX9_next_18, rX9_next_19, rX9_next_20, rX9_next_23, rX9_next_24, rX9_next_25, rX9_next_28, rX9_next_28b, rX9_next_29, rX9_next_30, rX9_next_33, rX9_next_34, rX9_next_34b, rX9_next_35, rX9_next_38, rX9_next_38b, rX9_next_39, rX9_next_39b, rX9_next_40, rX9_next_41, rX9_next_44, rX9_next_47, kA_44, kB_44, kA_46, kB_46, fin_44_5 F, fin_44_15 F, fin_44_16 F, fin_44_17 F, fin_44_18 F, fin_44_21 F, fin_44_23 F, fin_44_24 F, fin_44_25 F, fin_44_29 F, fin_44_33 F, k.2.1, rd, c2, Bool.true_eq_false, show (0 : Int32) ≤ 0 from by decide, e1, bb, c_mgood, show nI 0 = 0 from rfl, pCX9_next, pSX9_next, pOX9_next, pLX9_next, pCX9_refusesDay, pSX9_refusesDay, pOX9_refusesDay, pLX9_refusesDay, pCX9_finds, pSX9_finds, pOX9_finds, pLX9_finds, pCX9_nextOn, pSX9_nextOn, pOX9_nextOn, pLX9_nextOn, pCX9_good, pSX9_good, pOX9_good, pLX9_good, kl_I, kl_J, kl_R, kl_T, kl_N, Nat.le_refl, Nat.zero_le, List.map_nil, List.map_cons, List.sum_nil, List.sum_cons, c_I, c_J, c_R, c_T, va_rf, hI_wI, hJ_wJ, hR_wR, hI_J, hI_R, hJ_I, hJ_R, hR_I, hR_J, hN_I, hN_J, hN_R, wI_I, wJ_J, upd_at, updL_at, kR_s, Option.toList, List.append_nil, List.nil_append, List.cons_append, if_true, if_false, reduceIte, Bool.false_eq_true, not_true_eq_false, not_false_eq_true, true_and, and_true, false_and, and_false, true_or, or_true,  Nat.reduceEqDiff, Nat.reduceAdd, Nat.reduceLeDiff]; rfl, kp_sx x1 (by decide)⟩
theorem m_agrees {d : Nat} {h : qH} {S : AS} {y : Int32} (I : MI h S) : ms 0 (d + 10) mX9_agrees [.ref (44 : Nat), .int y] h (trS S (sAgrees S y).1) (some (.int (sAgrees S y).2)) := by
  rw [sAgrees]
  have E : ∀ Q, WM (d + 10) mX9_agrees [.ref (44 : Nat), .int y] h Q = WP (d + 10) mX9_agrees (0, 0) 5 [some (.ref (44 : Nat)), some (.int y), none] [] (th h) Q := fun Q => by simp (implicitDefEqProofs := false) only [eX9_agrees, rX9_agrees_0, rX9_agrees_0b, rX9_agrees_1, rX9_agrees_2, kA_44, kB_44, pCX9_agrees, pSX9_agrees, pOX9_agrees, pLX9_agrees, th, kl_I, kl_J, kl_R, kl_T, kl_N, Nat.le_refl, Nat.zero_le, List.map_nil, List.map_cons, List.sum_nil, List.sum_cons, c_I, c_J, c_R, c_T, va_rf, hI_wI, hJ_wJ, hR_wR, hI_J, hI_R, hJ_I, hJ_R, hR_I, hR_J, hN_I, hN_J, hN_R, wI_I, wJ_J, upd_at, updL_at, kR_s, Option.toList, List.append_nil, List.nil_append, List.cons_append, if_true, if_false, reduceIte, Bool.false_eq_true, not_true_eq_false, not_false_eq_true, true_and, and_true, false_and, and_false, true_or, or_true,  Nat.reduceEqDiff, Nat.reduceAdd, Nat.reduceLeDiff]
  by_cases c1 : aN (sA S) = 0
  · rw [if_pos c1]
    refine ms_of (v := 1) I (by decide) E ?_
    obtain ⟨F, r⟩ := MI_n (MI_th I) c1
    generalize th h = g at F r ⊢
    have rd := c_refusesDay (d := d + 8) (h := g) (b := false) (v := y) (lo := 0)
    rw [bI_f] at rd
    exact ⟨g, fun Q => by simp (implicitDefEqProofs := false) only [rX9_agrees_5, rX9_agrees_5b, rX9_agrees_6, rX9_agrees_6b, rX9_agrees_7, rX9_agrees_10, rX9_agrees_10b, rX9_agrees_13, rX9_agrees_14, rX9_agrees_17, rX9_agrees_18, rX9_agrees_19, rX9_agrees_19b, rX9_agrees_20, rX9_agrees_23, rX9_agrees_23b, rX9_agrees_26, rX9_agrees_27, rX9_agrees_30, rX9_agrees_30b, rX9_agrees_31, rX9_agrees_34, rX9_agrees_36, rX9_agrees_37, rX9_agrees_40, rX9_agrees_41, rX9_agrees_42, rX9_agrees_45, rX9_agrees_45b, rX9_agrees_46, rX9_agrees_47, rX9_agrees_50, kA_44, kB_44, r, rd, c_mrefused, show nI 1 = 1 from rfl, show ¬ (1 : Int32) ≤ 0 from by decide, pCX9_agrees, pSX9_agrees, pOX9_agrees, pLX9_agrees, pCX9_refusesDay, pSX9_refusesDay, pOX9_refusesDay, pLX9_refusesDay, pCX9_refused, pSX9_refused, pOX9_refused, pLX9_refused, kl_I, kl_J, kl_R, kl_T, kl_N, Nat.le_refl, Nat.zero_le, List.map_nil, List.map_cons, List.sum_nil, List.sum_cons, c_I, c_J, c_R, c_T, va_rf, hI_wI, hJ_wJ, hR_wR, hI_J, hI_R, hJ_I, hJ_R, hR_I, hR_J, hN_I, hN_J, hN_R, wI_I, wJ_J, upd_at, updL_at, kR_s, Option.toList, List.append_nil, List.nil_append, List.cons_append, if_true, if_false, reduceIte, Bool.false_eq_true, not_true_eq_false, not_false_eq_true, true_and, and_true, false_and, and_false, true_or, or_true,  Nat.reduceEqDiff, Nat.reduceAdd, Nat.reduceLeDiff], kp_refl⟩
  · rw [if_neg c1]
    have I1 := MI_th I
    obtain ⟨s, k, v, t1, t2, t3, t4, t5, ww⟩ := MI_y I1 c1
    by_cases c2 : y < nI (sX S).2.2 ∨ 90 < y
    · rw [if_pos c2]
      refine ms_of (v := 2) I (by decide) E ?_
      generalize th h = g at k v ⊢
      have F := k.1
      have rd := c_refusesDay (d := d + 8) (h := g) (b := true) (v := y) (lo := nI (sX S).2.2)
      rw [bI_t] at rd
      exact ⟨g, fun Q => by simp (implicitDefEqProofs := false) only [rX9_agrees_5, rX9_agrees_5b, rX9_agrees_6, rX9_agrees_6b, rX9_agrees_7, rX9_agrees_10, rX9_agrees_10b, rX9_agrees_13, rX9_agrees_14, rX9_agrees_17, rX9_agrees_18, rX9_agrees_19, rX9_agrees_19b, rX9_agrees_20, rX9_agrees_23, rX9_agrees_23b, rX9_agrees_26, rX9_agrees_27, rX9_agrees_30, rX9_agrees_30b, rX9_agrees_31, rX9_agrees_34, rX9_agrees_36, rX9_agrees_37, rX9_agrees_40, rX9_agrees_41, rX9_agrees_42, rX9_agrees_45, rX9_agrees_45b, rX9_agrees_46, rX9_agrees_47, rX9_agrees_50, kA_44, kB_44, kA_46, kB_46, fin_44_5 F, fin_44_15 F, fin_44_16 F, fin_44_17 F, fin_44_18 F, fin_44_21 F, fin_44_23 F, fin_44_24 F, fin_44_25 F, fin_44_29 F, fin_44_33 F, k.2.1, v.2.2.2.2, show vp_in 9 10 from nI_vp (i := 9) (by omega) (by decide), show (9 : Int32).toNatClampNeg = 9 from rfl, rd, c2, c_mrefused, show nI 2 = 2 from rfl, show ¬ (2 : Int32) ≤ 0 from by decide, Bool.true_eq_false, pCX9_agrees, pSX9_agrees, pOX9_agrees, pLX9_agrees, pCX9_refusesDay, pSX9_refusesDay, pOX9_refusesDay, pLX9_refusesDay, pCX9_refused, pSX9_refused, pOX9_refused, pLX9_refused, kl_I, kl_J, kl_R, kl_T, kl_N, Nat.le_refl, Nat.zero_le, List.map_nil, List.map_cons, List.sum_nil, List.sum_cons, c_I, c_J, c_R, c_T, va_rf, hI_wI, hJ_wJ, hR_wR, hI_J, hI_R, hJ_I, hJ_R, hR_I, hR_J, hN_I, hN_J, hN_R, wI_I, wJ_J, upd_at, updL_at, kR_s, Option.toList, List.append_nil, List.nil_append, List.cons_append, if_true, if_false, reduceIte, Bool.false_eq_true, not_true_eq_false, not_false_eq_true, true_and, and_true, false_and, and_false, true_or, or_true,  Nat.reduceEqDiff, Nat.reduceAdd, Nat.reduceLeDiff], kp_refl⟩
    · rw [if_neg c2]
      refine ms_of (v := 0) I (by decide) E ?_
      generalize th h = g at k v ⊢
      have F := k.1
      have rd := c_refusesDay (d := d + 8) (h := g) (b := true) (v := y) (lo := nI (sX S).2.2)
      rw [bI_t] at rd
      obtain ⟨i, hi0, hi, rfl⟩ := dy2 t3 c2
      rw [nI_cl (by omega)]
      obtain ⟨h1, e1, x1, u1, a1⟩ := c_finds (d := d + 6) k v
      have k1 := mK_sx k x1 (by decide)
      obtain ⟨h2, e2, x2, u2, a2⟩ := c_magreeing (d := d + 5) (y := i) k1 u1 a1 t1 t5 (by omega)
      exact ⟨h2, fun Q => by simp (implicitDefEqProofs := false) only [rX9_agrees_5, rX9_agrees_5b, rX9_agrees_6, rX9_agrees_6b, rX9_agrees_7, rX9_agrees_10, rX9_agrees_10b, rX9_agrees_13, rX9_agrees_14, rX9_agrees_17, rX9_agrees_18, rX9_agrees_19, rX9_agrees_19b, rX9_agrees_20, rX9_agrees_23, rX9_agrees_23b, rX9_agrees_26, rX9_agrees_27, rX9_agrees_30, rX9_agrees_30b, rX9_agrees_31, rX9_agrees_34, rX9_agrees_36, rX9_agrees_37, rX9_agrees_40, rX9_agrees_41, rX9_agrees_42, rX9_agrees_45, rX9_agrees_45b, rX9_agrees_46, rX9_agrees_47, rX9_agrees_50, rX9_agrees_51, rX9_agrees_51b, rX9_agrees_52, rX9_agrees_55, rX9_agrees_55b, rX9_agrees_56, rX9_agrees_56b, rX9_agrees_57, rX9_agrees_58, rX9_agrees_61, rX9_agrees_64, kA_44, kB_44, kA_46, kB_46, fin_44_5 F, fin_44_15 F, fin_44_16 F, fin_44_17 F, fin_44_18 F, fin_44_21 F, fin_44_23 F, fin_44_24 F, fin_44_25 F, fin_44_29 F, fin_44_33 F, k.2.1, v.2.2.2.2, show vp_in 9 10 from nI_vp (i := 9) (by omega) (by decide), show (9 : Int32).toNatClampNeg = 9 from rfl, rd, c2, Bool.true_eq_false, show (0 : Int32) ≤ 0 from by decide, e1, e2, c_mgood, show nI 0 = 0 from rfl, pCX9_agrees, pSX9_agrees, pOX9_agrees, pLX9_agrees, pCX9_refusesDay, pSX9_refusesDay, pOX9_refusesDay, pLX9_refusesDay, pCX9_finds, pSX9_finds, pOX9_finds, pLX9_finds, pCX9_agreeing, pSX9_agreeing, pOX9_agreeing, pLX9_agreeing, pCX9_good, pSX9_good, pOX9_good, pLX9_good, kl_I, kl_J, kl_R, kl_T, kl_N, Nat.le_refl, Nat.zero_le, List.map_nil, List.map_cons, List.sum_nil, List.sum_cons, c_I, c_J, c_R, c_T, va_rf, hI_wI, hJ_wJ, hR_wR, hI_J, hI_R, hJ_I, hJ_R, hR_I, hR_J, hN_I, hN_J, hN_R, wI_I, wJ_J, upd_at, updL_at, kR_s, Option.toList, List.append_nil, List.nil_append, List.cons_append, if_true, if_false, reduceIte, Bool.false_eq_true, not_true_eq_false, not_false_eq_true, true_and, and_true, false_and, and_false, true_or, or_true,  Nat.reduceEqDiff, Nat.reduceAdd, Nat.reduceLeDiff], kp_tr (kp_sx x1 (by decide)) (kp_sx x2 (by decide))⟩
