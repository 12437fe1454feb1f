/-! ===== the model's acts ===== -/
def pP (h : qH) (a : aS) (ps : List sT) : Prop := hI h 44 19 = nI ps.length ∧ ps.length ≤ 16 ∧ ∀ i, i < ps.length → vF (fun k => hI h 48 (10 * i + k)) a (ps.getD (ps.length - 1 - i) (0, 0, 0))
def pI (h : qH) (a : aS) (im : List sT) : Prop := hI h 44 20 = nI im.length ∧ im.length ≤ 3 ∧ ∀ i, i < im.length → vF (fun k => hI h 49 (10 * i + k)) a (im.getD i (0, 0, 0))
theorem MI_pP {h : qH} {S : AS} (I : MI h S) : pP h (sA S) (sP S) := I.2.2.2.2.1
theorem MI_pI {h : qH} {S : AS} (I : MI h S) : pI h (sA S) (sM S) := I.2.2.2.2.2.1
theorem MI_F {h : qH} {S : AS} (I : MI h S) : Fin0 (hR h) := I.1
theorem pP_mv {h h' : qH} {a : aS} {ps : List sT} (p : pP h a ps) (e1 : hI h' 44 19 = hI h 44 19) (e2 : hI h' 48 = hI h 48) : pP h' a ps := by
  unfold pP
  rw [e1, e2]
  exact p
theorem pI_mv {h h' : qH} {a : aS} {ps : List sT} (p : pI h a ps) (e1 : hI h' 44 20 = hI h 44 20) (e2 : hI h' 49 = hI h 49) : pI h' a ps := by
  unfold pI
  rw [e1, e2]
  exact p
def kqL : List Nat := [44, 46, 47, 48, 49, 50, 51, 52, 53, 54, 55]
def kq (h h' : qH) : Prop := hR h' = hR h ∧ hN h' = hN h ∧ (∀ b, b ∉ kqL → hI h' b = hI h b ∧ hJ h' b = hJ h b) ∧ ∀ j, j ∈ [6, 12, 22] → hI h' 44 j = hI h 44 j
theorem kq_refl {h : qH} : kq h h := ⟨rfl, rfl, fun _ _ => ⟨rfl, rfl⟩, fun _ _ => rfl⟩
theorem kq_tr {h h1 h2 : qH} (a : kq h h1) (b : kq h1 h2) : kq h h2 := ⟨b.1.trans a.1, b.2.1.trans a.2.1, fun c hc => ⟨(b.2.2.1 c hc).1.trans (a.2.2.1 c hc).1, (b.2.2.1 c hc).2.trans (a.2.2.1 c hc).2⟩, fun j hj => (b.2.2.2 j hj).trans (a.2.2.2 j hj)⟩
theorem kq_kp {h h' : qH} (k : kp h h') : kq h h' := ⟨k.1, k.2.1, fun b hb => k.2.2.1 b (fun q => hb (by simp [kqL] at q ⊢; omega)), fun j hj => k.2.2.2 j (by simp at hj ⊢; omega)⟩
theorem kq_w {h h1 : qH} {b : Nat} {f : Nat → Int32} (a : kq h h1) (hb : b ∈ kqL) (h4 : b ≠ 44) : kq h (wI h1 b f) := by
  refine kq_tr a ⟨rfl, rfl, fun c hc => ⟨?_, rfl⟩, fun j _ => ?_⟩
  · rw [hI_wI, if_neg (fun q => hc (by rw [q]; exact hb))]
  · rw [hI_wI, if_neg (fun q => h4 q.symm)]
theorem kq_44 {h h1 : qH} {k : Nat} {v : Int32} (a : kq h h1) (hk : k ∉ [6, 12, 22]) : kq h (wI h1 44 (upd (hI h1 44) k v)) := by
  refine kq_tr a ⟨rfl, rfl, fun b hb => ⟨?_, rfl⟩, fun j hj => ?_⟩
  · rw [hI_wI, if_neg (fun q => hb (by rw [q]; simp [kqL]))]
  · rw [hI_wI, if_pos rfl, upd_at, if_neg (fun q => hk (by rw [← q]; exact hj))]
theorem kq_tm {h h1 : qH} {v : Int32} (a : kq h h1) : kq h (tm h1 v) := kq_tr a (kq_kp (kp_tm kp_refl))
theorem kq_mf {h h' : qH} (k : kq h h') : mf 0 h h' := ⟨k.2.1, fun b hb => ⟨(k.2.2.1 b (by simp [kqL]; unfold SCR at hb; omega)).1, (k.2.2.1 b (by simp [kqL]; unfold SCR at hb; omega)).2, by rw [k.1]⟩⟩
theorem mSt_kq {h h' : qH} {s : Nat} {a : aS} (w : mSt h s a) (k : kq h h') : mSt h' s a := by
  obtain ⟨j, e, -⟩ := w.1
  exact mSt_mv w (by rw [k.1]) (fun i _ => (k.2.2.1 _ (by simp [kqL]; omega)).1)
theorem mK_kq {h h' : qH} {s : Nat} {a : aS} (w : mK h s a) (k : kq h h') : mK h' s a := ⟨by rw [k.1]; exact w.1, by rw [k.1]; exact w.2.1, mSt_kq w.2.2.1 k, by rw [k.2.2.2 22 (by simp)]; exact w.2.2.2⟩
theorem tm_at {h : qH} {v : Int32} {b j : Nat} (hb : ¬ (b = 44 ∧ (j = 1 ∨ j = 2))) : hI (tm h v) b j = hI h b j := by
  unfold tm
  rw [hI_wI]
  split
  · rename_i q
    rw [q, upd_at, if_neg (by omega), upd_at, if_neg (by omega)]
  · rfl
theorem tm_b {h : qH} {v : Int32} {b : Nat} (hb : b ≠ 44) : hI (tm h v) b = hI h b := by
  unfold tm
  rw [hI_wI, if_neg hb]
theorem MI_st {h h1 : qH} {S : AS} {v : Nat} {x : sT} {ps im : List sT} (I : MI h S) (c : ¬ aN (sA S) = 0) (k : kq h h1) (hv : v ≠ 4) (b1 : sB x ∧ tB (sA S) x) (b2 : ∀ p ∈ ps, sB p ∧ tB (sA S) p) (b3 : ∀ p ∈ im, sB p ∧ tB (sA S) p) (vv : vF (hI h1 46) (sA S) x) (pa : pP h1 (sA S) ps) (pi : pI h1 (sA S) im) : MI (tm h1 (nI v)) (stS S x ps im v) := by
  obtain ⟨F, bd, st, -, -, -, e22, tp, en⟩ := I
  have k2 : kq h (tm h1 (nI v)) := kq_tm k
  refine ⟨by rw [k2.1]; exact F, ⟨bd.1, b1, b2, b3⟩, ?_, by rw [tm_b (by decide)]; exact vv, pP_mv pa (tm_at (by omega)) (tm_b (by decide)), pI_mv pi (tm_at (by omega)) (tm_b (by decide)), by rw [k2.2.2.2 22 (by decide)]; exact e22, ⟨tp.1, by rw [k2.2.2.2 6 (by decide)]; exact tp.2.1, by rw [(k2.2.2.1 45 (by decide)).1]; exact tp.2.2⟩, by rw [k2.2.2.2 12 (by decide)]; exact en.1, ?_, ?_⟩
  · rcases st with ⟨n1, n2, n3⟩ | ⟨n1, s, n2, n3, n4⟩
    · exact absurd n1 c
    · exact .inr ⟨n1, s, by rw [k2.1]; exact n2, mSt_kq n3 k2, by rw [k2.2.1]; exact n4⟩
  · unfold tm; rw [hI_wI, if_pos rfl, upd_at, if_neg (by decide), upd_at, if_pos rfl]; rfl
  · unfold tm
    rw [hI_wI, if_pos rfl, upd_at, if_pos rfl]
    exact (if_neg hv).symm
theorem ms_st {d : Nat} {M : qM} {As : List Value} {h : qH} {S : AS} {v : Nat} {r : Option Value} {ls : qL} {x : sT} {ps im : List sT} (I : MI h S) (c : ¬ aN (sA S) = 0) (hv : v ≠ 4) (b1 : sB x ∧ tB (sA S) x) (b2 : ∀ p ∈ ps, sB p ∧ tB (sA S) p) (b3 : ∀ p ∈ im, sB p ∧ tB (sA S) p) (E : ∀ Q, WM d M As h Q = WP d M (0, 0) 5 ls [] (th h) Q) (p : ∃ h1, (∀ Q, WP d M (0, 0) 5 ls [] (th h) Q = Q (some r) (tm h1 (nI v))) ∧ kq (th h) h1 ∧ vF (hI h1 46) (sA S) x ∧ pP h1 (sA S) ps ∧ pI h1 (sA S) im) : ms 0 d M As h (stS S x ps im v) r := by
  obtain ⟨h1, e, k, vv, pp, pi⟩ := p
  exact ⟨_, fun Q => (E Q).trans (e Q), kq_mf (kq_tr (kq_kp kp_th) (kq_tm k)), MI_st I c (kq_tr (kq_kp kp_th) k) hv b1 b2 b3 vv pp pi⟩
theorem take_mB {a : aS} {x : sT} {ps : List sT} (h1 : sB x ∧ tB a x) (h2 : ∀ p ∈ ps, sB p ∧ tB a p) : ∀ p ∈ (x :: ps).take 16, sB p ∧ tB a p := by
  intro p hp
  have := List.mem_of_mem_take hp
  rcases List.mem_cons.mp this with q | q
  · rw [q]; exact h1
  · exact h2 p q
/-- ten put at a place -/
def pt (A i : Nat) (V f : Nat → Int32) : Nat → Int32 := fun j => if A ≤ j ∧ j < A + i then V (j - A) else f j
theorem pt_0 {A : Nat} {V f : Nat → Int32} : pt A 0 V f = f := by
  funext j
  unfold pt
  rw [if_neg (by omega)]
theorem pt_s {A i : Nat} {V f : Nat → Int32} : upd (pt A i V f) (A + i) (V i) = pt A (i + 1) V f := by
  funext j
  rw [upd_at]
  unfold pt
  by_cases c : j = A + i
  · rw [if_pos c, if_pos (by omega), c, show A + i - A = i by omega]
  · rw [if_neg c]
    by_cases c2 : A ≤ j ∧ j < A + i
    · rw [if_pos c2, if_pos (by omega)]
    · rw [if_neg c2, if_neg (by omega)]
theorem vF_10 {f g : Nat → Int32} {a : aS} {x : sT} (h6 : aN a ≤ 6) (v : vF f a x) (e : ∀ k, k < 10 → g k = f k) : vF g a x := by
  obtain ⟨v1, v2, v3, v4, v5⟩ := v
  exact ⟨fun j hj => by rw [e j (by omega)]; exact v1 j hj, by rw [e 6 (by omega)]; exact v2, by rw [e 7 (by omega)]; exact v3, by rw [e 8 (by omega)]; exact v4, by rw [e 9 (by omega)]; exact v5⟩
theorem l_rem1 {d : Nat} {h : qH} (F : Fin0 (hR h)) {Q : Option (Option Value) → qH → Prop} : ∀ (k i : Nat), i + k = 150 → WP d mX9_remembers (0, 0) 11 [some (.ref (44 : Nat)), some (.int (nI i))] [] (wI h 48 (fil i (fun j => hI h 48 (j + 10)) (hI h 48))) Q = WP d mX9_remembers (0, 0) 39 [some (.ref (44 : Nat)), some (.int 150)] [] (wI h 48 (fil 150 (fun j => hI h 48 (j + 10)) (hI h 48))) Q := by
  intro k
  induction k with
  | zero =>
    intro i hi
    obtain rfl : i = 150 := by omega
    simp (implicitDefEqProofs := false) only [rX9_remembers_11, rX9_remembers_12, rX9_remembers_15, rX9_remembers_18, rX9_remembers_18b, rX9_remembers_19, rX9_remembers_22, rX9_remembers_23, rX9_remembers_23b, rX9_remembers_24, rX9_remembers_27, rX9_remembers_28, rX9_remembers_30, rX9_remembers_31, rX9_remembers_32, pCX9_remembers, pSX9_remembers, pOX9_remembers, pLX9_remembers, show nI 150 = 150 from rfl, Int32.le_refl, kl_I, kl_J, kl_R, kl_T, kl_N, Nat.le_refl, Nat.zero_le, List.map_nil, List.map_cons, List.sum_nil, List.sum_cons, c_I, c_J, c_R, c_T, va_rf, hI_wI, hJ_wJ, hR_wR, hI_J, hI_R, hJ_I, hJ_R, hR_I, hR_J, hN_I, hN_J, hN_R, wI_I, wJ_J, upd_at, updL_at, kR_s, Option.toList, List.append_nil, List.nil_append, List.cons_append, if_true, if_false, reduceIte, Bool.false_eq_true, not_true_eq_false, not_false_eq_true, true_and, and_true, false_and, and_false, true_or, or_true,  Nat.reduceEqDiff, Nat.reduceAdd, Nat.reduceLeDiff]
  | succ k ih =>
    intro i hi
    have v1 : vp_in (nI i) 160 := nI_vp (by omega) (by decide)
    have cl : (nI i).toNatClampNeg = i := nI_cl (by omega)
    have v2 : vp_in (nI (i + 10)) 160 := nI_vp (by omega) (by decide)
    have cl2 : (nI (i + 10)).toNatClampNeg = i + 10 := nI_cl (by omega)
    have ad : nI i + 10 = nI (i + 10) := by rw [show (10 : Int32) = nI 10 from rfl, nI_add]
    have fg : fil i (fun j => hI h 48 (j + 10)) (hI h 48) (i + 10) = hI h 48 (i + 10) := if_neg (by omega)
    have i1 := ih (i + 1) (by omega)
    rw [← fil_s] at i1
    simp (implicitDefEqProofs := false) only [rX9_remembers_11, rX9_remembers_12, rX9_remembers_15, rX9_remembers_18, rX9_remembers_18b, rX9_remembers_19, rX9_remembers_22, rX9_remembers_23, rX9_remembers_23b, rX9_remembers_24, rX9_remembers_27, rX9_remembers_28, rX9_remembers_30, rX9_remembers_31, rX9_remembers_32, kA_44, kB_44, kA_48, kB_48, fin_44_5 F, fin_44_15 F, fin_44_16 F, fin_44_17 F, fin_44_18 F, fin_44_21 F, fin_44_23 F, fin_44_24 F, fin_44_25 F, fin_44_29 F, fin_44_33 F, nge (x := i) (k := 150) (c := 150) rfl (by omega) (by omega), show ¬ 150 ≤ i from by omega, v1, v2, cl, cl2, ad, fg, pCX9_remembers, pSX9_remembers, pOX9_remembers, pLX9_remembers, kl_I, kl_J, kl_R, kl_T, kl_N, Nat.le_refl, Nat.zero_le, List.map_nil, List.map_cons, List.sum_nil, List.sum_cons, c_I, c_J, c_R, c_T, va_rf, hI_wI, hJ_wJ, hR_wR, hI_J, hI_R, hJ_I, hJ_R, hR_I, hR_J, hN_I, hN_J, hN_R, wI_I, wJ_J, upd_at, updL_at, kR_s, Option.toList, List.append_nil, List.nil_append, List.cons_append, if_true, if_false, reduceIte, Bool.false_eq_true, not_true_eq_false, not_false_eq_true, true_and, and_true, false_and, and_false, true_or, or_true,  Nat.reduceEqDiff, Nat.reduceAdd, Nat.reduceLeDiff]
    rw [rX9_remembers_33, nI_1]
    simp (implicitDefEqProofs := false) only [rX9_remembers_36, kl_I, kl_J, kl_R, kl_T, kl_N, Nat.le_refl, Nat.zero_le, List.map_nil, List.map_cons, List.sum_nil, List.sum_cons, c_I, c_J, c_R, c_T, va_rf, hI_wI, hJ_wJ, hR_wR, hI_J, hI_R, hJ_I, hJ_R, hR_I, hR_J, hN_I, hN_J, hN_R, wI_I, wJ_J, upd_at, updL_at, kR_s, Option.toList, List.append_nil, List.nil_append, List.cons_append, if_true, if_false, reduceIte, Bool.false_eq_true, not_true_eq_false, not_false_eq_true, true_and, and_true, false_and, and_false, true_or, or_true,  Nat.reduceEqDiff, Nat.reduceAdd, Nat.reduceLeDiff]
    exact i1
theorem l_rem2 {d : Nat} {h : qH} {n : Nat} (F : Fin0 (hR h)) (e19 : hI h 44 19 = nI n) (hn : n ≤ 15) {Q : Option (Option Value) → qH → Prop} : ∀ (k i : Nat), i + k = 10 → WP d mX9_remembers (0, 0) 51 [some (.ref (44 : Nat)), some (.int (nI i))] [] (wI h 48 (pt (10 * n) i (hI h 46) (hI h 48))) Q = WP d mX9_remembers (0, 0) 83 [some (.ref (44 : Nat)), some (.int 10)] [] (wI h 48 (pt (10 * n) 10 (hI h 46) (hI h 48))) Q := by
  intro k
  induction k with
  | zero =>
    intro i hi
    obtain rfl : i = 10 := by omega
    simp (implicitDefEqProofs := false) only [rX9_remembers_51, rX9_remembers_52, rX9_remembers_54, rX9_remembers_57, rX9_remembers_57b, rX9_remembers_58, rX9_remembers_61, rX9_remembers_63, rX9_remembers_63b, rX9_remembers_64, rX9_remembers_67, rX9_remembers_68, rX9_remembers_69, rX9_remembers_70, rX9_remembers_70b, rX9_remembers_71, rX9_remembers_74, rX9_remembers_75, rX9_remembers_76, pCX9_remembers, pSX9_remembers, pOX9_remembers, pLX9_remembers, show nI 10 = 10 from rfl, Int32.le_refl, kl_I, kl_J, kl_R, kl_T, kl_N, Nat.le_refl, Nat.zero_le, List.map_nil, List.map_cons, List.sum_nil, List.sum_cons, c_I, c_J, c_R, c_T, va_rf, hI_wI, hJ_wJ, hR_wR, hI_J, hI_R, hJ_I, hJ_R, hR_I, hR_J, hN_I, hN_J, hN_R, wI_I, wJ_J, upd_at, updL_at, kR_s, Option.toList, List.append_nil, List.nil_append, List.cons_append, if_true, if_false, reduceIte, Bool.false_eq_true, not_true_eq_false, not_false_eq_true, true_and, and_true, false_and, and_false, true_or, or_true,  Nat.reduceEqDiff, Nat.reduceAdd, Nat.reduceLeDiff]
  | succ k ih =>
    intro i hi
    have v1 : vp_in (nI i) 10 := nI_vp (by omega) (by decide)
    have cl : (nI i).toNatClampNeg = i := nI_cl (by omega)
    have v2 : vp_in (nI (10 * n + i)) 160 := nI_vp (by omega) (by decide)
    have cl2 : (nI (10 * n + i)).toNatClampNeg = 10 * n + i := nI_cl (by omega)
    have ad : 10 * nI n = nI (10 * n) := by rw [show (10 : Int32) = nI 10 from rfl, nI_mul]
    have i1 := ih (i + 1) (by omega)
    rw [← pt_s] at i1
    simp (implicitDefEqProofs := false) only [rX9_remembers_51, rX9_remembers_52, rX9_remembers_54, rX9_remembers_57, rX9_remembers_57b, rX9_remembers_58, rX9_remembers_61, rX9_remembers_63, rX9_remembers_63b, rX9_remembers_64, rX9_remembers_67, rX9_remembers_68, rX9_remembers_69, rX9_remembers_70, rX9_remembers_70b, rX9_remembers_71, rX9_remembers_74, rX9_remembers_75, rX9_remembers_76, kA_44, kB_44, kA_46, kB_46, kA_48, kB_48, fin_44_5 F, fin_44_15 F, fin_44_16 F, fin_44_17 F, fin_44_18 F, fin_44_21 F, fin_44_23 F, fin_44_24 F, fin_44_25 F, fin_44_29 F, fin_44_33 F, nge (x := i) (k := 10) (c := 10) rfl (by omega) (by omega), show ¬ 10 ≤ i from by omega, e19, v1, v2, cl, cl2, ad, nI_add, pCX9_remembers, pSX9_remembers, pOX9_remembers, pLX9_remembers, kl_I, kl_J, kl_R, kl_T, kl_N, Nat.le_refl, Nat.zero_le, List.map_nil, List.map_cons, List.sum_nil, List.sum_cons, c_I, c_J, c_R, c_T, va_rf, hI_wI, hJ_wJ, hR_wR, hI_J, hI_R, hJ_I, hJ_R, hR_I, hR_J, hN_I, hN_J, hN_R, wI_I, wJ_J, upd_at, updL_at, kR_s, Option.toList, List.append_nil, List.nil_append, List.cons_append, if_true, if_false, reduceIte, Bool.false_eq_true, not_true_eq_false, not_false_eq_true, true_and, and_true, false_and, and_false, true_or, or_true,  Nat.reduceEqDiff, Nat.reduceAdd, Nat.reduceLeDiff]
    rw [rX9_remembers_77, nI_1]
    simp (implicitDefEqProofs := false) only [rX9_remembers_80, kl_I, kl_J, kl_R, kl_T, kl_N, Nat.le_refl, Nat.zero_le, List.map_nil, List.map_cons, List.sum_nil, List.sum_cons, c_I, c_J, c_R, c_T, va_rf, hI_wI, hJ_wJ, hR_wR, hI_J, hI_R, hJ_I, hJ_R, hR_I, hR_J, hN_I, hN_J, hN_R, wI_I, wJ_J, upd_at, updL_at, kR_s, Option.toList, List.append_nil, List.nil_append, List.cons_append, if_true, if_false, reduceIte, Bool.false_eq_true, not_true_eq_false, not_false_eq_true, true_and, and_true, false_and, and_false, true_or, or_true,  Nat.reduceEqDiff, Nat.reduceAdd, Nat.reduceLeDiff]
    exact i1
theorem c_rem {d : Nat} {h : qH} {n : Nat} {a : aS} {x : sT} {ps : List sT} (F : Fin0 (hR h)) (h6 : aN a ≤ 6) (v : vF (hI h 46) a x) (e19 : hI h 44 19 = nI n) (hn : n ≤ 15) (hl : ((x :: ps).take 16).length = n + 1) (ol : ∀ i, i < n → vF (fun k => hI h 48 (10 * i + k)) a (ps.getD (n - 1 - i) (0, 0, 0))) : ∃ h', (∀ Q, WP d mX9_remembers (0, 0) 49 [some (.ref (44 : Nat)), none] [] h Q = Q (some none) h' ∧ WP d mX9_remembers (0, 0) 49 [some (.ref (44 : Nat)), some (.int 150)] [] h Q = Q (some none) h') ∧ kq h h' ∧ hI h' 46 = hI h 46 ∧ hI h' 47 = hI h 47 ∧ hI h' 50 = hI h 50 ∧ hI h' 49 = hI h 49 ∧ hI h' 44 20 = hI h 44 20 ∧ pP h' a ((x :: ps).take 16) := by
  refine ⟨wI (wI h 48 (pt (10 * n) 10 (hI h 46) (hI h 48))) 44 (upd (hI h 44) 19 (nI (n + 1))), fun Q => ?_, ?_, ?_, ?_, ?_, ?_, ?_, ?_, ?_, ?_⟩
  · have l := l_rem2 (d := d) (Q := Q) F e19 hn 10 0 (by omega)
    rw [pt_0, wI_same] at l
    constructor
    · simp (implicitDefEqProofs := false) only [rX9_remembers_49, rX9_remembers_50, show (0 : Int32) = nI 0 from rfl, kl_I, kl_J, kl_R, kl_T, kl_N, Nat.le_refl, Nat.zero_le, List.map_nil, List.map_cons, List.sum_nil, List.sum_cons, c_I, c_J, c_R, c_T, va_rf, hI_wI, hJ_wJ, hR_wR, hI_J, hI_R, hJ_I, hJ_R, hR_I, hR_J, hN_I, hN_J, hN_R, wI_I, wJ_J, upd_at, updL_at, kR_s, Option.toList, List.append_nil, List.nil_append, List.cons_append, if_true, if_false, reduceIte, Bool.false_eq_true, not_true_eq_false, not_false_eq_true, true_and, and_true, false_and, and_false, true_or, or_true,  Nat.reduceEqDiff, Nat.reduceAdd, Nat.reduceLeDiff]
      rw [l]
      simp (implicitDefEqProofs := false) only [rX9_remembers_83, rX9_remembers_83b, rX9_remembers_84, rX9_remembers_84b, rX9_remembers_85, rX9_remembers_88, rX9_remembers_89, rX9_remembers_90, rX9_remembers_93, kA_44, kB_44, e19, nI_1, pCX9_remembers, pSX9_remembers, pOX9_remembers, pLX9_remembers, kl_I, kl_J, kl_R, kl_T, kl_N, Nat.le_refl, Nat.zero_le, List.map_nil, List.map_cons, List.sum_nil, List.sum_cons, c_I, c_J, c_R, c_T, va_rf, hI_wI, hJ_wJ, hR_wR, hI_J, hI_R, hJ_I, hJ_R, hR_I, hR_J, hN_I, hN_J, hN_R, wI_I, wJ_J, upd_at, updL_at, kR_s, Option.toList, List.append_nil, List.nil_append, List.cons_append, if_true, if_false, reduceIte, Bool.false_eq_true, not_true_eq_false, not_false_eq_true, true_and, and_true, false_and, and_false, true_or, or_true,  Nat.reduceEqDiff, Nat.reduceAdd, Nat.reduceLeDiff]
    · simp (implicitDefEqProofs := false) only [rX9_remembers_49, rX9_remembers_50, show (0 : Int32) = nI 0 from rfl, kl_I, kl_J, kl_R, kl_T, kl_N, Nat.le_refl, Nat.zero_le, List.map_nil, List.map_cons, List.sum_nil, List.sum_cons, c_I, c_J, c_R, c_T, va_rf, hI_wI, hJ_wJ, hR_wR, hI_J, hI_R, hJ_I, hJ_R, hR_I, hR_J, hN_I, hN_J, hN_R, wI_I, wJ_J, upd_at, updL_at, kR_s, Option.toList, List.append_nil, List.nil_append, List.cons_append, if_true, if_false, reduceIte, Bool.false_eq_true, not_true_eq_false, not_false_eq_true, true_and, and_true, false_and, and_false, true_or, or_true,  Nat.reduceEqDiff, Nat.reduceAdd, Nat.reduceLeDiff]
      rw [l]
      simp (implicitDefEqProofs := false) only [rX9_remembers_83, rX9_remembers_83b, rX9_remembers_84, rX9_remembers_84b, rX9_remembers_85, rX9_remembers_88, rX9_remembers_89, rX9_remembers_90, rX9_remembers_93, kA_44, kB_44, e19, nI_1, pCX9_remembers, pSX9_remembers, pOX9_remembers, pLX9_remembers, kl_I, kl_J, kl_R, kl_T, kl_N, Nat.le_refl, Nat.zero_le, List.map_nil, List.map_cons, List.sum_nil, List.sum_cons, c_I, c_J, c_R, c_T, va_rf, hI_wI, hJ_wJ, hR_wR, hI_J, hI_R, hJ_I, hJ_R, hR_I, hR_J, hN_I, hN_J, hN_R, wI_I, wJ_J, upd_at, updL_at, kR_s, Option.toList, List.append_nil, List.nil_append, List.cons_append, if_true, if_false, reduceIte, Bool.false_eq_true, not_true_eq_false, not_false_eq_true, true_and, and_true, false_and, and_false, true_or, or_true,  Nat.reduceEqDiff, Nat.reduceAdd, Nat.reduceLeDiff]
  · have := kq_44 (k := 19) (v := nI (n + 1)) (kq_w (b := 48) (f := pt (10 * n) 10 (hI h 46) (hI h 48)) (kq_refl (h := h)) (by decide) (by decide)) (by decide)
    rw [hI_wI, if_neg (by decide)] at this
    exact this
  · rw [hI_wI, if_neg (by decide), hI_wI, if_neg (by decide)]
  · rw [hI_wI, if_neg (by decide), hI_wI, if_neg (by decide)]
  · rw [hI_wI, if_neg (by decide), hI_wI, if_neg (by decide)]
  · rw [hI_wI, if_neg (by decide), hI_wI, if_neg (by decide)]
  · rw [hI_wI, if_pos rfl, upd_at, if_neg (by decide)]
  · rw [hI_wI, if_pos rfl, upd_at, if_pos rfl, hl]
  · rw [hl]; omega
  · rw [hl]
    intro i hi
    rw [hI_wI, if_neg (by decide), hI_wI, if_pos rfl]
    by_cases c : i = n
    · rw [c, show n + 1 - 1 - n = 0 by omega]
      rw [show ((x :: ps).take 16).getD 0 (0, 0, 0) = x from rfl]
      refine vF_10 h6 v (fun k hk => ?_)
      unfold pt
      rw [if_pos (by omega), show 10 * n + k - 10 * n = k by omega]
    · have e : ((x :: ps).take 16).getD (n + 1 - 1 - i) (0, 0, 0) = ps.getD (n - 1 - i) (0, 0, 0) := by
        rw [show n + 1 - 1 - i = (n - 1 - i) + 1 by omega]
        simp only [List.getD_eq_getElem?_getD, List.getElem?_take]
        rw [if_pos (by omega), List.getElem?_cons_succ]
      rw [e]
      refine vF_10 h6 (ol i (by omega)) (fun k hk => ?_)
      unfold pt
      rw [if_neg (by omega)]
theorem c_remembers {d : Nat} {h : qH} {a : aS} {x : sT} {ps : List sT} (F : Fin0 (hR h)) (h6 : aN a ≤ 6) (v : vF (hI h 46) a x) (p : pP h a ps) : ∃ h', (∀ Q, WM d mX9_remembers [.ref (44 : Nat)] h Q = Q (some none) h') ∧ kq h h' ∧ hI h' 46 = hI h 46 ∧ hI h' 47 = hI h 47 ∧ hI h' 50 = hI h 50 ∧ hI h' 49 = hI h 49 ∧ hI h' 44 20 = hI h 44 20 ∧ pP h' a ((x :: ps).take 16) := by
  obtain ⟨p1, p2, p3⟩ := p
  by_cases c : ps.length = 16
  · have F1 : Fin0 (hR (wI (wI h 48 (fil 150 (fun j => hI h 48 (j + 10)) (hI h 48))) 44 (upd (hI h 44) 19 (nI 15)))) := F
    obtain ⟨h', e, k, q1, q2, q3, q4, q5, q6⟩ := c_rem (d := d) (h := wI (wI h 48 (fil 150 (fun j => hI h 48 (j + 10)) (hI h 48))) 44 (upd (hI h 44) 19 (nI 15))) (n := 15) (a := a) (x := x) (ps := ps) F1 h6 (by rw [hI_wI, if_neg (by decide), hI_wI, if_neg (by decide)]; exact v) (by rw [hI_wI, if_pos rfl, upd_at, if_pos rfl]) (by omega) (by rw [List.length_take, List.length_cons, c]; rfl) (fun i hi => by
      rw [hI_wI, if_neg (by decide), hI_wI, if_pos rfl]
      have := p3 (i + 1) (by omega)
      rw [c, show 16 - 1 - (i + 1) = 15 - 1 - i by omega] at this
      refine vF_10 h6 this (fun k hk => ?_)
      simp only [fil]
      rw [if_pos (by omega), show 10 * i + k + 10 = 10 * (i + 1) + k by omega])
    have kk : kq h (wI (wI h 48 (fil 150 (fun j => hI h 48 (j + 10)) (hI h 48))) 44 (upd (hI h 44) 19 (nI 15))) := by
      have := kq_44 (k := 19) (v := nI 15) (kq_w (b := 48) (f := fil 150 (fun j => hI h 48 (j + 10)) (hI h 48)) (kq_refl (h := h)) (by decide) (by decide)) (by decide)
      rw [hI_wI, if_neg (by decide)] at this
      exact this
    refine ⟨h', fun Q => ?_, kq_tr kk k, ?_, ?_, ?_, ?_, ?_, q6⟩
    · have l := l_rem1 (d := d) (Q := Q) F 150 0 (by omega)
      rw [fil_0, wI_same] at l
      rw [c] at p1
      simp (implicitDefEqProofs := false) only [eX9_remembers, rX9_remembers_0, rX9_remembers_0b, rX9_remembers_1, rX9_remembers_4, rX9_remembers_6, rX9_remembers_9, rX9_remembers_10, kA_44, kB_44, p1, show nI 16 = 16 from rfl, show (0 : Int32) = nI 0 from rfl, pCX9_remembers, pSX9_remembers, pOX9_remembers, pLX9_remembers, kl_I, kl_J, kl_R, kl_T, kl_N, Nat.le_refl, Nat.zero_le, List.map_nil, List.map_cons, List.sum_nil, List.sum_cons, c_I, c_J, c_R, c_T, va_rf, hI_wI, hJ_wJ, hR_wR, hI_J, hI_R, hJ_I, hJ_R, hR_I, hR_J, hN_I, hN_J, hN_R, wI_I, wJ_J, upd_at, updL_at, kR_s, Option.toList, List.append_nil, List.nil_append, List.cons_append, if_true, if_false, reduceIte, Bool.false_eq_true, not_true_eq_false, not_false_eq_true, true_and, and_true, false_and, and_false, true_or, or_true,  Nat.reduceEqDiff, Nat.reduceAdd, Nat.reduceLeDiff]
      rw [l]
      simp (implicitDefEqProofs := false) only [rX9_remembers_39, rX9_remembers_39b, rX9_remembers_40, rX9_remembers_40b, rX9_remembers_41, rX9_remembers_44, rX9_remembers_45, rX9_remembers_46, kA_44, kB_44, p1, show nI 16 - 1 = nI 15 from by decide, pCX9_remembers, pSX9_remembers, pOX9_remembers, pLX9_remembers, kl_I, kl_J, kl_R, kl_T, kl_N, Nat.le_refl, Nat.zero_le, List.map_nil, List.map_cons, List.sum_nil, List.sum_cons, c_I, c_J, c_R, c_T, va_rf, hI_wI, hJ_wJ, hR_wR, hI_J, hI_R, hJ_I, hJ_R, hR_I, hR_J, hN_I, hN_J, hN_R, wI_I, wJ_J, upd_at, updL_at, kR_s, Option.toList, List.append_nil, List.nil_append, List.cons_append, if_true, if_false, reduceIte, Bool.false_eq_true, not_true_eq_false, not_false_eq_true, true_and, and_true, false_and, and_false, true_or, or_true,  Nat.reduceEqDiff, Nat.reduceAdd, Nat.reduceLeDiff]
      exact (e Q).2
    · rw [q1, hI_wI, if_neg (by decide), hI_wI, if_neg (by decide)]
    · rw [q2, hI_wI, if_neg (by decide), hI_wI, if_neg (by decide)]
    · rw [q3, hI_wI, if_neg (by decide), hI_wI, if_neg (by decide)]
    · rw [q4, hI_wI, if_neg (by decide), hI_wI, if_neg (by decide)]
    · rw [q5, hI_wI, if_pos rfl, upd_at, if_neg (by decide)]
  · obtain ⟨h', e, k, q⟩ := c_rem (d := d) (h := h) (n := ps.length) (a := a) (x := x) (ps := ps) F h6 v p1 (by omega) (by rw [List.length_take, List.length_cons]; omega) p3
    refine ⟨h', fun Q => ?_, k, q⟩
    have ne : (nI ps.length = 16) = (ps.length = 16) := nq (x := ps.length) (k := 16) (c := 16) rfl (by omega) (by omega)
    simp (implicitDefEqProofs := false) only [eX9_remembers, rX9_remembers_0, rX9_remembers_0b, rX9_remembers_1, rX9_remembers_4, rX9_remembers_6, kA_44, kB_44, p1, ne, c, pCX9_remembers, pSX9_remembers, pOX9_remembers, pLX9_remembers, kl_I, kl_J, kl_R, kl_T, kl_N, Nat.le_refl, Nat.zero_le, List.map_nil, List.map_cons, List.sum_nil, List.sum_cons, c_I, c_J, c_R, c_T, va_rf, hI_wI, hJ_wJ, hR_wR, hI_J, hI_R, hJ_I, hJ_R, hR_I, hR_J, hN_I, hN_J, hN_R, wI_I, wJ_J, upd_at, updL_at, kR_s, Option.toList, List.append_nil, List.nil_append, List.cons_append, if_true, if_false, reduceIte, Bool.false_eq_true, not_true_eq_false, not_false_eq_true, true_and, and_true, false_and, and_false, true_or, or_true,  Nat.reduceEqDiff, Nat.reduceAdd, Nat.reduceLeDiff]
    exact (e Q).1
theorem lc_tell {d : Nat} {h : qH} {o1 : Option Value} {z2 : Int32} (F : Fin0 (hR h)) {Q : Option (Option Value) → qH → Prop} : ∀ (k i : Nat), i + k = 10 → WP d mX9_tell (0, 0) 59 [some (.ref (44 : Nat)), o1, some (.int z2), some (.int (nI i))] [] (wI h 46 (fil i (hI h 47) (hI h 46))) Q = WP d mX9_tell (0, 0) 83 [some (.ref (44 : Nat)), o1, some (.int z2), some (.int 10)] [] (wI h 46 (fil 10 (hI h 47) (hI h 46))) Q := by
  intro k
  induction k with
  | zero =>
    intro i hi
    obtain rfl : i = 10 := by omega
    simp (implicitDefEqProofs := false) only [rX9_tell_59, rX9_tell_60, rX9_tell_62, rX9_tell_65, rX9_tell_65b, rX9_tell_66, rX9_tell_69, rX9_tell_70, rX9_tell_70b, rX9_tell_71, rX9_tell_74, rX9_tell_75, rX9_tell_76, pCX9_tell, pSX9_tell, pOX9_tell, pLX9_tell, show nI 10 = 10 from rfl, Int32.le_refl, kl_I, kl_J, kl_R, kl_T, kl_N, Nat.le_refl, Nat.zero_le, List.map_nil, List.map_cons, List.sum_nil, List.sum_cons, c_I, c_J, c_R, c_T, va_rf, hI_wI, hJ_wJ, hR_wR, hI_J, hI_R, hJ_I, hJ_R, hR_I, hR_J, hN_I, hN_J, hN_R, wI_I, wJ_J, upd_at, updL_at, kR_s, Option.toList, List.append_nil, List.nil_append, List.cons_append, if_true, if_false, reduceIte, Bool.false_eq_true, not_true_eq_false, not_false_eq_true, true_and, and_true, false_and, and_false, true_or, or_true,  Nat.reduceEqDiff, Nat.reduceAdd, Nat.reduceLeDiff]
  | succ k ih =>
    intro i hi
    have v1 : vp_in (nI i) 10 := nI_vp (by omega) (by decide)
    have cl : (nI i).toNatClampNeg = i := nI_cl (by omega)
    have i1 := ih (i + 1) (by omega)
    rw [← fil_s] at i1
    simp (implicitDefEqProofs := false) only [rX9_tell_59, rX9_tell_60, rX9_tell_62, rX9_tell_65, rX9_tell_65b, rX9_tell_66, rX9_tell_69, rX9_tell_70, rX9_tell_70b, rX9_tell_71, rX9_tell_74, rX9_tell_75, rX9_tell_76, kA_44, kB_44, kA_46, kB_46, kA_47, kB_47, fin_44_5 F, fin_44_15 F, fin_44_16 F, fin_44_17 F, fin_44_18 F, fin_44_21 F, fin_44_23 F, fin_44_24 F, fin_44_25 F, fin_44_29 F, fin_44_33 F, nge (x := i) (k := 10) (c := 10) rfl (by omega) (by omega), show ¬ 10 ≤ i from by omega, v1, cl, pCX9_tell, pSX9_tell, pOX9_tell, pLX9_tell, kl_I, kl_J, kl_R, kl_T, kl_N, Nat.le_refl, Nat.zero_le, List.map_nil, List.map_cons, List.sum_nil, List.sum_cons, c_I, c_J, c_R, c_T, va_rf, hI_wI, hJ_wJ, hR_wR, hI_J, hI_R, hJ_I, hJ_R, hR_I, hR_J, hN_I, hN_J, hN_R, wI_I, wJ_J, upd_at, updL_at, kR_s, Option.toList, List.append_nil, List.nil_append, List.cons_append, if_true, if_false, reduceIte, Bool.false_eq_true, not_true_eq_false, not_false_eq_true, true_and, and_true, false_and, and_false, true_or, or_true,  Nat.reduceEqDiff, Nat.reduceAdd, Nat.reduceLeDiff]
    rw [rX9_tell_77, nI_1]
    simp (implicitDefEqProofs := false) only [rX9_tell_80, kl_I, kl_J, kl_R, kl_T, kl_N, Nat.le_refl, Nat.zero_le, List.map_nil, List.map_cons, List.sum_nil, List.sum_cons, c_I, c_J, c_R, c_T, va_rf, hI_wI, hJ_wJ, hR_wR, hI_J, hI_R, hJ_I, hJ_R, hR_I, hR_J, hN_I, hN_J, hN_R, wI_I, wJ_J, upd_at, updL_at, kR_s, Option.toList, List.append_nil, List.nil_append, List.cons_append, if_true, if_false, reduceIte, Bool.false_eq_true, not_true_eq_false, not_false_eq_true, true_and, and_true, false_and, and_false, true_or, or_true,  Nat.reduceEqDiff, Nat.reduceAdd, Nat.reduceLeDiff]
    exact i1
theorem m_tell {d : Nat} {h : qH} {S : AS} {y : Int32} (I : MI h S) : ms 0 (d + 10) mX9_tell [.ref (44 : Nat), .int y] h (sTell S y).1 (some (.int (sTell S y).2)) := by
  have E : ∀ Q, WM (d + 10) mX9_tell [.ref (44 : Nat), .int y] h Q = WP (d + 10) mX9_tell (0, 0) 5 [some (.ref (44 : Nat)), some (.int y), none, none] [] (th h) Q := fun Q => by simp (implicitDefEqProofs := false) only [eX9_tell, rX9_tell_0, rX9_tell_0b, rX9_tell_1, rX9_tell_2, kA_44, kB_44, pCX9_tell, pSX9_tell, pOX9_tell, pLX9_tell, th, kl_I, kl_J, kl_R, kl_T, kl_N, Nat.le_refl, Nat.zero_le, List.map_nil, List.map_cons, List.sum_nil, List.sum_cons, c_I, c_J, c_R, c_T, va_rf, hI_wI, hJ_wJ, hR_wR, hI_J, hI_R, hJ_I, hJ_R, hR_I, hR_J, hN_I, hN_J, hN_R, wI_I, wJ_J, upd_at, updL_at, kR_s, Option.toList, List.append_nil, List.nil_append, List.cons_append, if_true, if_false, reduceIte, Bool.false_eq_true, not_true_eq_false, not_false_eq_true, true_and, and_true, false_and, and_false, true_or, or_true,  Nat.reduceEqDiff, Nat.reduceAdd, Nat.reduceLeDiff]
  rw [sTell]
  by_cases c1 : aN (sA S) = 0
  · rw [c1, ix0]
    refine ms_of (v := 1) I (by decide) E ?_
    obtain ⟨F, r⟩ := MI_n (MI_th I) c1
    generalize th h = g at F r ⊢
    exact ⟨g, fun Q => by simp (implicitDefEqProofs := false) only [rX9_tell_5, rX9_tell_5b, rX9_tell_6, rX9_tell_7, rX9_tell_10, rX9_tell_11, rX9_tell_12, rX9_tell_15, rX9_tell_15b, rX9_tell_16, rX9_tell_19, rX9_tell_21, rX9_tell_22, rX9_tell_23, rX9_tell_26, rX9_tell_29, rX9_tell_30, rX9_tell_31, rX9_tell_32, rX9_tell_35, rX9_tell_35b, rX9_tell_36, rX9_tell_37, rX9_tell_40, kA_44, kB_44, c_refT0 r, c_mrefused, show nI 1 = 1 from rfl, show ¬ (1 : Int32) ≤ 0 from by decide, show ¬ (1 : Int32) = 0 from by decide, pCX9_tell, pSX9_tell, pOX9_tell, pLX9_tell, pCX9_refusesTold, pSX9_refusesTold, pOX9_refusesTold, pLX9_refusesTold, pCX9_refused, pSX9_refused, pOX9_refused, pLX9_refused, kl_I, kl_J, kl_R, kl_T, kl_N, Nat.le_refl, Nat.zero_le, List.map_nil, List.map_cons, List.sum_nil, List.sum_cons, c_I, c_J, c_R, c_T, va_rf, hI_wI, hJ_wJ, hR_wR, hI_J, hI_R, hJ_I, hJ_R, hR_I, hR_J, hN_I, hN_J, hN_R, wI_I, wJ_J, upd_at, updL_at, kR_s, Option.toList, List.append_nil, List.nil_append, List.cons_append, if_true, if_false, reduceIte, Bool.false_eq_true, not_true_eq_false, not_false_eq_true, true_and, and_true, false_and, and_false, true_or, or_true,  Nat.reduceEqDiff, Nat.reduceAdd, Nat.reduceLeDiff], kp_refl⟩
  · have I1 := MI_th I
    obtain ⟨s, k, v, t1, t2, t3, t4, t5, ww⟩ := MI_y I1 c1
    have pp := MI_pP I1
    have pi := MI_pI I1
    have bd := I.2.1
    have h6 := ww.1
    cases hx : ix y (aN (sA S)) with
    | none =>
      refine ms_of (v := 1) I (by decide) E ?_
      generalize th h = g at k ⊢
      exact ⟨g, fun Q => by simp (implicitDefEqProofs := false) only [rX9_tell_5, rX9_tell_5b, rX9_tell_6, rX9_tell_7, rX9_tell_10, rX9_tell_11, rX9_tell_12, rX9_tell_15, rX9_tell_15b, rX9_tell_16, rX9_tell_19, rX9_tell_21, rX9_tell_22, rX9_tell_23, rX9_tell_26, rX9_tell_29, rX9_tell_30, rX9_tell_31, rX9_tell_32, rX9_tell_35, rX9_tell_35b, rX9_tell_36, rX9_tell_37, rX9_tell_40, kA_44, kB_44, c_refT1 k hx, c_mrefused, show nI 1 = 1 from rfl, show ¬ (1 : Int32) ≤ 0 from by decide, show ¬ (1 : Int32) = 0 from by decide, pCX9_tell, pSX9_tell, pOX9_tell, pLX9_tell, pCX9_refusesTold, pSX9_refusesTold, pOX9_refusesTold, pLX9_refusesTold, pCX9_refused, pSX9_refused, pOX9_refused, pLX9_refused, kl_I, kl_J, kl_R, kl_T, kl_N, Nat.le_refl, Nat.zero_le, List.map_nil, List.map_cons, List.sum_nil, List.sum_cons, c_I, c_J, c_R, c_T, va_rf, hI_wI, hJ_wJ, hR_wR, hI_J, hI_R, hJ_I, hJ_R, hR_I, hR_J, hN_I, hN_J, hN_R, wI_I, wJ_J, upd_at, updL_at, kR_s, Option.toList, List.append_nil, List.nil_append, List.cons_append, if_true, if_false, reduceIte, Bool.false_eq_true, not_true_eq_false, not_false_eq_true, true_and, and_true, false_and, and_false, true_or, or_true,  Nat.reduceEqDiff, Nat.reduceAdd, Nat.reduceLeDiff], kp_refl⟩
    | some i =>
      obtain ⟨rfl, hi⟩ := ix_s (by omega) hx
      simp only
      have v7 : vp_in 7 10 := nI_vp (i := 7) (by omega) (by decide)
      have cl7 : (7 : Int32).toNatClampNeg = 7 := rfl
      have v9 : vp_in 9 10 := nI_vp (i := 9) (by omega) (by decide)
      have cl9 : (9 : Int32).toNatClampNeg = 9 := rfl
      by_cases c2 : dayN (sA S) (sX S).1 i ≤ (sX S).2.2
      · rw [if_pos c2]
        refine ms_of (v := 5) I (by decide) E ?_
        generalize th h = g at k v ⊢
        obtain ⟨h1, e1, x1, u1, a1⟩ := c_refT (d := d + 5) k v hi t3
        exact ⟨h1, fun Q => by simp (implicitDefEqProofs := false) only [rX9_tell_5, rX9_tell_5b, rX9_tell_6, rX9_tell_7, rX9_tell_10, rX9_tell_11, rX9_tell_12, rX9_tell_15, rX9_tell_15b, rX9_tell_16, rX9_tell_19, rX9_tell_21, rX9_tell_22, rX9_tell_23, rX9_tell_26, rX9_tell_29, rX9_tell_30, rX9_tell_31, rX9_tell_32, rX9_tell_35, rX9_tell_35b, rX9_tell_36, rX9_tell_37, rX9_tell_40, kA_44, kB_44, e1, c2, c_mrefused, show nI 5 = 5 from rfl, show ¬ (5 : Int32) ≤ 0 from by decide, show ¬ (5 : Int32) = 0 from by decide, pCX9_tell, pSX9_tell, pOX9_tell, pLX9_tell, pCX9_refusesTold, pSX9_refusesTold, pOX9_refusesTold, pLX9_refusesTold, pCX9_refused, pSX9_refused, pOX9_refused, pLX9_refused, kl_I, kl_J, kl_R, kl_T, kl_N, Nat.le_refl, Nat.zero_le, List.map_nil, List.map_cons, List.sum_nil, List.sum_cons, c_I, c_J, c_R, c_T, va_rf, hI_wI, hJ_wJ, hR_wR, hI_J, hI_R, hJ_I, hJ_R, hR_I, hR_J, hN_I, hN_J, hN_R, wI_I, wJ_J, upd_at, updL_at, kR_s, Option.toList, List.append_nil, List.nil_append, List.cons_append, if_true, if_false, reduceIte, Bool.false_eq_true, not_true_eq_false, not_false_eq_true, true_and, and_true, false_and, and_false, true_or, or_true,  Nat.reduceEqDiff, Nat.reduceAdd, Nat.reduceLeDiff], kp_sx x1 (by decide)⟩
      · rw [if_neg c2]
        by_cases c3 : (sX S).1.testBit i = true
        · rw [if_pos c3]
          refine ms_of (v := 5) I (by decide) E ?_
          generalize th h = g at k v ⊢
          obtain ⟨h1, e1, x1, u1, a1⟩ := c_refT (d := d + 5) k v hi t3
          have F1 := (mK_sx k x1 (by decide)).1
          have bt := c_mbit (d := d + 9) (h := h1) (t := (sX S).1) (j := i) (by omega) (by omega)
          rw [c3] at bt
          have v3 := v.2.2.1
          rw [← x1.2.2.2 46 (by decide)] at v3
          exact ⟨h1, fun Q => by simp (implicitDefEqProofs := false) only [rX9_tell_5, rX9_tell_5b, rX9_tell_6, rX9_tell_7, rX9_tell_10, rX9_tell_11, rX9_tell_12, rX9_tell_15, rX9_tell_15b, rX9_tell_16, rX9_tell_19, rX9_tell_21, rX9_tell_22, rX9_tell_23, rX9_tell_26, rX9_tell_29, rX9_tell_30, rX9_tell_31, rX9_tell_32, rX9_tell_35, rX9_tell_35b, rX9_tell_36, rX9_tell_37, rX9_tell_40, kA_44, kB_44, kA_46, kB_46, fin_44_5 F1, fin_44_15 F1, fin_44_16 F1, fin_44_17 F1, fin_44_18 F1, fin_44_21 F1, fin_44_23 F1, fin_44_24 F1, fin_44_25 F1, fin_44_29 F1, fin_44_33 F1, e1, c2, v7, cl7, v3, bt, bI_t, c_mrefused, show nI 5 = 5 from rfl, show ¬ (5 : Int32) ≤ 0 from by decide, show ¬ (5 : Int32) = 0 from by decide, show ¬ (1 : Int32) = 0 from by decide, pCX9_tell, pSX9_tell, pOX9_tell, pLX9_tell, pCX9_bit, pSX9_bit, pOX9_bit, pLX9_bit, pCX9_refusesTold, pSX9_refusesTold, pOX9_refusesTold, pLX9_refusesTold, pCX9_refused, pSX9_refused, pOX9_refused, pLX9_refused, kl_I, kl_J, kl_R, kl_T, kl_N, Nat.le_refl, Nat.zero_le, List.map_nil, List.map_cons, List.sum_nil, List.sum_cons, c_I, c_J, c_R, c_T, va_rf, hI_wI, hJ_wJ, hR_wR, hI_J, hI_R, hJ_I, hJ_R, hR_I, hR_J, hN_I, hN_J, hN_R, wI_I, wJ_J, upd_at, updL_at, kR_s, Option.toList, List.append_nil, List.nil_append, List.cons_append, if_true, if_false, reduceIte, Bool.false_eq_true, not_true_eq_false, not_false_eq_true, true_and, and_true, false_and, and_false, true_or, or_true,  Nat.reduceEqDiff, Nat.reduceAdd, Nat.reduceLeDiff], kp_sx x1 (by decide)⟩
        · rw [if_neg c3]
          have tb := or_lt t1 hi
          have p64 := p6 h6
          refine ms_st (v := 0) I c1 (by decide) ⟨⟨Nat.lt_of_lt_of_le tb p64, t5, t3⟩, tb, t2⟩ (take_mB bd.2.1 bd.2.2.1) bd.2.2.2 E ?_
          generalize th h = g at k v pp pi ⊢
          obtain ⟨h1, e1, x1, u1, a1⟩ := c_refT (d := d + 5) k v hi t3
          have k1 := mK_sx k x1 (by decide)
          have F1 := k1.1
          have bt := c_mbit (d := d + 9) (h := h1) (t := (sX S).1) (j := i) (by omega) (by omega)
          rw [show (sX S).1.testBit i = false from by simpa using c3] at bt
          have v' : vF (hI h1 46) (sA S) (sX S) := by rw [x1.2.2.2 46 (by decide)]; exact v
          have v3 := v'.2.2.1
          have e46 : ∀ {b}, b ≠ 47 → b ≠ 50 → hI h1 b = hI g b := fun n1 n2 => x1.2.2.2 _ (by simp; omega)
          obtain ⟨h2, e2, k2, r46, r47, r50, r49, r20, pp2⟩ := c_remembers (d := d + 9) F1 h6 v' (pP_mv pp (by rw [e46 (by decide) (by decide)]) (e46 (by decide) (by decide)))
          have k2' := mK_kq k1 k2
          have F2 := k2'.1
          obtain ⟨h3, e3, x3, u3, a3⟩ := c_tells (d := d + 6) (y := (sX S).2.2) k2' (by rw [r47]; exact u1) (by unfold atR; rw [r50]; exact a1) hi t4 (by omega)
          rw [tl_no c2] at u3 a3
          have k3 := mK_sx k2' x3 (by decide)
          have F3 := k3.1
          have lc := fun o1 z2 Q => lc_tell (d := d + 10) (h := h3) (o1 := o1) (z2 := z2) (Q := Q) F3 10 0 (by omega)
          simp only [fil_0, wI_same] at lc
          have v6 : vp_in (nI i) 6 := nI_vp (by omega) (by decide)
          have cl : (nI i).toNatClampNeg = i := nI_cl (by omega)
          have s46 : ∀ {b}, b ≠ 47 → b ≠ 50 → hI h3 b = hI h2 b := fun n1 n2 => x3.2.2.2 _ (by simp; omega)
          refine ⟨wI h3 46 (fil 10 (hI h3 47) (hI h3 46)), fun Q => ?_, kq_w (kq_tr (kq_kp (kp_sx x1 (by decide))) (kq_tr k2 (kq_kp (kp_sx x3 (by decide))))) (by decide) (by decide), ?_, ?_, ?_⟩
          · have F4 : Fin0 (hR (wI h3 46 (fil 10 (hI h3 47) (hI h3 46)))) := F3
            simp (implicitDefEqProofs := false) only [rX9_tell_5, rX9_tell_5b, rX9_tell_6, rX9_tell_7, rX9_tell_10, rX9_tell_11, rX9_tell_12, rX9_tell_15, rX9_tell_15b, rX9_tell_16, rX9_tell_19, rX9_tell_21, rX9_tell_22, rX9_tell_23, rX9_tell_26, rX9_tell_29, rX9_tell_30, rX9_tell_31, rX9_tell_32, rX9_tell_35, rX9_tell_35b, rX9_tell_36, rX9_tell_37, rX9_tell_40, rX9_tell_41, rX9_tell_41b, rX9_tell_42, rX9_tell_45, rX9_tell_45b, rX9_tell_46, rX9_tell_47, rX9_tell_47b, rX9_tell_48, rX9_tell_51, rX9_tell_53, rX9_tell_54, rX9_tell_57, rX9_tell_58, kA_44, kB_44, kA_46, kB_46, fin_44_5 F1, fin_44_15 F1, fin_44_16 F1, fin_44_17 F1, fin_44_18 F1, fin_44_21 F1, fin_44_23 F1, fin_44_24 F1, fin_44_25 F1, fin_44_29 F1, fin_44_33 F1, fin_44_5 F2, fin_44_15 F2, fin_44_16 F2, fin_44_17 F2, fin_44_18 F2, fin_44_21 F2, fin_44_23 F2, fin_44_24 F2, fin_44_25 F2, fin_44_29 F2, fin_44_33 F2, e1, c2, v7, cl7, v9, cl9, v3, bt, bI_f, e2, r46, v'.2.2.2.2, e3, show (0 : Int32) ≤ 0 from by decide, pCX9_tell, pSX9_tell, pOX9_tell, pLX9_tell, pCX9_bit, pSX9_bit, pOX9_bit, pLX9_bit, pCX9_refusesTold, pSX9_refusesTold, pOX9_refusesTold, pLX9_refusesTold, pCX9_remembers, pSX9_remembers, pOX9_remembers, pLX9_remembers, pCX9_tells, pSX9_tells, pOX9_tells, pLX9_tells, kl_I, kl_J, kl_R, kl_T, kl_N, Nat.le_refl, Nat.zero_le, List.map_nil, List.map_cons, List.sum_nil, List.sum_cons, c_I, c_J, c_R, c_T, va_rf, hI_wI, hJ_wJ, hR_wR, hI_J, hI_R, hJ_I, hJ_R, hR_I, hR_J, hN_I, hN_J, hN_R, wI_I, wJ_J, upd_at, updL_at, kR_s, Option.toList, List.append_nil, List.nil_append, List.cons_append, if_true, if_false, reduceIte, Bool.false_eq_true, not_true_eq_false, not_false_eq_true, true_and, and_true, false_and, and_false, true_or, or_true,  Nat.reduceEqDiff, Nat.reduceAdd, Nat.reduceLeDiff]
            change WP (d + 10) mX9_tell (0, 0) 59 [some (.ref (44 : Nat)), some (.int (nI i)), some (.int 0), some (.int (nI 0))] [] h3 Q = _
            rw [lc]
            simp (implicitDefEqProofs := false) only [rX9_tell_83, rX9_tell_83b, rX9_tell_84, rX9_tell_84b, rX9_tell_85, rX9_tell_88, rX9_tell_89, rX9_tell_90, rX9_tell_93, rX9_tell_96, kA_44, kB_44, kA_50, kB_50, fin_44_5 F3, fin_44_15 F3, fin_44_16 F3, fin_44_17 F3, fin_44_18 F3, fin_44_21 F3, fin_44_23 F3, fin_44_24 F3, fin_44_25 F3, fin_44_29 F3, fin_44_33 F3, v6, cl, a3.1 i hi, c_orNobody (a3.2.1 i), c_mgood, nI_0, pCX9_tell, pSX9_tell, pOX9_tell, pLX9_tell, pCX9_orNobody, pSX9_orNobody, pOX9_orNobody, pLX9_orNobody, pCX9_good, pSX9_good, pOX9_good, pLX9_good, kl_I, kl_J, kl_R, kl_T, kl_N, Nat.le_refl, Nat.zero_le, List.map_nil, List.map_cons, List.sum_nil, List.sum_cons, c_I, c_J, c_R, c_T, va_rf, hI_wI, hJ_wJ, hR_wR, hI_J, hI_R, hJ_I, hJ_R, hR_I, hR_J, hN_I, hN_J, hN_R, wI_I, wJ_J, upd_at, updL_at, kR_s, Option.toList, List.append_nil, List.nil_append, List.cons_append, if_true, if_false, reduceIte, Bool.false_eq_true, not_true_eq_false, not_false_eq_true, true_and, and_true, false_and, and_false, true_or, or_true,  Nat.reduceEqDiff, Nat.reduceAdd, Nat.reduceLeDiff]
          · rw [hI_wI, if_pos rfl]; exact vF_fil h6 u3
          · exact pP_mv pp2 (by rw [hI_wI, if_neg (by decide), s46 (by decide) (by decide)]) (by rw [hI_wI, if_neg (by decide), s46 (by decide) (by decide)])
          · refine pI_mv pi ?_ ?_
            · rw [hI_wI, if_neg (by decide), s46 (by decide) (by decide), r20, e46 (by decide) (by decide)]
            · rw [hI_wI, if_neg (by decide), s46 (by decide) (by decide), r49, e46 (by decide) (by decide)]
theorem st_tr {S : AS} {v : Nat} : stS S (sX S) (sP S) (sM S) v = trS S v := rfl
theorem m_wires {d : Nat} {h : qH} {S : AS} {y : Int32} {p : Bool} (I : MI h S) : ms 0 (d + 9) mX9_wires [.ref (44 : Nat), .int y, .int (bI p)] h (sTurn S y p).1 (some (.int (bI (sTurn S y p).2))) := by
  rw [sTurn]
  by_cases c1 : aN (sA S) = 0
  · rw [c1, ix0]
    obtain ⟨F, r⟩ := MI_n I c1
    refine ⟨_, fun Q => ?_, kp_mf (kp_tm kp_refl), MI_tm (v := 1) I kp_refl (by decide)⟩
    simp (implicitDefEqProofs := false) only [eX9_wires, rX9_wires_0, rX9_wires_0b, rX9_wires_1, rX9_wires_2, rX9_wires_5, rX9_wires_8, rX9_wires_8b, rX9_wires_9, rX9_wires_10, rX9_wires_13, kA_44, kB_44, c_isHouse0 r, c_mdenied (d := d + 7), show nI 1 = 1 from rfl, bI_f, pCX9_wires, pSX9_wires, pOX9_wires, pLX9_wires, pCX9_isHouse, pSX9_isHouse, pOX9_isHouse, pLX9_isHouse, pCX9_denied, pSX9_denied, pOX9_denied, pLX9_denied, kl_I, kl_J, kl_R, kl_T, kl_N, Nat.le_refl, Nat.zero_le, List.map_nil, List.map_cons, List.sum_nil, List.sum_cons, c_I, c_J, c_R, c_T, va_rf, hI_wI, hJ_wJ, hR_wR, hI_J, hI_R, hJ_I, hJ_R, hR_I, hR_J, hN_I, hN_J, hN_R, wI_I, wJ_J, upd_at, updL_at, kR_s, Option.toList, List.append_nil, List.nil_append, List.cons_append, if_true, if_false, reduceIte, Bool.false_eq_true, not_true_eq_false, not_false_eq_true, true_and, and_true, false_and, and_false, true_or, or_true,  Nat.reduceEqDiff, Nat.reduceAdd, Nat.reduceLeDiff]
  · obtain ⟨s, k, v, t1, t2, t3, t4, t5, ww⟩ := MI_y I c1
    have h6 := ww.1
    have F := k.1
    have ih := c_isHouse (d := d + 8) (y := y) k.2.1 k.2.2.1
    cases hx : ix y (aN (sA S)) with
    | none =>
      rw [hx] at ih
      refine ⟨_, fun Q => ?_, kp_mf (kp_tm kp_refl), MI_tm (v := 1) I kp_refl (by decide)⟩
      simp (implicitDefEqProofs := false) only [eX9_wires, rX9_wires_0, rX9_wires_0b, rX9_wires_1, rX9_wires_2, rX9_wires_5, rX9_wires_8, rX9_wires_8b, rX9_wires_9, rX9_wires_10, rX9_wires_13, kA_44, kB_44, ih, decide_false, c_mdenied (d := d + 7), show nI 1 = 1 from rfl, bI_f, pCX9_wires, pSX9_wires, pOX9_wires, pLX9_wires, pCX9_isHouse, pSX9_isHouse, pOX9_isHouse, pLX9_isHouse, pCX9_denied, pSX9_denied, pOX9_denied, pLX9_denied, kl_I, kl_J, kl_R, kl_T, kl_N, Nat.le_refl, Nat.zero_le, List.map_nil, List.map_cons, List.sum_nil, List.sum_cons, c_I, c_J, c_R, c_T, va_rf, hI_wI, hJ_wJ, hR_wR, hI_J, hI_R, hJ_I, hJ_R, hR_I, hR_J, hN_I, hN_J, hN_R, wI_I, wJ_J, upd_at, updL_at, kR_s, Option.toList, List.append_nil, List.nil_append, List.cons_append, if_true, if_false, reduceIte, Bool.false_eq_true, not_true_eq_false, not_false_eq_true, true_and, and_true, false_and, and_false, true_or, or_true,  Nat.reduceEqDiff, Nat.reduceAdd, Nat.reduceLeDiff]
    | some i =>
      rw [hx] at ih
      obtain ⟨rfl, hi⟩ := ix_s (by omega) hx
      simp only
      have v8 : vp_in 8 10 := nI_vp (i := 8) (by omega) (by decide)
      have cl8 : (8 : Int32).toNatClampNeg = 8 := rfl
      have bt := c_mbit (d := d + 8) (h := h) (t := (sX S).2.1) (j := i) (by omega) (by omega)
      have bj : ∀ b c : Bool, (bI b = bI c) = (b = c) := by decide
      by_cases c2 : (sX S).2.1.testBit i = p
      · rw [if_pos c2]
        refine ⟨_, fun Q => ?_, kp_mf (kp_tm kp_refl), MI_tm (v := 5) I kp_refl (by decide)⟩
        simp (implicitDefEqProofs := false) only [eX9_wires, rX9_wires_0, rX9_wires_0b, rX9_wires_1, rX9_wires_2, rX9_wires_5, rX9_wires_8, rX9_wires_8b, rX9_wires_9, rX9_wires_10, rX9_wires_13, rX9_wires_14, rX9_wires_14b, rX9_wires_15, rX9_wires_18, rX9_wires_20, rX9_wires_21, rX9_wires_22, rX9_wires_25, rX9_wires_26, rX9_wires_29, rX9_wires_29b, rX9_wires_30, rX9_wires_31, rX9_wires_34, kA_44, kB_44, kA_46, kB_46, fin_44_5 F, fin_44_15 F, fin_44_16 F, fin_44_17 F, fin_44_18 F, fin_44_21 F, fin_44_23 F, fin_44_24 F, fin_44_25 F, fin_44_29 F, fin_44_33 F, ih, reduceCtorEq, decide_true, bI_t, show ¬ (1 : Int32) = 0 from by decide, v8, cl8, v.2.2.2.1, bt, bj, c2, c_mdenied (d := d + 7), show nI 5 = 5 from rfl, bI_f, pCX9_wires, pSX9_wires, pOX9_wires, pLX9_wires, pCX9_isHouse, pSX9_isHouse, pOX9_isHouse, pLX9_isHouse, pCX9_bit, pSX9_bit, pOX9_bit, pLX9_bit, pCX9_denied, pSX9_denied, pOX9_denied, pLX9_denied, kl_I, kl_J, kl_R, kl_T, kl_N, Nat.le_refl, Nat.zero_le, List.map_nil, List.map_cons, List.sum_nil, List.sum_cons, c_I, c_J, c_R, c_T, va_rf, hI_wI, hJ_wJ, hR_wR, hI_J, hI_R, hJ_I, hJ_R, hR_I, hR_J, hN_I, hN_J, hN_R, wI_I, wJ_J, upd_at, updL_at, kR_s, Option.toList, List.append_nil, List.nil_append, List.cons_append, if_true, if_false, reduceIte, Bool.false_eq_true, not_true_eq_false, not_false_eq_true, true_and, and_true, false_and, and_false, true_or, or_true,  Nat.reduceEqDiff, Nat.reduceAdd, Nat.reduceLeDiff]
      · rw [if_neg c2]
        obtain ⟨h2, e2, k2, r46, r47, r50, r49, r20, pp2⟩ := c_remembers (d := d + 8) F h6 v (MI_pP I)
        have F2 := (mK_kq k k2).1
        have v2 : vF (hI h2 46) (sA S) (sX S) := by rw [r46]; exact v
        have p2 : 2 ^ i < 2 ^ aN (sA S) := Nat.pow_lt_pow_right (by omega) hi
        have tl : (sX S).2.1 ^^^ 2 ^ i < 2 ^ aN (sA S) := Nat.xor_lt_two_pow t2 p2
        have p64 := p6 h6
        have bd := I.2.1
        have kk : kq h (wI h2 46 (upd (hI h2 46) 8 (nI ((sX S).2.1 ^^^ 2 ^ i)))) := kq_w k2 (by decide) (by decide)
        refine ⟨_, fun Q => ?_, kq_mf (kq_tm kk), MI_st (v := 0) (x := ((sX S).1, (sX S).2.1 ^^^ 2 ^ i, (sX S).2.2)) I c1 kk (by decide) ⟨⟨t4, Nat.lt_of_lt_of_le tl p64, t3⟩, t1, tl⟩ (take_mB bd.2.1 bd.2.2.1) bd.2.2.2 ?_ (pP_mv pp2 (by rw [hI_wI, if_neg (by decide)]) (by rw [hI_wI, if_neg (by decide)])) (pI_mv (MI_pI I) (by rw [hI_wI, if_neg (by decide), r20]) (by rw [hI_wI, if_neg (by decide), r49]))⟩
        · simp (implicitDefEqProofs := false) only [eX9_wires, rX9_wires_0, rX9_wires_0b, rX9_wires_1, rX9_wires_2, rX9_wires_5, rX9_wires_8, rX9_wires_8b, rX9_wires_9, rX9_wires_10, rX9_wires_13, rX9_wires_14, rX9_wires_14b, rX9_wires_15, rX9_wires_18, rX9_wires_20, rX9_wires_21, rX9_wires_22, rX9_wires_25, rX9_wires_26, rX9_wires_29, rX9_wires_29b, rX9_wires_30, rX9_wires_31, rX9_wires_34, rX9_wires_35, rX9_wires_35b, rX9_wires_36, rX9_wires_39, rX9_wires_39b, rX9_wires_40, rX9_wires_43, rX9_wires_45, rX9_wires_46, rX9_wires_47, rX9_wires_48, rX9_wires_49, rX9_wires_50, rX9_wires_51, rX9_wires_52, rX9_wires_52b, rX9_wires_53, rX9_wires_56, kA_44, kB_44, kA_46, kB_46, fin_44_5 F, fin_44_15 F, fin_44_16 F, fin_44_17 F, fin_44_18 F, fin_44_21 F, fin_44_23 F, fin_44_24 F, fin_44_25 F, fin_44_29 F, fin_44_33 F, fin_44_5 F2, fin_44_15 F2, fin_44_16 F2, fin_44_17 F2, fin_44_18 F2, fin_44_21 F2, fin_44_23 F2, fin_44_24 F2, fin_44_25 F2, fin_44_29 F2, fin_44_33 F2, ih, reduceCtorEq, decide_true, bI_t, show ¬ (1 : Int32) = 0 from by decide, v8, cl8, v.2.2.2.1, v2.2.2.2.1, bt, bj, c2, e2, bt_shl (j := i) (by omega), bt_xor, c_mgranted (d := d + 7), show nI 0 = 0 from rfl, pCX9_wires, pSX9_wires, pOX9_wires, pLX9_wires, pCX9_isHouse, pSX9_isHouse, pOX9_isHouse, pLX9_isHouse, pCX9_bit, pSX9_bit, pOX9_bit, pLX9_bit, pCX9_remembers, pSX9_remembers, pOX9_remembers, pLX9_remembers, pCX9_granted, pSX9_granted, pOX9_granted, pLX9_granted, kl_I, kl_J, kl_R, kl_T, kl_N, Nat.le_refl, Nat.zero_le, List.map_nil, List.map_cons, List.sum_nil, List.sum_cons, c_I, c_J, c_R, c_T, va_rf, hI_wI, hJ_wJ, hR_wR, hI_J, hI_R, hJ_I, hJ_R, hR_I, hR_J, hN_I, hN_J, hN_R, wI_I, wJ_J, upd_at, updL_at, kR_s, Option.toList, List.append_nil, List.nil_append, List.cons_append, if_true, if_false, reduceIte, Bool.false_eq_true, not_true_eq_false, not_false_eq_true, true_and, and_true, false_and, and_false, true_or, or_true,  Nat.reduceEqDiff, Nat.reduceAdd, Nat.reduceLeDiff]
        · rw [hI_wI, if_pos rfl]
          obtain ⟨w1, w2, w3, w4, w5⟩ := v2
          exact ⟨fun j hj => by rw [upd_at, if_neg (by omega)]; exact w1 j hj, by rw [upd_at, if_neg (by decide)]; exact w2, by rw [upd_at, if_neg (by decide)]; exact w3, by rw [upd_at, if_pos rfl], by rw [upd_at, if_neg (by decide)]; exact w5⟩
theorem m_pull {d : Nat} {h : qH} {S : AS} {y : Int32} (I : MI h S) : ms 0 (d + 10) mX9_pull [.ref (44 : Nat), .int y] h (sTurn S y true).1 (some (.int (bI (sTurn S y true).2))) := by
  obtain ⟨h', k1, k2, k3⟩ := m_wires (d := d) (y := y) (p := true) (MI_th I)
  refine ⟨h', fun Q => ?_, ?_, k3⟩
  · rw [bI_t] at k1
    simp (implicitDefEqProofs := false) only [eX9_pull, rX9_pull_0, rX9_pull_0b, rX9_pull_1, rX9_pull_2, rX9_pull_5, rX9_pull_5b, kA_44, kB_44, pCX9_pull, pSX9_pull, pOX9_pull, pLX9_pull, kl_I, kl_J, kl_R, kl_T, kl_N, Nat.le_refl, Nat.zero_le, List.map_nil, List.map_cons, List.sum_nil, List.sum_cons, c_I, c_J, c_R, c_T, va_rf, hI_wI, hJ_wJ, hR_wR, hI_J, hI_R, hJ_I, hJ_R, hR_I, hR_J, hN_I, hN_J, hN_R, wI_I, wJ_J, upd_at, updL_at, kR_s, Option.toList, List.append_nil, List.nil_append, List.cons_append, if_true, if_false, reduceIte, Bool.false_eq_true, not_true_eq_false, not_false_eq_true, true_and, and_true, false_and, and_false, true_or, or_true,  Nat.reduceEqDiff, Nat.reduceAdd, Nat.reduceLeDiff]
    change WP (d + 10) mX9_pull (0, 0) 6 [some (.ref (44 : Nat)), some (.int y)] [.ref (44 : Nat)] (th h) Q = _
    cases hr : (sTurn S y true).2 with
    | true => rw [hr, bI_t] at k1; simp (implicitDefEqProofs := false) only [rX9_pull_6, rX9_pull_7, rX9_pull_8, rX9_pull_11, kA_44, kB_44, k1, bI_t, pCX9_pull, pSX9_pull, pOX9_pull, pLX9_pull, pCX9_wires, pSX9_wires, pOX9_wires, pLX9_wires, kl_I, kl_J, kl_R, kl_T, kl_N, Nat.le_refl, Nat.zero_le, List.map_nil, List.map_cons, List.sum_nil, List.sum_cons, c_I, c_J, c_R, c_T, va_rf, hI_wI, hJ_wJ, hR_wR, hI_J, hI_R, hJ_I, hJ_R, hR_I, hR_J, hN_I, hN_J, hN_R, wI_I, wJ_J, upd_at, updL_at, kR_s, Option.toList, List.append_nil, List.nil_append, List.cons_append, if_true, if_false, reduceIte, Bool.false_eq_true, not_true_eq_false, not_false_eq_true, true_and, and_true, false_and, and_false, true_or, or_true,  Nat.reduceEqDiff, Nat.reduceAdd, Nat.reduceLeDiff]
    | false => rw [hr, bI_f] at k1; simp (implicitDefEqProofs := false) only [rX9_pull_6, rX9_pull_7, rX9_pull_8, rX9_pull_11, kA_44, kB_44, k1, bI_f, pCX9_pull, pSX9_pull, pOX9_pull, pLX9_pull, pCX9_wires, pSX9_wires, pOX9_wires, pLX9_wires, kl_I, kl_J, kl_R, kl_T, kl_N, Nat.le_refl, Nat.zero_le, List.map_nil, List.map_cons, List.sum_nil, List.sum_cons, c_I, c_J, c_R, c_T, va_rf, hI_wI, hJ_wJ, hR_wR, hI_J, hI_R, hJ_I, hJ_R, hR_I, hR_J, hN_I, hN_J, hN_R, wI_I, wJ_J, upd_at, updL_at, kR_s, Option.toList, List.append_nil, List.nil_append, List.cons_append, if_true, if_false, reduceIte, Bool.false_eq_true, not_true_eq_false, not_false_eq_true, true_and, and_true, false_and, and_false, true_or, or_true,  Nat.reduceEqDiff, Nat.reduceAdd, Nat.reduceLeDiff]
  · have := mf_tr (kp_mf (kp_th (h := h))) k2
    exact this
theorem m_mend {d : Nat} {h : qH} {S : AS} {y : Int32} (I : MI h S) : ms 0 (d + 10) mX9_mend [.ref (44 : Nat), .int y] h (sTurn S y false).1 (some (.int (bI (sTurn S y false).2))) := by
  obtain ⟨h', k1, k2, k3⟩ := m_wires (d := d) (y := y) (p := false) (MI_th I)
  refine ⟨h', fun Q => ?_, ?_, k3⟩
  · rw [bI_f] at k1
    simp (implicitDefEqProofs := false) only [eX9_mend, rX9_mend_0, rX9_mend_0b, rX9_mend_1, rX9_mend_2, rX9_mend_5, rX9_mend_5b, kA_44, kB_44, pCX9_mend, pSX9_mend, pOX9_mend, pLX9_mend, kl_I, kl_J, kl_R, kl_T, kl_N, Nat.le_refl, Nat.zero_le, List.map_nil, List.map_cons, List.sum_nil, List.sum_cons, c_I, c_J, c_R, c_T, va_rf, hI_wI, hJ_wJ, hR_wR, hI_J, hI_R, hJ_I, hJ_R, hR_I, hR_J, hN_I, hN_J, hN_R, wI_I, wJ_J, upd_at, updL_at, kR_s, Option.toList, List.append_nil, List.nil_append, List.cons_append, if_true, if_false, reduceIte, Bool.false_eq_true, not_true_eq_false, not_false_eq_true, true_and, and_true, false_and, and_false, true_or, or_true,  Nat.reduceEqDiff, Nat.reduceAdd, Nat.reduceLeDiff]
    change WP (d + 10) mX9_mend (0, 0) 6 [some (.ref (44 : Nat)), some (.int y)] [.ref (44 : Nat)] (th h) Q = _
    cases hr : (sTurn S y false).2 with
    | true => rw [hr, bI_t] at k1; simp (implicitDefEqProofs := false) only [rX9_mend_6, rX9_mend_7, rX9_mend_8, rX9_mend_11, kA_44, kB_44, k1, bI_t, pCX9_mend, pSX9_mend, pOX9_mend, pLX9_mend, pCX9_wires, pSX9_wires, pOX9_wires, pLX9_wires, kl_I, kl_J, kl_R, kl_T, kl_N, Nat.le_refl, Nat.zero_le, List.map_nil, List.map_cons, List.sum_nil, List.sum_cons, c_I, c_J, c_R, c_T, va_rf, hI_wI, hJ_wJ, hR_wR, hI_J, hI_R, hJ_I, hJ_R, hR_I, hR_J, hN_I, hN_J, hN_R, wI_I, wJ_J, upd_at, updL_at, kR_s, Option.toList, List.append_nil, List.nil_append, List.cons_append, if_true, if_false, reduceIte, Bool.false_eq_true, not_true_eq_false, not_false_eq_true, true_and, and_true, false_and, and_false, true_or, or_true,  Nat.reduceEqDiff, Nat.reduceAdd, Nat.reduceLeDiff]
    | false => rw [hr, bI_f] at k1; simp (implicitDefEqProofs := false) only [rX9_mend_6, rX9_mend_7, rX9_mend_8, rX9_mend_11, kA_44, kB_44, k1, bI_f, pCX9_mend, pSX9_mend, pOX9_mend, pLX9_mend, pCX9_wires, pSX9_wires, pOX9_wires, pLX9_wires, kl_I, kl_J, kl_R, kl_T, kl_N, Nat.le_refl, Nat.zero_le, List.map_nil, List.map_cons, List.sum_nil, List.sum_cons, c_I, c_J, c_R, c_T, va_rf, hI_wI, hJ_wJ, hR_wR, hI_J, hI_R, hJ_I, hJ_R, hR_I, hR_J, hN_I, hN_J, hN_R, wI_I, wJ_J, upd_at, updL_at, kR_s, Option.toList, List.append_nil, List.nil_append, List.cons_append, if_true, if_false, reduceIte, Bool.false_eq_true, not_true_eq_false, not_false_eq_true, true_and, and_true, false_and, and_false, true_or, or_true,  Nat.reduceEqDiff, Nat.reduceAdd, Nat.reduceLeDiff]
  · have := mf_tr (kp_mf (kp_th (h := h))) k2
    exact this
theorem m_day {d : Nat} {h : qH} {S : AS} (I : MI h S) : ms 0 (d + 10) mX9_day [.ref (44 : Nat)] h (sDay S).1 (some (.int (sDay S).2)) := by
  have E : ∀ Q, WM (d + 10) mX9_day [.ref (44 : Nat)] h Q = WP (d + 10) mX9_day (0, 0) 5 [some (.ref (44 : Nat))] [] (th h) Q := fun Q => by simp (implicitDefEqProofs := false) only [eX9_day, rX9_day_0, rX9_day_0b, rX9_day_1, rX9_day_2, kA_44, kB_44, pCX9_day, pSX9_day, pOX9_day, pLX9_day, th, kl_I, kl_J, kl_R, kl_T, kl_N, Nat.le_refl, Nat.zero_le, List.map_nil, List.map_cons, List.sum_nil, List.sum_cons, c_I, c_J, c_R, c_T, va_rf, hI_wI, hJ_wJ, hR_wR, hI_J, hI_R, hJ_I, hJ_R, hR_I, hR_J, hN_I, hN_J, hN_R, wI_I, wJ_J, upd_at, updL_at, kR_s, Option.toList, List.append_nil, List.nil_append, List.cons_append, if_true, if_false, reduceIte, Bool.false_eq_true, not_true_eq_false, not_false_eq_true, true_and, and_true, false_and, and_false, true_or, or_true,  Nat.reduceEqDiff, Nat.reduceAdd, Nat.reduceLeDiff]
  rw [sDay]
  by_cases c1 : aN (sA S) = 0
  · rw [if_pos c1]
    refine ms_of (v := 1) I (by decide) E ?_
    obtain ⟨F, r⟩ := MI_n (MI_th I) c1
    generalize th h = g at F r ⊢
    exact ⟨g, fun Q => by simp (implicitDefEqProofs := false) only [rX9_day_5, rX9_day_5b, rX9_day_6, rX9_day_9, rX9_day_9b, rX9_day_12, rX9_day_12b, rX9_day_13, rX9_day_14, rX9_day_17, kA_44, kB_44, r, c_mrefused, show nI 1 = 1 from rfl, show ¬ (1 : Int32) ≤ 0 from by decide, show ¬ (1 : Int32) = 0 from by decide, pCX9_day, pSX9_day, pOX9_day, pLX9_day, pCX9_refused, pSX9_refused, pOX9_refused, pLX9_refused, kl_I, kl_J, kl_R, kl_T, kl_N, Nat.le_refl, Nat.zero_le, List.map_nil, List.map_cons, List.sum_nil, List.sum_cons, c_I, c_J, c_R, c_T, va_rf, hI_wI, hJ_wJ, hR_wR, hI_J, hI_R, hJ_I, hJ_R, hR_I, hR_J, hN_I, hN_J, hN_R, wI_I, wJ_J, upd_at, updL_at, kR_s, Option.toList, List.append_nil, List.nil_append, List.cons_append, if_true, if_false, reduceIte, Bool.false_eq_true, not_true_eq_false, not_false_eq_true, true_and, and_true, false_and, and_false, true_or, or_true,  Nat.reduceEqDiff, Nat.reduceAdd, Nat.reduceLeDiff], kp_refl⟩
  · rw [if_neg c1]
    have I1 := MI_th I
    obtain ⟨s, k, v, t1, t2, t3, t4, t5, ww⟩ := MI_y I1 c1
    have pp := MI_pP I1
    have pi := MI_pI I1
    have bd := I.2.1
    have h6 := ww.1
    have v9 : vp_in 9 10 := nI_vp (i := 9) (by omega) (by decide)
    have cl9 : (9 : Int32).toNatClampNeg = 9 := rfl
    have q90 : (nI (sX S).2.2 = 90) = ((sX S).2.2 = 90) := nq (x := (sX S).2.2) (k := 90) (c := 90) rfl (by omega) (by omega)
    by_cases c2 : 90 ≤ (sX S).2.2
    · rw [if_pos c2]
      refine ms_of (v := 3) I (by decide) E ?_
      generalize th h = g at k v ⊢
      have F := k.1
      exact ⟨g, fun Q => by simp (implicitDefEqProofs := false) only [rX9_day_5, rX9_day_5b, rX9_day_6, rX9_day_9, rX9_day_9b, rX9_day_12, rX9_day_12b, rX9_day_13, rX9_day_14, rX9_day_17, rX9_day_18, rX9_day_18b, rX9_day_19, rX9_day_22, rX9_day_24, rX9_day_25, rX9_day_27, rX9_day_30, rX9_day_30b, rX9_day_31, rX9_day_32, rX9_day_35, kA_44, kB_44, kA_46, kB_46, fin_44_5 F, fin_44_15 F, fin_44_16 F, fin_44_17 F, fin_44_18 F, fin_44_21 F, fin_44_23 F, fin_44_24 F, fin_44_25 F, fin_44_29 F, fin_44_33 F, k.2.1, v9, cl9, v.2.2.2.2, q90, show (sX S).2.2 = 90 from by omega, show nI 90 = 90 from rfl, c_mrefused, show nI 3 = 3 from rfl, pCX9_day, pSX9_day, pOX9_day, pLX9_day, pCX9_refused, pSX9_refused, pOX9_refused, pLX9_refused, kl_I, kl_J, kl_R, kl_T, kl_N, Nat.le_refl, Nat.zero_le, List.map_nil, List.map_cons, List.sum_nil, List.sum_cons, c_I, c_J, c_R, c_T, va_rf, hI_wI, hJ_wJ, hR_wR, hI_J, hI_R, hJ_I, hJ_R, hR_I, hR_J, hN_I, hN_J, hN_R, wI_I, wJ_J, upd_at, updL_at, kR_s, Option.toList, List.append_nil, List.nil_append, List.cons_append, if_true, if_false, reduceIte, Bool.false_eq_true, not_true_eq_false, not_false_eq_true, true_and, and_true, false_and, and_false, true_or, or_true,  Nat.reduceEqDiff, Nat.reduceAdd, Nat.reduceLeDiff], kp_refl⟩
    · rw [if_neg c2]
      refine ms_st (v := 0) I c1 (by decide) ⟨⟨t4, t5, by simp only; omega⟩, t1, t2⟩ (take_mB bd.2.1 bd.2.2.1) bd.2.2.2 E ?_
      generalize th h = g at k v pp pi ⊢
      have F := k.1
      obtain ⟨h2, e2, k2, r46, r47, r50, r49, r20, pp2⟩ := c_remembers (d := d + 9) F h6 v pp
      have k2' := mK_kq k k2
      have F2 := k2'.1
      have v2 : vF (hI h2 46) (sA S) (sX S) := by rw [r46]; exact v
      have x3 : sx [46] h2 (wI h2 46 (upd (hI h2 46) 9 (nI ((sX S).2.2 + 1)))) := sx_w sx_refl (by simp)
      have k3 := mK_sx k2' x3 (by decide)
      have v3 : vF (hI (wI h2 46 (upd (hI h2 46) 9 (nI ((sX S).2.2 + 1)))) 46) (sA S) ((sX S).1, (sX S).2.1, (sX S).2.2 + 1) := by
        rw [hI_wI, if_pos rfl]
        obtain ⟨w1, w2, w3, w4, w5⟩ := v2
        exact ⟨fun j hj => by rw [upd_at, if_neg (by omega)]; exact w1 j hj, by rw [upd_at, if_neg (by decide)]; exact w2, by rw [upd_at, if_neg (by decide)]; exact w3, by rw [upd_at, if_neg (by decide)]; exact w4, by rw [upd_at, if_pos rfl]⟩
      obtain ⟨h4, e4, x4, u4, a4⟩ := c_finds (d := d + 6) k3 v3
      have k4 := mK_sx k3 x4 (by decide)
      have F4 := k4.1
      have b1 := c_mbb (d := d + 9) (y := (sX S).2.2 + 1) k4.1 k4.2.1 k4.2.2.1 a4 (by omega)
      have b2 := c_mbb (d := d + 9) (y := (sX S).2.2) k4.1 k4.2.1 k4.2.2.1 a4 (by omega)
      have s46 : ∀ {b}, b ≠ 46 → b ≠ 47 → b ≠ 50 → hI h4 b = hI h2 b := fun n0 n1 n2 => by rw [x4.2.2.2 _ (by simp; omega), hI_wI, if_neg n0]
      have v4 : vF (hI h4 46) (sA S) ((sX S).1, (sX S).2.1, (sX S).2.2 + 1) := by rw [x4.2.2.2 46 (by decide)]; exact v3
      have su : nI ((sX S).2.2 + 1) - 1 = nI (sX S).2.2 := by rw [show (1 : Int32) = nI 1 from rfl, pk_sub (by omega)]; rfl
      refine ⟨h4, fun Q => ?_, kq_tr k2 (kq_tr (kq_w kq_refl (by decide) (by decide)) (kq_kp (kp_sx x4 (by decide)))), v4, pP_mv pp2 (by rw [s46 (by decide) (by decide) (by decide)]) (s46 (by decide) (by decide) (by decide)), pI_mv pi (by rw [s46 (by decide) (by decide) (by decide), r20]) (by rw [s46 (by decide) (by decide) (by decide), r49])⟩
      simp (implicitDefEqProofs := false) only [rX9_day_5, rX9_day_5b, rX9_day_6, rX9_day_9, rX9_day_9b, rX9_day_12, rX9_day_12b, rX9_day_13, rX9_day_14, rX9_day_17, rX9_day_18, rX9_day_18b, rX9_day_19, rX9_day_22, rX9_day_24, rX9_day_25, rX9_day_27, rX9_day_30, rX9_day_30b, rX9_day_31, rX9_day_32, rX9_day_35, rX9_day_36, rX9_day_36b, rX9_day_37, rX9_day_40, rX9_day_40b, rX9_day_41, rX9_day_44, rX9_day_46, rX9_day_47, rX9_day_48, rX9_day_49, rX9_day_50, rX9_day_51, rX9_day_51b, kA_44, kB_44, kA_46, kB_46, fin_44_5 F, fin_44_15 F, fin_44_16 F, fin_44_17 F, fin_44_18 F, fin_44_21 F, fin_44_23 F, fin_44_24 F, fin_44_25 F, fin_44_29 F, fin_44_33 F, fin_44_5 F2, fin_44_15 F2, fin_44_16 F2, fin_44_17 F2, fin_44_18 F2, fin_44_21 F2, fin_44_23 F2, fin_44_24 F2, fin_44_25 F2, fin_44_29 F2, fin_44_33 F2, k.2.1, v9, cl9, v.2.2.2.2, q90, show ¬ (sX S).2.2 = 90 from by omega, e2, v2.2.2.2.2, nI_1, pCX9_day, pSX9_day, pOX9_day, pLX9_day, pCX9_remembers, pSX9_remembers, pOX9_remembers, pLX9_remembers, kl_I, kl_J, kl_R, kl_T, kl_N, Nat.le_refl, Nat.zero_le, List.map_nil, List.map_cons, List.sum_nil, List.sum_cons, c_I, c_J, c_R, c_T, va_rf, hI_wI, hJ_wJ, hR_wR, hI_J, hI_R, hJ_I, hJ_R, hR_I, hR_J, hN_I, hN_J, hN_R, wI_I, wJ_J, upd_at, updL_at, kR_s, Option.toList, List.append_nil, List.nil_append, List.cons_append, if_true, if_false, reduceIte, Bool.false_eq_true, not_true_eq_false, not_false_eq_true, true_and, and_true, false_and, and_false, true_or, or_true,  Nat.reduceEqDiff, Nat.reduceAdd, Nat.reduceLeDiff]
      simp (implicitDefEqProofs := false) only [rX9_day_52, rX9_day_55, rX9_day_55b, rX9_day_56, rX9_day_56b, rX9_day_57, rX9_day_57b, rX9_day_58, rX9_day_61, rX9_day_63, rX9_day_64, rX9_day_67, rX9_day_67b, rX9_day_68, rX9_day_68b, rX9_day_69, rX9_day_72, rX9_day_74, rX9_day_75, rX9_day_76, rX9_day_77, rX9_day_80, rX9_day_81, rX9_day_82, rX9_day_83, rX9_day_86, kA_44, kB_44, kA_46, kB_46, fin_44_5 F4, fin_44_15 F4, fin_44_16 F4, fin_44_17 F4, fin_44_18 F4, fin_44_21 F4, fin_44_23 F4, fin_44_24 F4, fin_44_25 F4, fin_44_29 F4, fin_44_33 F4, v9, cl9, e4, v4.2.2.2.2, su, b1, b2, bbN, c_mgood, nI_0, pCX9_day, pSX9_day, pOX9_day, pLX9_day, pCX9_finds, pSX9_finds, pOX9_finds, pLX9_finds, pCX9_burntBy, pSX9_burntBy, pOX9_burntBy, pLX9_burntBy, pCX9_good, pSX9_good, pOX9_good, pLX9_good, kl_I, kl_J, kl_R, kl_T, kl_N, Nat.le_refl, Nat.zero_le, List.map_nil, List.map_cons, List.sum_nil, List.sum_cons, c_I, c_J, c_R, c_T, va_rf, hI_wI, hJ_wJ, hR_wR, hI_J, hI_R, hJ_I, hJ_R, hR_I, hR_J, hN_I, hN_J, hN_R, wI_I, wJ_J, upd_at, updL_at, kR_s, Option.toList, List.append_nil, List.nil_append, List.cons_append, if_true, if_false, reduceIte, Bool.false_eq_true, not_true_eq_false, not_false_eq_true, true_and, and_true, false_and, and_false, true_or, or_true,  Nat.reduceEqDiff, Nat.reduceAdd, Nat.reduceLeDiff]
