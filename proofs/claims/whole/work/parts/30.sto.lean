/-! ===== the story ===== -/
abbrev sT : Type := Nat × Nat × Nat
def pkN (x : sT) : Nat := x.2.2 * 4096 + x.2.1 * 64 + x.1
def sB (x : sT) : Prop := x.1 < 64 ∧ x.2.1 < 64 ∧ x.2.2 ≤ 90
theorem pk_e {x : sT} (b : sB x) : nI x.2.2 <<< ((12 : Int32) &&& 31) ||| nI x.2.1 <<< ((6 : Int32) &&& 31) ||| nI x.1 = nI (pkN x) := by
  obtain ⟨b1, b2, b3⟩ := b
  rw [pk_shlN _ 12 (by decide) (by omega), pk_shlN _ 6 (by decide) (by omega), bt_or, bt_or]
  congr 1
  have e1 : 2 ^ 12 * x.2.2 + x.2.1 * 2 ^ 6 = 2 ^ 12 * x.2.2 ||| x.2.1 * 2 ^ 6 := Nat.two_pow_add_eq_or_of_lt (by omega) _
  have e2 : 2 ^ 6 * (x.2.2 * 64 + x.2.1) + x.1 = 2 ^ 6 * (x.2.2 * 64 + x.2.1) ||| x.1 := Nat.two_pow_add_eq_or_of_lt (by omega) _
  rw [Nat.mul_comm x.2.2 (2 ^ 12), ← e1, show 2 ^ 12 * x.2.2 + x.2.1 * 2 ^ 6 = 2 ^ 6 * (x.2.2 * 64 + x.2.1) by omega, ← e2]
  unfold pkN
  omega
theorem pk_u {x : sT} (b : sB x) : nI (pkN x) &&& 63 = nI x.1 ∧ (nI (pkN x) >>> ((6 : Int32) &&& 31)) &&& 63 = nI x.2.1 ∧ nI (pkN x) >>> ((12 : Int32) &&& 31) = nI x.2.2 := by
  obtain ⟨b1, b2, b3⟩ := b
  have hp : pkN x < 2 ^ 31 := by unfold pkN; omega
  refine ⟨?_, ?_, ?_⟩
  · rw [pk_andN (by omega) 6 (by decide)]
    congr 1
    unfold pkN; omega
  · rw [pk_shrN hp _ 6 (by decide), pk_andN (by unfold pkN; omega) 6 (by decide)]
    congr 1
    unfold pkN; omega
  · rw [pk_shrN hp _ 12 (by decide)]
    congr 1
    unfold pkN; omega
theorem c_packed {d : Nat} {h : qH} {x : sT} (b : sB x) (e0 : hI h 29 0 = nI x.1) (e1 : hI h 29 1 = nI x.2.1) (e2 : hI h 29 2 = nI x.2.2) : ∀ Q, WM d mX3_packed [.ref (29 : Nat)] h Q = Q (some (some (.int (nI (pkN x))))) h := by
  intro Q
  simp (implicitDefEqProofs := false) only [eX3_packed, rX3_packed_0, rX3_packed_0b, rX3_packed_1, rX3_packed_4, rX3_packed_6, rX3_packed_7, rX3_packed_7b, rX3_packed_8, rX3_packed_11, rX3_packed_13, rX3_packed_14, rX3_packed_15, rX3_packed_15b, rX3_packed_16, rX3_packed_19, rX3_packed_20, kA_29, kB_29, pCX3_packed, pSX3_packed, pOX3_packed, pLX3_packed, e0, e1, e2, pk_e b, kl_I, kl_J, kl_R, kl_T, kl_N, Nat.le_refl, Nat.zero_le, List.map_nil, List.map_cons, List.sum_nil, List.sum_cons, c_I, c_J, c_R, c_T, va_rf, hI_wI, hJ_wJ, hR_wR, hI_J, hI_R, hJ_I, hJ_R, hR_I, hR_J, hN_I, hN_J, hN_R, wI_I, wJ_J, upd_at, updL_at, kR_s, Option.toList, List.append_nil, List.nil_append, List.cons_append, if_true, if_false, reduceIte, Bool.false_eq_true, not_true_eq_false, not_false_eq_true, true_and, and_true, false_and, and_false, true_or, or_true,  Nat.reduceEqDiff, Nat.reduceAdd, Nat.reduceLeDiff]
theorem c_unpack {d : Nat} {h : qH} {x : sT} (b : sB x) : ∀ Q, WM d mX3_unpack [.ref (29 : Nat), .int (nI (pkN x))] h Q = Q (some none) (wI h 29 (upd (upd (upd (hI h 29) 0 (nI x.1)) 1 (nI x.2.1)) 2 (nI x.2.2))) := by
  intro Q
  obtain ⟨p1, p2, p3⟩ := pk_u b
  simp (implicitDefEqProofs := false) only [eX3_unpack, rX3_unpack_0, rX3_unpack_0b, rX3_unpack_1, rX3_unpack_2, rX3_unpack_4, rX3_unpack_5, rX3_unpack_8, rX3_unpack_8b, rX3_unpack_9, rX3_unpack_10, rX3_unpack_12, rX3_unpack_13, rX3_unpack_15, rX3_unpack_16, rX3_unpack_19, rX3_unpack_19b, rX3_unpack_20, rX3_unpack_21, rX3_unpack_23, rX3_unpack_24, rX3_unpack_27, kA_29, kB_29, pCX3_unpack, pSX3_unpack, pOX3_unpack, pLX3_unpack, p1, p2, p3, kl_I, kl_J, kl_R, kl_T, kl_N, Nat.le_refl, Nat.zero_le, List.map_nil, List.map_cons, List.sum_nil, List.sum_cons, c_I, c_J, c_R, c_T, va_rf, hI_wI, hJ_wJ, hR_wR, hI_J, hI_R, hJ_I, hJ_R, hR_I, hR_J, hN_I, hN_J, hN_R, wI_I, wJ_J, upd_at, updL_at, kR_s, Option.toList, List.append_nil, List.nil_append, List.cons_append, if_true, if_false, reduceIte, Bool.false_eq_true, not_true_eq_false, not_false_eq_true, true_and, and_true, false_and, and_false, true_or, or_true,  Nat.reduceEqDiff, Nat.reduceAdd, Nat.reduceLeDiff]
/-- what goes on: the state, where the next act goes, what was ahead of the latest acts, images -/
def St (h : qH) (x : sT) (tu : Nat) (ps im : List sT) : Prop := sB x ∧ (hI h 29 0 = nI x.1 ∧ hI h 29 1 = nI x.2.1 ∧ hI h 29 2 = nI x.2.2 ∧ hI h 29 4 = nI tu ∧ hI h 29 5 = nI ps.length ∧ hI h 29 7 = nI im.length) ∧ tu < 16 ∧ ps.length ≤ 16 ∧ im.length ≤ 3 ∧
  (∀ i, i < ps.length → hI h 30 ((tu + 15 - i) % 16) = nI (pkN (ps.getD i (0, 0, 0))) ∧ sB (ps.getD i (0, 0, 0))) ∧ ∀ i, i < im.length → hI h 31 i = nI (pkN (im.getD i (0, 0, 0))) ∧ sB (im.getD i (0, 0, 0))
theorem c_keep {d : Nat} {h : qH} {x : sT} {tu : Nat} {ps im : List sT} (F : Fin0 (hR h)) (s : St h x tu ps im) : ∃ h', (∀ Q, WM (d + 1) mX3_keep [.ref (29 : Nat)] h Q = Q (some none) h') ∧ sx [29, 30] h h' ∧ St h' x ((tu + 1) % 16) ((x :: ps).take 16) im := by
  obtain ⟨b, ⟨e0, e1, e2, e4, e5, e7⟩, t1, t2, t3, hp, hi⟩ := s
  have v : vp_in (nI tu) 16 := nI_vp t1 (by decide)
  have cl : (nI tu).toNatClampNeg = tu := nI_cl (by omega)
  have r1 : nI tu + 1 - (nI tu + 1) / 16 * 16 = nI ((tu + 1) % 16) := by
    rw [nI_1, show (16 : Int32) = nI 16 from rfl, pk_rem (by omega) (by omega) (by omega)]
  have r2 : mnI (nI ps.length + 1) 16 = nI (min (ps.length + 1) 16) := by
    rw [nI_1, show (16 : Int32) = nI 16 from rfl, mnI]
    by_cases c : ps.length + 1 ≤ 16
    · have : ¬ nI 16 < nI (ps.length + 1) := nI_nlt c (by omega)
      rw [if_neg this]; congr 1; omega
    · have : nI 16 < nI (ps.length + 1) := nI_lt (by omega) (by omega)
      rw [if_pos this]; congr 1; omega
  refine ⟨wI (wI h 30 (upd (hI h 30) tu (nI (pkN x)))) 29 (upd (upd (hI h 29) 4 (nI ((tu + 1) % 16))) 5 (nI (min (ps.length + 1) 16))), fun Q => ?_, sx_w (sx_w sx_refl (by simp)) (by simp), b, ?_, Nat.mod_lt _ (by omega), by simp; omega, t3, ?_, ?_⟩
  · simp (implicitDefEqProofs := false) only [eX3_keep, rX3_keep_0, rX3_keep_0b, rX3_keep_1, rX3_keep_4, rX3_keep_4b, rX3_keep_5, rX3_keep_8, rX3_keep_8b, rX3_keep_9, rX3_keep_12, rX3_keep_13, rX3_keep_13b, rX3_keep_14, rX3_keep_14b, rX3_keep_15, rX3_keep_18, rX3_keep_19, rX3_keep_20, rX3_keep_22, rX3_keep_23, rX3_keep_26, rX3_keep_26b, rX3_keep_27, rX3_keep_27b, rX3_keep_28, rX3_keep_31, rX3_keep_32, rX3_keep_33, rX3_keep_35, rX3_keep_38, rX3_keep_41, fin_29_3 F, fin_29_6 F, kA_29, kB_29, kA_30, kB_30, pCX3_keep, pSX3_keep, pOX3_keep, pLX3_keep, pCX3_packed, pSX3_packed, pOX3_packed, pLX3_packed, e4, e5, c_packed b e0 e1 e2, v, cl, show ¬ (16 : Int32) = 0 from by decide, r1, r2, kl_I, kl_J, kl_R, kl_T, kl_N, Nat.le_refl, Nat.zero_le, List.map_nil, List.map_cons, List.sum_nil, List.sum_cons, c_I, c_J, c_R, c_T, va_rf, hI_wI, hJ_wJ, hR_wR, hI_J, hI_R, hJ_I, hJ_R, hR_I, hR_J, hN_I, hN_J, hN_R, wI_I, wJ_J, upd_at, updL_at, kR_s, Option.toList, List.append_nil, List.nil_append, List.cons_append, if_true, if_false, reduceIte, Bool.false_eq_true, not_true_eq_false, not_false_eq_true, true_and, and_true, false_and, and_false, true_or, or_true,  Nat.reduceEqDiff, Nat.reduceAdd, Nat.reduceLeDiff]
  · simp (implicitDefEqProofs := false) only [hI_wI, upd_at, kl_I, kl_J, kl_R, kl_T, kl_N, Nat.le_refl, Nat.zero_le, List.map_nil, List.map_cons, List.sum_nil, List.sum_cons, c_I, c_J, c_R, c_T, va_rf, hI_wI, hJ_wJ, hR_wR, hI_J, hI_R, hJ_I, hJ_R, hR_I, hR_J, hN_I, hN_J, hN_R, wI_I, wJ_J, upd_at, updL_at, kR_s, Option.toList, List.append_nil, List.nil_append, List.cons_append, if_true, if_false, reduceIte, Bool.false_eq_true, not_true_eq_false, not_false_eq_true, true_and, and_true, false_and, and_false, true_or, or_true,  Nat.reduceEqDiff, Nat.reduceAdd, Nat.reduceLeDiff]
    refine ⟨e0, e1, e2, ?_, e7⟩
    congr 1
    simp
    omega
  · intro i hi2
    simp (implicitDefEqProofs := false) only [hI_wI, upd_at, kl_I, kl_J, kl_R, kl_T, kl_N, Nat.le_refl, Nat.zero_le, List.map_nil, List.map_cons, List.sum_nil, List.sum_cons, c_I, c_J, c_R, c_T, va_rf, hI_wI, hJ_wJ, hR_wR, hI_J, hI_R, hJ_I, hJ_R, hR_I, hR_J, hN_I, hN_J, hN_R, wI_I, wJ_J, upd_at, updL_at, kR_s, Option.toList, List.append_nil, List.nil_append, List.cons_append, if_true, if_false, reduceIte, Bool.false_eq_true, not_true_eq_false, not_false_eq_true, true_and, and_true, false_and, and_false, true_or, or_true,  Nat.reduceEqDiff, Nat.reduceAdd, Nat.reduceLeDiff]
    rw [List.length_take, List.length_cons] at hi2
    cases i with
    | zero =>
      rw [if_pos (by omega)]
      refine ⟨?_, ?_⟩ <;> simp [b]
    | succ i =>
      have h1 : i < ps.length := by omega
      have h2 := hp i h1
      have h3 : ((tu + 1) % 16 + 15 - (i + 1)) % 16 = (tu + 15 - i) % 16 := by omega
      have h4 : ¬ (tu + 15 - i) % 16 = tu := by omega
      rw [h3, if_neg h4]
      have h5 : ((x :: ps).take 16).getD (i + 1) (0, 0, 0) = ps.getD i (0, 0, 0) := by
        simp only [List.getD_eq_getElem?_getD]
        rw [List.getElem?_take_of_lt (by omega)]
        simp
      rw [h5]
      exact h2
  · intro i hi2
    simp (implicitDefEqProofs := false) only [hI_wI, upd_at, kl_I, kl_J, kl_R, kl_T, kl_N, Nat.le_refl, Nat.zero_le, List.map_nil, List.map_cons, List.sum_nil, List.sum_cons, c_I, c_J, c_R, c_T, va_rf, hI_wI, hJ_wJ, hR_wR, hI_J, hI_R, hJ_I, hJ_R, hR_I, hR_J, hN_I, hN_J, hN_R, wI_I, wJ_J, upd_at, updL_at, kR_s, Option.toList, List.append_nil, List.nil_append, List.cons_append, if_true, if_false, reduceIte, Bool.false_eq_true, not_true_eq_false, not_false_eq_true, true_and, and_true, false_and, and_false, true_or, or_true,  Nat.reduceEqDiff, Nat.reduceAdd, Nat.reduceLeDiff]
    exact hi i hi2
theorem c_takeBack {d : Nat} {h : qH} {x : sT} {tu : Nat} {ps im : List sT} (F : Fin0 (hR h)) (s : St h x tu ps im) : ∃ h', (∀ Q, WM (d + 1) mX3_takeBack [.ref (29 : Nat)] h Q = Q (some (some (.int (if ps = [] then 0 else 1)))) h') ∧ sx [29, 30] h h' ∧ ∃ tu', St h' (match ps with | [] => x | p :: _ => p) tu' ps.tail im := by
  have s0 := s
  obtain ⟨b, ⟨e0, e1, e2, e4, e5, e7⟩, t1, t2, t3, hp, hi⟩ := s
  cases ps with
  | nil =>
    refine ⟨h, fun Q => ?_, sx_refl, tu, s0⟩
    simp (implicitDefEqProofs := false) only [eX3_takeBack, rX3_takeBack_0, rX3_takeBack_0b, rX3_takeBack_1, rX3_takeBack_4, rX3_takeBack_7, rX3_takeBack_8, rX3_takeBack_9, rX3_takeBack_9b, rX3_takeBack_10, rX3_takeBack_10b, rX3_takeBack_11, rX3_takeBack_14, rX3_takeBack_15, rX3_takeBack_16, rX3_takeBack_19, rX3_takeBack_19b, rX3_takeBack_20, rX3_takeBack_20b, rX3_takeBack_21, rX3_takeBack_24, rX3_takeBack_26, rX3_takeBack_27, rX3_takeBack_28, rX3_takeBack_29, rX3_takeBack_31, rX3_takeBack_32, rX3_takeBack_35, rX3_takeBack_35b, rX3_takeBack_36, rX3_takeBack_36b, rX3_takeBack_37, rX3_takeBack_40, rX3_takeBack_40b, rX3_takeBack_41, rX3_takeBack_44, rX3_takeBack_45, rX3_takeBack_48, rX3_takeBack_49, kA_29, kB_29, pCX3_takeBack, pSX3_takeBack, pOX3_takeBack, pLX3_takeBack, e5, List.length_nil, show nI 0 = 0 from rfl, kl_I, kl_J, kl_R, kl_T, kl_N, Nat.le_refl, Nat.zero_le, List.map_nil, List.map_cons, List.sum_nil, List.sum_cons, c_I, c_J, c_R, c_T, va_rf, hI_wI, hJ_wJ, hR_wR, hI_J, hI_R, hJ_I, hJ_R, hR_I, hR_J, hN_I, hN_J, hN_R, wI_I, wJ_J, upd_at, updL_at, kR_s, Option.toList, List.append_nil, List.nil_append, List.cons_append, if_true, if_false, reduceIte, Bool.false_eq_true, not_true_eq_false, not_false_eq_true, true_and, and_true, false_and, and_false, true_or, or_true,  Nat.reduceEqDiff, Nat.reduceAdd, Nat.reduceLeDiff]
  | cons p ps =>
    simp only [List.length_cons] at e5 t2 hp
    have g : ¬ nI (ps.length + 1) = 0 := nI_ne0 (by omega) (by omega)
    have r1 : nI tu + 16 - 1 - (nI tu + 16 - 1) / 16 * 16 = nI ((tu + 15) % 16) := by
      rw [show (16 : Int32) = nI 16 from rfl, nI_add, show nI (tu + 16) - 1 = nI (tu + 15) from nI_pred (tu + 15), pk_rem (by omega) (by omega) (by omega)]
    have v : vp_in (nI ((tu + 15) % 16)) 16 := nI_vp (by omega) (by decide)
    have cl : (nI ((tu + 15) % 16)).toNatClampNeg = (tu + 15) % 16 := nI_cl (by omega)
    have hp0 := hp 0 (by omega)
    simp only [Nat.sub_zero, List.getD_cons_zero] at hp0
    refine ⟨wI h 29 (upd (upd (upd (upd (upd (hI h 29) 5 (nI ps.length)) 4 (nI ((tu + 15) % 16))) 0 (nI p.1)) 1 (nI p.2.1)) 2 (nI p.2.2)), fun Q => ?_, sx_w sx_refl (by simp), (tu + 15) % 16, hp0.2, ?_, by omega, by simp; omega, t3, ?_, ?_⟩
    · simp (implicitDefEqProofs := false) only [eX3_takeBack, rX3_takeBack_0, rX3_takeBack_0b, rX3_takeBack_1, rX3_takeBack_4, rX3_takeBack_7, rX3_takeBack_8, rX3_takeBack_9, rX3_takeBack_9b, rX3_takeBack_10, rX3_takeBack_10b, rX3_takeBack_11, rX3_takeBack_14, rX3_takeBack_15, rX3_takeBack_16, rX3_takeBack_19, rX3_takeBack_19b, rX3_takeBack_20, rX3_takeBack_20b, rX3_takeBack_21, rX3_takeBack_24, rX3_takeBack_26, rX3_takeBack_27, rX3_takeBack_28, rX3_takeBack_29, rX3_takeBack_31, rX3_takeBack_32, rX3_takeBack_35, rX3_takeBack_35b, rX3_takeBack_36, rX3_takeBack_36b, rX3_takeBack_37, rX3_takeBack_40, rX3_takeBack_40b, rX3_takeBack_41, rX3_takeBack_44, rX3_takeBack_45, rX3_takeBack_48, rX3_takeBack_49, fin_29_3 F, fin_29_6 F, kA_29, kB_29, kA_30, kB_30, pCX3_takeBack, pSX3_takeBack, pOX3_takeBack, pLX3_takeBack, pCX3_unpack, pSX3_unpack, pOX3_unpack, pLX3_unpack, e5, e4, g, nI_pred, show ¬ (16 : Int32) = 0 from by decide, r1, v, cl, hp0.1, c_unpack hp0.2, reduceCtorEq, Or.inr rfl, true_or, or_true, kl_I, kl_J, kl_R, kl_T, kl_N, Nat.le_refl, Nat.zero_le, List.map_nil, List.map_cons, List.sum_nil, List.sum_cons, c_I, c_J, c_R, c_T, va_rf, hI_wI, hJ_wJ, hR_wR, hI_J, hI_R, hJ_I, hJ_R, hR_I, hR_J, hN_I, hN_J, hN_R, wI_I, wJ_J, upd_at, updL_at, kR_s, Option.toList, List.append_nil, List.nil_append, List.cons_append, if_true, if_false, reduceIte, Bool.false_eq_true, not_true_eq_false, not_false_eq_true, true_and, and_true, false_and, and_false, true_or, or_true,  Nat.reduceEqDiff, Nat.reduceAdd, Nat.reduceLeDiff]
    · simp (implicitDefEqProofs := false) only [hI_wI, upd_at, List.tail_cons, e7, kl_I, kl_J, kl_R, kl_T, kl_N, Nat.le_refl, Nat.zero_le, List.map_nil, List.map_cons, List.sum_nil, List.sum_cons, c_I, c_J, c_R, c_T, va_rf, hI_wI, hJ_wJ, hR_wR, hI_J, hI_R, hJ_I, hJ_R, hR_I, hR_J, hN_I, hN_J, hN_R, wI_I, wJ_J, upd_at, updL_at, kR_s, Option.toList, List.append_nil, List.nil_append, List.cons_append, if_true, if_false, reduceIte, Bool.false_eq_true, not_true_eq_false, not_false_eq_true, true_and, and_true, false_and, and_false, true_or, or_true,  Nat.reduceEqDiff, Nat.reduceAdd, Nat.reduceLeDiff]
    · intro i hi2
      simp only [List.tail_cons] at hi2 ⊢
      simp (implicitDefEqProofs := false) only [hI_wI, kl_I, kl_J, kl_R, kl_T, kl_N, Nat.le_refl, Nat.zero_le, List.map_nil, List.map_cons, List.sum_nil, List.sum_cons, c_I, c_J, c_R, c_T, va_rf, hI_wI, hJ_wJ, hR_wR, hI_J, hI_R, hJ_I, hJ_R, hR_I, hR_J, hN_I, hN_J, hN_R, wI_I, wJ_J, upd_at, updL_at, kR_s, Option.toList, List.append_nil, List.nil_append, List.cons_append, if_true, if_false, reduceIte, Bool.false_eq_true, not_true_eq_false, not_false_eq_true, true_and, and_true, false_and, and_false, true_or, or_true,  Nat.reduceEqDiff, Nat.reduceAdd, Nat.reduceLeDiff]
      have h2 := hp (i + 1) (by omega)
      simp only [List.getD_cons_succ] at h2
      have h3 : ((tu + 15) % 16 + 15 - i) % 16 = (tu + 15 - (i + 1)) % 16 := by omega
      rw [h3]
      exact h2
    · intro i hi2
      simp (implicitDefEqProofs := false) only [hI_wI, kl_I, kl_J, kl_R, kl_T, kl_N, Nat.le_refl, Nat.zero_le, List.map_nil, List.map_cons, List.sum_nil, List.sum_cons, c_I, c_J, c_R, c_T, va_rf, hI_wI, hJ_wJ, hR_wR, hI_J, hI_R, hJ_I, hJ_R, hR_I, hR_J, hN_I, hN_J, hN_R, wI_I, wJ_J, upd_at, updL_at, kR_s, Option.toList, List.append_nil, List.nil_append, List.cons_append, if_true, if_false, reduceIte, Bool.false_eq_true, not_true_eq_false, not_false_eq_true, true_and, and_true, false_and, and_false, true_or, or_true,  Nat.reduceEqDiff, Nat.reduceAdd, Nat.reduceLeDiff]
      exact hi i hi2
theorem c_keepImage {d : Nat} {h : qH} {x : sT} {tu : Nat} {ps im : List sT} (F : Fin0 (hR h)) (s : St h x tu ps im) : ∃ h', (∀ Q, WM (d + 1) mX3_keepImage [.ref (29 : Nat)] h Q = Q (some (some (.int (if im.length < 3 then nI im.length else -1)))) h') ∧ sx [29, 31] h h' ∧ St h' x tu ps (if im.length < 3 then im ++ [x] else im) := by
  have s0 := s
  obtain ⟨b, ⟨e0, e1, e2, e4, e5, e7⟩, t1, t2, t3, hp, hi⟩ := s
  by_cases c : im.length < 3
  · rw [if_pos c, if_pos c]
    have v : vp_in (nI im.length) 3 := nI_vp c (by decide)
    have cl : (nI im.length).toNatClampNeg = im.length := nI_cl (by omega)
    refine ⟨wI (wI h 31 (upd (hI h 31) im.length (nI (pkN x)))) 29 (upd (hI h 29) 7 (nI (im.length + 1))), fun Q => ?_, sx_w (sx_w sx_refl (by simp)) (by simp), b, ?_, t1, t2, by simp; omega, ?_, ?_⟩
    · simp (implicitDefEqProofs := false) only [eX3_keepImage, rX3_keepImage_0, rX3_keepImage_0b, rX3_keepImage_1, rX3_keepImage_4, rX3_keepImage_5, rX3_keepImage_8, rX3_keepImage_9, rX3_keepImage_10, rX3_keepImage_10b, rX3_keepImage_11, rX3_keepImage_14, rX3_keepImage_14b, rX3_keepImage_15, rX3_keepImage_18, rX3_keepImage_18b, rX3_keepImage_19, rX3_keepImage_22, rX3_keepImage_23, rX3_keepImage_23b, rX3_keepImage_24, rX3_keepImage_24b, rX3_keepImage_25, rX3_keepImage_28, rX3_keepImage_29, rX3_keepImage_30, rX3_keepImage_33, rX3_keepImage_33b, rX3_keepImage_34, rX3_keepImage_37, rX3_keepImage_38, rX3_keepImage_39, fin_29_3 F, fin_29_6 F, kA_29, kB_29, kA_31, kB_31, pCX3_keepImage, pSX3_keepImage, pOX3_keepImage, pLX3_keepImage, pCX3_packed, pSX3_packed, pOX3_packed, pLX3_packed, e7, nlt (x := im.length) (k := 3) (c := 3) rfl (by omega) (by omega), c, c_packed b e0 e1 e2, v, cl, nI_1, nI_pred, kl_I, kl_J, kl_R, kl_T, kl_N, Nat.le_refl, Nat.zero_le, List.map_nil, List.map_cons, List.sum_nil, List.sum_cons, c_I, c_J, c_R, c_T, va_rf, hI_wI, hJ_wJ, hR_wR, hI_J, hI_R, hJ_I, hJ_R, hR_I, hR_J, hN_I, hN_J, hN_R, wI_I, wJ_J, upd_at, updL_at, kR_s, Option.toList, List.append_nil, List.nil_append, List.cons_append, if_true, if_false, reduceIte, Bool.false_eq_true, not_true_eq_false, not_false_eq_true, true_and, and_true, false_and, and_false, true_or, or_true,  Nat.reduceEqDiff, Nat.reduceAdd, Nat.reduceLeDiff]
    · simp (implicitDefEqProofs := false) only [hI_wI, upd_at, kl_I, kl_J, kl_R, kl_T, kl_N, Nat.le_refl, Nat.zero_le, List.map_nil, List.map_cons, List.sum_nil, List.sum_cons, c_I, c_J, c_R, c_T, va_rf, hI_wI, hJ_wJ, hR_wR, hI_J, hI_R, hJ_I, hJ_R, hR_I, hR_J, hN_I, hN_J, hN_R, wI_I, wJ_J, upd_at, updL_at, kR_s, Option.toList, List.append_nil, List.nil_append, List.cons_append, if_true, if_false, reduceIte, Bool.false_eq_true, not_true_eq_false, not_false_eq_true, true_and, and_true, false_and, and_false, true_or, or_true,  Nat.reduceEqDiff, Nat.reduceAdd, Nat.reduceLeDiff]
      refine ⟨e0, e1, e2, e4, e5, ?_⟩
      simp
    · intro i hi2
      simp (implicitDefEqProofs := false) only [hI_wI, upd_at, kl_I, kl_J, kl_R, kl_T, kl_N, Nat.le_refl, Nat.zero_le, List.map_nil, List.map_cons, List.sum_nil, List.sum_cons, c_I, c_J, c_R, c_T, va_rf, hI_wI, hJ_wJ, hR_wR, hI_J, hI_R, hJ_I, hJ_R, hR_I, hR_J, hN_I, hN_J, hN_R, wI_I, wJ_J, upd_at, updL_at, kR_s, Option.toList, List.append_nil, List.nil_append, List.cons_append, if_true, if_false, reduceIte, Bool.false_eq_true, not_true_eq_false, not_false_eq_true, true_and, and_true, false_and, and_false, true_or, or_true,  Nat.reduceEqDiff, Nat.reduceAdd, Nat.reduceLeDiff]
      exact hp i hi2
    · intro i hi2
      simp (implicitDefEqProofs := false) only [hI_wI, upd_at, kl_I, kl_J, kl_R, kl_T, kl_N, Nat.le_refl, Nat.zero_le, List.map_nil, List.map_cons, List.sum_nil, List.sum_cons, c_I, c_J, c_R, c_T, va_rf, hI_wI, hJ_wJ, hR_wR, hI_J, hI_R, hJ_I, hJ_R, hR_I, hR_J, hN_I, hN_J, hN_R, wI_I, wJ_J, upd_at, updL_at, kR_s, Option.toList, List.append_nil, List.nil_append, List.cons_append, if_true, if_false, reduceIte, Bool.false_eq_true, not_true_eq_false, not_false_eq_true, true_and, and_true, false_and, and_false, true_or, or_true,  Nat.reduceEqDiff, Nat.reduceAdd, Nat.reduceLeDiff]
      rw [List.length_append, List.length_cons, List.length_nil] at hi2
      by_cases c2 : i = im.length
      · subst c2
        rw [if_pos rfl]
        simp [List.getD_eq_getElem?_getD, b]
      · rw [if_neg c2]
        have h2 := hi i (by omega)
        have h3 : (im ++ [x]).getD i (0, 0, 0) = im.getD i (0, 0, 0) := by
          simp only [List.getD_eq_getElem?_getD]
          rw [List.getElem?_append_left (by omega)]
        rw [h3]
        exact h2
  · rw [if_neg c, if_neg c]
    refine ⟨h, fun Q => ?_, sx_refl, s0⟩
    simp (implicitDefEqProofs := false) only [eX3_keepImage, rX3_keepImage_0, rX3_keepImage_0b, rX3_keepImage_1, rX3_keepImage_4, rX3_keepImage_5, rX3_keepImage_8, rX3_keepImage_9, rX3_keepImage_10, rX3_keepImage_10b, rX3_keepImage_11, rX3_keepImage_14, rX3_keepImage_14b, rX3_keepImage_15, rX3_keepImage_18, rX3_keepImage_18b, rX3_keepImage_19, rX3_keepImage_22, rX3_keepImage_23, rX3_keepImage_23b, rX3_keepImage_24, rX3_keepImage_24b, rX3_keepImage_25, rX3_keepImage_28, rX3_keepImage_29, rX3_keepImage_30, rX3_keepImage_33, rX3_keepImage_33b, rX3_keepImage_34, rX3_keepImage_37, rX3_keepImage_38, rX3_keepImage_39, kA_29, kB_29, pCX3_keepImage, pSX3_keepImage, pOX3_keepImage, pLX3_keepImage, e7, nlt (x := im.length) (k := 3) (c := 3) rfl (by omega) (by omega), c, kl_I, kl_J, kl_R, kl_T, kl_N, Nat.le_refl, Nat.zero_le, List.map_nil, List.map_cons, List.sum_nil, List.sum_cons, c_I, c_J, c_R, c_T, va_rf, hI_wI, hJ_wJ, hR_wR, hI_J, hI_R, hJ_I, hJ_R, hR_I, hR_J, hN_I, hN_J, hN_R, wI_I, wJ_J, upd_at, updL_at, kR_s, Option.toList, List.append_nil, List.nil_append, List.cons_append, if_true, if_false, reduceIte, Bool.false_eq_true, not_true_eq_false, not_false_eq_true, true_and, and_true, false_and, and_false, true_or, or_true,  Nat.reduceEqDiff, Nat.reduceAdd, Nat.reduceLeDiff]
/-- a number of one of the first n -/
def ix (x : Int32) (n : Nat) : Option Nat := if x < 0 ∨ nI n ≤ x then none else some x.toNatClampNeg
theorem ix_s {x : Int32} {n i : Nat} (hn : n < 2 ^ 31) (h : ix x n = some i) : x = nI i ∧ i < n := by
  unfold ix at h
  split at h
  · cases h
  · rename_i g
    cases h
    rcases pk_ix x hn with q | q | ⟨j, q1, q2⟩
    · exact absurd (Or.inl q) g
    · exact absurd (Or.inr q) g
    · subst q2
      rw [nI_clamp (by omega)]
      exact ⟨rfl, q1⟩
theorem ix_n {x : Int32} {n : Nat} (h : ix x n = none) : x < 0 ∨ nI n ≤ x := by
  unfold ix at h
  split at h
  · assumption
  · cases h
theorem ix_i {n i : Nat} (hn : n < 2 ^ 31) (h : i < n) : ix (nI i) n = some i := by
  unfold ix
  rw [if_neg, nI_clamp (by omega)]
  rintro (q | q)
  · exact nI_pos (by omega) q
  · exact nI_ge h hn q
theorem c_goBack {d : Nat} {h : qH} {x : sT} {tu : Nat} {ps im : List sT} {y : Int32} (F : Fin0 (hR h)) (s : St h x tu ps im) : ∃ h', (∀ Q, WM (d + 1) mX3_goBack [.ref (29 : Nat), .int y] h Q = Q (some (some (.int (if ix y im.length = none then 0 else 1)))) h') ∧ sx [29] h h' ∧ St h' (match ix y im.length with | none => x | some i => im.getD i (0, 0, 0)) tu (match ix y im.length with | none => ps | some _ => []) im := by
  have s0 := s
  obtain ⟨b, ⟨e0, e1, e2, e4, e5, e7⟩, t1, t2, t3, hp, hi⟩ := s
  cases hx : ix y im.length with
  | none =>
    refine ⟨h, fun Q => ?_, sx_refl, s0⟩
    rcases ix_n hx with g | g
    · simp (implicitDefEqProofs := false) only [eX3_goBack, rX3_goBack_0, rX3_goBack_1, rX3_goBack_4, rX3_goBack_5, rX3_goBack_5b, rX3_goBack_6, rX3_goBack_9, rX3_goBack_12, rX3_goBack_13, rX3_goBack_14, rX3_goBack_14b, rX3_goBack_15, rX3_goBack_15b, rX3_goBack_16, rX3_goBack_19, rX3_goBack_20, rX3_goBack_21, rX3_goBack_24, rX3_goBack_24b, rX3_goBack_25, rX3_goBack_26, rX3_goBack_29, rX3_goBack_30, kA_29, kB_29, pCX3_goBack, pSX3_goBack, pOX3_goBack, pLX3_goBack, g, kl_I, kl_J, kl_R, kl_T, kl_N, Nat.le_refl, Nat.zero_le, List.map_nil, List.map_cons, List.sum_nil, List.sum_cons, c_I, c_J, c_R, c_T, va_rf, hI_wI, hJ_wJ, hR_wR, hI_J, hI_R, hJ_I, hJ_R, hR_I, hR_J, hN_I, hN_J, hN_R, wI_I, wJ_J, upd_at, updL_at, kR_s, Option.toList, List.append_nil, List.nil_append, List.cons_append, if_true, if_false, reduceIte, Bool.false_eq_true, not_true_eq_false, not_false_eq_true, true_and, and_true, false_and, and_false, true_or, or_true,  Nat.reduceEqDiff, Nat.reduceAdd, Nat.reduceLeDiff]
    · have g2 : ¬ y < nI im.length := fun q => by
        have := Int32.lt_iff_toInt_lt.mp q
        have := Int32.le_iff_toInt_le.mp g
        omega
      simp (implicitDefEqProofs := false) only [eX3_goBack, rX3_goBack_0, rX3_goBack_1, rX3_goBack_4, rX3_goBack_5, rX3_goBack_5b, rX3_goBack_6, rX3_goBack_9, rX3_goBack_12, rX3_goBack_13, rX3_goBack_14, rX3_goBack_14b, rX3_goBack_15, rX3_goBack_15b, rX3_goBack_16, rX3_goBack_19, rX3_goBack_20, rX3_goBack_21, rX3_goBack_24, rX3_goBack_24b, rX3_goBack_25, rX3_goBack_26, rX3_goBack_29, rX3_goBack_30, kA_29, kB_29, pCX3_goBack, pSX3_goBack, pOX3_goBack, pLX3_goBack, e7, g2, kl_I, kl_J, kl_R, kl_T, kl_N, Nat.le_refl, Nat.zero_le, List.map_nil, List.map_cons, List.sum_nil, List.sum_cons, c_I, c_J, c_R, c_T, va_rf, hI_wI, hJ_wJ, hR_wR, hI_J, hI_R, hJ_I, hJ_R, hR_I, hR_J, hN_I, hN_J, hN_R, wI_I, wJ_J, upd_at, updL_at, kR_s, Option.toList, List.append_nil, List.nil_append, List.cons_append, if_true, if_false, reduceIte, Bool.false_eq_true, not_true_eq_false, not_false_eq_true, true_and, and_true, false_and, and_false, true_or, or_true,  Nat.reduceEqDiff, Nat.reduceAdd, Nat.reduceLeDiff]
      split <;> rfl
  | some i =>
    obtain ⟨rfl, hlt⟩ := ix_s (by omega) hx
    have v : vp_in (nI i) 3 := nI_vp (by omega) (by decide)
    have cl : (nI i).toNatClampNeg = i := nI_cl (by omega)
    have g1 : ¬ nI i < 0 := nI_pos (by omega)
    have g2 : nI i < nI im.length := nI_lt hlt (by omega)
    obtain ⟨f1, f2⟩ := hi i hlt
    refine ⟨wI h 29 (upd (upd (upd (upd (hI h 29) 0 (nI (im.getD i (0, 0, 0)).1)) 1 (nI (im.getD i (0, 0, 0)).2.1)) 2 (nI (im.getD i (0, 0, 0)).2.2)) 5 0), fun Q => ?_, sx_w sx_refl (by simp), f2, ?_, t1, by simp, t3, fun j hj => by simp at hj, ?_⟩
    · simp (implicitDefEqProofs := false) only [eX3_goBack, rX3_goBack_0, rX3_goBack_1, rX3_goBack_4, rX3_goBack_5, rX3_goBack_5b, rX3_goBack_6, rX3_goBack_9, rX3_goBack_12, rX3_goBack_13, rX3_goBack_14, rX3_goBack_14b, rX3_goBack_15, rX3_goBack_15b, rX3_goBack_16, rX3_goBack_19, rX3_goBack_20, rX3_goBack_21, rX3_goBack_24, rX3_goBack_24b, rX3_goBack_25, rX3_goBack_26, rX3_goBack_29, rX3_goBack_30, fin_29_3 F, fin_29_6 F, kA_29, kB_29, kA_31, kB_31, pCX3_goBack, pSX3_goBack, pOX3_goBack, pLX3_goBack, pCX3_unpack, pSX3_unpack, pOX3_unpack, pLX3_unpack, e7, g1, g2, v, cl, f1, c_unpack f2, reduceCtorEq, kl_I, kl_J, kl_R, kl_T, kl_N, Nat.le_refl, Nat.zero_le, List.map_nil, List.map_cons, List.sum_nil, List.sum_cons, c_I, c_J, c_R, c_T, va_rf, hI_wI, hJ_wJ, hR_wR, hI_J, hI_R, hJ_I, hJ_R, hR_I, hR_J, hN_I, hN_J, hN_R, wI_I, wJ_J, upd_at, updL_at, kR_s, Option.toList, List.append_nil, List.nil_append, List.cons_append, if_true, if_false, reduceIte, Bool.false_eq_true, not_true_eq_false, not_false_eq_true, true_and, and_true, false_and, and_false, true_or, or_true,  Nat.reduceEqDiff, Nat.reduceAdd, Nat.reduceLeDiff]
    · simp (implicitDefEqProofs := false) only [hI_wI, upd_at, e4, e7, kl_I, kl_J, kl_R, kl_T, kl_N, Nat.le_refl, Nat.zero_le, List.map_nil, List.map_cons, List.sum_nil, List.sum_cons, c_I, c_J, c_R, c_T, va_rf, hI_wI, hJ_wJ, hR_wR, hI_J, hI_R, hJ_I, hJ_R, hR_I, hR_J, hN_I, hN_J, hN_R, wI_I, wJ_J, upd_at, updL_at, kR_s, Option.toList, List.append_nil, List.nil_append, List.cons_append, if_true, if_false, reduceIte, Bool.false_eq_true, not_true_eq_false, not_false_eq_true, true_and, and_true, false_and, and_false, true_or, or_true,  Nat.reduceEqDiff, Nat.reduceAdd, Nat.reduceLeDiff]
      rfl
    · intro j hj
      simp (implicitDefEqProofs := false) only [hI_wI, kl_I, kl_J, kl_R, kl_T, kl_N, Nat.le_refl, Nat.zero_le, List.map_nil, List.map_cons, List.sum_nil, List.sum_cons, c_I, c_J, c_R, c_T, va_rf, hI_wI, hJ_wJ, hR_wR, hI_J, hI_R, hJ_I, hJ_R, hR_I, hR_J, hN_I, hN_J, hN_R, wI_I, wJ_J, upd_at, updL_at, kR_s, Option.toList, List.append_nil, List.nil_append, List.cons_append, if_true, if_false, reduceIte, Bool.false_eq_true, not_true_eq_false, not_false_eq_true, true_and, and_true, false_and, and_false, true_or, or_true,  Nat.reduceEqDiff, Nat.reduceAdd, Nat.reduceLeDiff]
      exact hi j hj
theorem c_sBegin {d : Nat} {h : qH} {x : sT} {tu : Nat} {ps im : List sT} {w : Nat} (hw : w < 64) (s : St h x tu ps im) : ∃ h', (∀ Q, WM d mX3_begin [.ref (29 : Nat), .int (nI w)] h Q = Q (some none) h') ∧ sx [29] h h' ∧ St h' (0, w, 0) tu [] [] := by
  obtain ⟨b, ⟨e0, e1, e2, e4, e5, e7⟩, t1, t2, t3, hp, hi⟩ := s
  refine ⟨wI h 29 (upd (upd (upd (upd (upd (hI h 29) 0 0) 1 (nI w)) 2 0) 5 0) 7 0), fun Q => ?_, sx_w sx_refl (by simp), ⟨by simp, hw, by simp⟩, ?_, t1, by simp, by simp, fun j hj => by simp at hj, fun j hj => by simp at hj⟩
  · simp (implicitDefEqProofs := false) only [eX3_begin, rX3_begin_0, rX3_begin_0b, rX3_begin_1, rX3_begin_2, rX3_begin_5, rX3_begin_5b, rX3_begin_6, rX3_begin_7, rX3_begin_10, rX3_begin_10b, rX3_begin_11, rX3_begin_12, rX3_begin_15, rX3_begin_15b, rX3_begin_16, rX3_begin_17, rX3_begin_20, rX3_begin_20b, rX3_begin_21, rX3_begin_22, rX3_begin_25, kA_29, kB_29, pCX3_begin, pSX3_begin, pOX3_begin, pLX3_begin, kl_I, kl_J, kl_R, kl_T, kl_N, Nat.le_refl, Nat.zero_le, List.map_nil, List.map_cons, List.sum_nil, List.sum_cons, c_I, c_J, c_R, c_T, va_rf, hI_wI, hJ_wJ, hR_wR, hI_J, hI_R, hJ_I, hJ_R, hR_I, hR_J, hN_I, hN_J, hN_R, wI_I, wJ_J, upd_at, updL_at, kR_s, Option.toList, List.append_nil, List.nil_append, List.cons_append, if_true, if_false, reduceIte, Bool.false_eq_true, not_true_eq_false, not_false_eq_true, true_and, and_true, false_and, and_false, true_or, or_true,  Nat.reduceEqDiff, Nat.reduceAdd, Nat.reduceLeDiff]
  · simp (implicitDefEqProofs := false) only [hI_wI, upd_at, e4, kl_I, kl_J, kl_R, kl_T, kl_N, Nat.le_refl, Nat.zero_le, List.map_nil, List.map_cons, List.sum_nil, List.sum_cons, c_I, c_J, c_R, c_T, va_rf, hI_wI, hJ_wJ, hR_wR, hI_J, hI_R, hJ_I, hJ_R, hR_I, hR_J, hN_I, hN_J, hN_R, wI_I, wJ_J, upd_at, updL_at, kR_s, Option.toList, List.append_nil, List.nil_append, List.cons_append, if_true, if_false, reduceIte, Bool.false_eq_true, not_true_eq_false, not_false_eq_true, true_and, and_true, false_and, and_false, true_or, or_true,  Nat.reduceEqDiff, Nat.reduceAdd, Nat.reduceLeDiff]
    exact ⟨rfl, rfl, rfl, rfl⟩
/-! ===== how many bits ===== -/
theorem bc_e : ∀ x, x < 64 → (let x0 := nI x; let y1 := x0 - ((x0.toUInt32 >>> ((1 : Int32).toUInt32 &&& Int32.toUInt32 31)).toInt32 &&& 1431655765); let y2 := (y1 &&& 858993459) + ((y1.toUInt32 >>> ((2 : Int32).toUInt32 &&& Int32.toUInt32 31)).toInt32 &&& 858993459); let y3 := y2 + (y2.toUInt32 >>> ((4 : Int32).toUInt32 &&& Int32.toUInt32 31)).toInt32 &&& 252645135; let y4 := y3 + (y3.toUInt32 >>> ((8 : Int32).toUInt32 &&& Int32.toUInt32 31)).toInt32; let y5 := y4 + (y4.toUInt32 >>> ((16 : Int32).toUInt32 &&& Int32.toUInt32 31)).toInt32; y5 &&& 63) = nI (popc 6 x) := by decide +kernel
theorem c_bitCount {d : Nat} {h : qH} {x : Nat} (hx : x < 64) : ∀ Q, WM d mJ6_bitCount_0f7a4 [.int (nI x)] h Q = Q (some (some (.int (nI (popc 6 x))))) h := by
  intro Q
  simp (implicitDefEqProofs := false) only [eJ6_bitCount_0f7a4, rJ6_bitCount_0f7a4_0, rJ6_bitCount_0f7a4_1, rJ6_bitCount_0f7a4_2, rJ6_bitCount_0f7a4_3, rJ6_bitCount_0f7a4_4, rJ6_bitCount_0f7a4_7, rJ6_bitCount_0f7a4_8, rJ6_bitCount_0f7a4_9, rJ6_bitCount_0f7a4_10, rJ6_bitCount_0f7a4_11, rJ6_bitCount_0f7a4_14, rJ6_bitCount_0f7a4_15, rJ6_bitCount_0f7a4_16, rJ6_bitCount_0f7a4_17, rJ6_bitCount_0f7a4_18, rJ6_bitCount_0f7a4_21, rJ6_bitCount_0f7a4_22, rJ6_bitCount_0f7a4_23, rJ6_bitCount_0f7a4_24, rJ6_bitCount_0f7a4_25, rJ6_bitCount_0f7a4_26, rJ6_bitCount_0f7a4_27, rJ6_bitCount_0f7a4_28, rJ6_bitCount_0f7a4_29, rJ6_bitCount_0f7a4_32, rJ6_bitCount_0f7a4_33, rJ6_bitCount_0f7a4_34, rJ6_bitCount_0f7a4_35, rJ6_bitCount_0f7a4_36, rJ6_bitCount_0f7a4_38, rJ6_bitCount_0f7a4_39, rJ6_bitCount_0f7a4_40, rJ6_bitCount_0f7a4_41, rJ6_bitCount_0f7a4_42, rJ6_bitCount_0f7a4_43, rJ6_bitCount_0f7a4_45, rJ6_bitCount_0f7a4_46, rJ6_bitCount_0f7a4_47, rJ6_bitCount_0f7a4_48, rJ6_bitCount_0f7a4_49, rJ6_bitCount_0f7a4_51, rJ6_bitCount_0f7a4_52, pCJ6_bitCount_0f7a4, pSJ6_bitCount_0f7a4, pOJ6_bitCount_0f7a4, pLJ6_bitCount_0f7a4, kl_I, kl_J, kl_R, kl_T, kl_N, Nat.le_refl, Nat.zero_le, List.map_nil, List.map_cons, List.sum_nil, List.sum_cons, c_I, c_J, c_R, c_T, va_rf, hI_wI, hJ_wJ, hR_wR, hI_J, hI_R, hJ_I, hJ_R, hR_I, hR_J, hN_I, hN_J, hN_R, wI_I, wJ_J, upd_at, updL_at, kR_s, Option.toList, List.append_nil, List.nil_append, List.cons_append, if_true, if_false, reduceIte, Bool.false_eq_true, not_true_eq_false, not_false_eq_true, true_and, and_true, false_and, and_false, true_or, or_true,  Nat.reduceEqDiff, Nat.reduceAdd, Nat.reduceLeDiff]
  rw [← bc_e x hx]
