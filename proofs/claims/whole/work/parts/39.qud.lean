/-! ===== safe, cut, guesses, two ===== -/
theorem nal : ∀ x, x < 64 → ∀ y, y < 64 → (nI x &&& (nI y ^^^ (-1)) = 0 ↔ x &&& y = x) := by decide +kernel
noncomputable def sfL (a : aS) (t al y : Nat) : Nat → Nat → Option Nat → Nat → Option Nat
  | 0, _, b, _ => b
  | k + 1, i, b, fw => if i &&& al = 0 ∧ popc 6 i < fw ∧ bbN a (t ||| i) y &&& al = bbN a (t ||| i) y then sfL a t al y k (i + 1) (some i) (popc 6 i) else sfL a t al y k (i + 1) b fw
noncomputable def sSafe (S : AS) (y : Int32) : Nat × Int32 := if aN (sA S) = 0 then (1, -1) else if y < 0 ∨ 90 < y then (2, -1) else (0, oI (sfL (sA S) (sX S).1 (bbN (sA S) (sX S).1 (sX S).2.2) y.toNatClampNeg (2 ^ aN (sA S)) 0 none 7))
theorem bbN_lt {a : aS} (w : aW a) {t y : Nat} : bbN a t y < 64 := Nat.lt_of_lt_of_le (bm_lt _ _) (p6 w.1)
theorem l_safe {d : Nat} {h : qH} {s t y al : Nat} {a : aS} (F : Fin0 (hR h)) (r0 : hR h 0 0 = some s) (r2 : hR h 32 0 = some s) (w : cS h s a) (b : bT h a) (ht : t < 2 ^ aN a) (hy : y ≤ 90) (hal : al < 64) (e0 : hI h 29 0 = nI t) {Q : Option (Option Value) → qH → Prop} : ∀ (k i : Nat), i + k = 2 ^ aN a → ∀ (bo : Option Nat) (fw : Nat) (_ : fw ≤ 7), WP (d + 2) mX7_safe (0, 0) 52 [some (.ref (0 : Nat)), some (.int (nI y)), some (.int (nI al)), some (.int (oI bo)), some (.int (nI fw)), some (.int (nI i))] [] h Q = Q (some (some (.int (oI (sfL a t al y k i bo fw))))) h := by
  have hs := w.1
  have ww := w.2.1
  have w3 := w.2.2.1
  have n6 := ww.1
  have p64 := p6 n6
  intro k
  induction k with
  | zero =>
    intro i hi bo fw hw
    obtain rfl : i = 2 ^ aN a := by omega
    simp (implicitDefEqProofs := false) only [rX7_safe_52, rX7_safe_54, rX7_safe_55, rX7_safe_55b, rX7_safe_56, rX7_safe_59, rX7_safe_62, rX7_safe_63, rX7_safe_66, rX7_safe_68, rX7_safe_69, rX7_safe_70, rX7_safe_73, rX7_safe_75, rX7_safe_78, rX7_safe_80, rX7_safe_83, rX7_safe_83b, rX7_safe_84, rX7_safe_87, rX7_safe_87b, rX7_safe_88, rX7_safe_91, rX7_safe_94, rX7_safe_96, rX7_safe_97, rX7_safe_98, rX7_safe_101, rX7_safe_102, rX7_safe_103, rX7_safe_104, rX7_safe_105, rX7_safe_108, rX7_safe_110, rX7_safe_113, rX7_safe_115, rX7_safe_117, rX7_safe_118, rX7_safe_124, rX7_safe_125, kS0 hs, kS1 hs, kT1 hs, fS1 hs F, kS2 hs, kT2 hs, fS2 hs F, kS3 hs, kT3 hs, fS3 hs F, kS4 hs, kT4 hs, fS4 hs F, kS5 hs, kT5 hs, fS5 hs F, kS6 hs, kT6 hs, fS6 hs F, kS7 hs, kT7 hs, fS7 hs F, kS8 hs, kT8 hs, fS8 hs F, kS9 hs, kT9 hs, fS9 hs F, kS10 hs, kT10 hs, fS10 hs F, kS11 hs, kT11 hs, fS11 hs F, nS hs, nSs hs, fin_0_2 F, fin_0_3 F, fin_0_4 F, fin_0_5 F, fin_0_6 F, fin_0_7 F, kA_0, kB_0, kA_29, kB_29, kA_32, kB_32, r0, pCX7_safe, pSX7_safe, pOX7_safe, pLX7_safe, w3.2.1, shl_n n6, Int32.le_refl, sfL, kl_I, kl_J, kl_R, kl_T, kl_N, Nat.le_refl, Nat.zero_le, List.map_nil, List.map_cons, List.sum_nil, List.sum_cons, c_I, c_J, c_R, c_T, va_rf, hI_wI, hJ_wJ, hR_wR, hI_J, hI_R, hJ_I, hJ_R, hR_I, hR_J, hN_I, hN_J, hN_R, wI_I, wJ_J, upd_at, updL_at, kR_s, Option.toList, List.append_nil, List.nil_append, List.cons_append, if_true, if_false, reduceIte, Bool.false_eq_true, not_true_eq_false, not_false_eq_true, true_and, and_true, false_and, and_false, true_or, or_true,  Nat.reduceEqDiff, Nat.reduceAdd, Nat.reduceLeDiff]
  | succ k ih =>
    intro i hi bo fw hw
    have hl : i < 2 ^ aN a := by omega
    have g1 : ¬ nI (2 ^ aN a) ≤ nI i := nI_ge hl (by omega)
    have bc := c_bitCount (d := d + 1) (h := h) (x := i) (by omega)
    have ti : t ||| i < 2 ^ aN a := Nat.or_lt_two_pow ht hl
    have bb := c_burntBy (d := d) F r2 w b ti (y := y) (by omega)
    have b6 := bbN_lt ww (t := t ||| i) (y := y)
    have al0 : i &&& al ≤ i := Nat.and_le_left
    have q1 : (nI (i &&& al) = 0) = (i &&& al = 0) := nq (x := i &&& al) (k := 0) (c := 0) rfl (by omega) (by omega)
    have pl := popc_le 6 i
    have q2 : (nI fw ≤ nI (popc 6 i)) = (fw ≤ popc 6 i) := propext (nI_leI (by omega) (by omega))
    have q3 : (nI (bbN a (t ||| i) y) &&& (nI al ^^^ (-1)) = 0) = (bbN a (t ||| i) y &&& al = bbN a (t ||| i) y) := propext (nal _ b6 _ hal)
    rw [sfL]
    by_cases c1 : i &&& al = 0
    · by_cases c2 : popc 6 i < fw
      · by_cases c3 : bbN a (t ||| i) y &&& al = bbN a (t ||| i) y
        · rw [if_pos ⟨c1, c2, c3⟩]
          simp (implicitDefEqProofs := false) only [rX7_safe_52, rX7_safe_54, rX7_safe_55, rX7_safe_55b, rX7_safe_56, rX7_safe_59, rX7_safe_62, rX7_safe_63, rX7_safe_66, rX7_safe_68, rX7_safe_69, rX7_safe_70, rX7_safe_73, rX7_safe_75, rX7_safe_78, rX7_safe_80, rX7_safe_83, rX7_safe_83b, rX7_safe_84, rX7_safe_87, rX7_safe_87b, rX7_safe_88, rX7_safe_91, rX7_safe_94, rX7_safe_96, rX7_safe_97, rX7_safe_98, rX7_safe_101, rX7_safe_102, rX7_safe_103, rX7_safe_104, rX7_safe_105, rX7_safe_108, rX7_safe_110, rX7_safe_113, rX7_safe_115, rX7_safe_117, rX7_safe_118, kS0 hs, kS1 hs, kT1 hs, fS1 hs F, kS2 hs, kT2 hs, fS2 hs F, kS3 hs, kT3 hs, fS3 hs F, kS4 hs, kT4 hs, fS4 hs F, kS5 hs, kT5 hs, fS5 hs F, kS6 hs, kT6 hs, fS6 hs F, kS7 hs, kT7 hs, fS7 hs F, kS8 hs, kT8 hs, fS8 hs F, kS9 hs, kT9 hs, fS9 hs F, kS10 hs, kT10 hs, fS10 hs F, kS11 hs, kT11 hs, fS11 hs F, nS hs, nSs hs, fin_0_2 F, fin_0_3 F, fin_0_4 F, fin_0_5 F, fin_0_6 F, fin_0_7 F, kA_0, kB_0, kA_29, kB_29, kA_32, kB_32, r0, pCX7_safe, pSX7_safe, pOX7_safe, pLX7_safe, pCX0_burntBy, pSX0_burntBy, pOX0_burntBy, pLX0_burntBy, pCJ6_bitCount_0f7a4, pSJ6_bitCount_0f7a4, pOJ6_bitCount_0f7a4, pLJ6_bitCount_0f7a4, w3.2.1, shl_n n6, g1, bt_and, q1, c1, nI_0, bc, q2, show ¬ fw ≤ popc 6 i from by omega, e0, bt_or, bb, q3, c3, kl_I, kl_J, kl_R, kl_T, kl_N, Nat.le_refl, Nat.zero_le, List.map_nil, List.map_cons, List.sum_nil, List.sum_cons, c_I, c_J, c_R, c_T, va_rf, hI_wI, hJ_wJ, hR_wR, hI_J, hI_R, hJ_I, hJ_R, hR_I, hR_J, hN_I, hN_J, hN_R, wI_I, wJ_J, upd_at, updL_at, kR_s, Option.toList, List.append_nil, List.nil_append, List.cons_append, if_true, if_false, reduceIte, Bool.false_eq_true, not_true_eq_false, not_false_eq_true, true_and, and_true, false_and, and_false, true_or, or_true,  Nat.reduceEqDiff, Nat.reduceAdd, Nat.reduceLeDiff]
          rw [rX7_safe_121, nI_1]
          exact ih (i + 1) (by omega) (some i) _ (by omega)
        · rw [if_neg (fun z => c3 z.2.2)]
          simp (implicitDefEqProofs := false) only [rX7_safe_52, rX7_safe_54, rX7_safe_55, rX7_safe_55b, rX7_safe_56, rX7_safe_59, rX7_safe_62, rX7_safe_63, rX7_safe_66, rX7_safe_68, rX7_safe_69, rX7_safe_70, rX7_safe_73, rX7_safe_75, rX7_safe_78, rX7_safe_80, rX7_safe_83, rX7_safe_83b, rX7_safe_84, rX7_safe_87, rX7_safe_87b, rX7_safe_88, rX7_safe_91, rX7_safe_94, rX7_safe_96, rX7_safe_97, rX7_safe_98, rX7_safe_101, rX7_safe_102, rX7_safe_103, rX7_safe_104, rX7_safe_105, rX7_safe_108, rX7_safe_110, rX7_safe_113, rX7_safe_115, rX7_safe_117, rX7_safe_118, kS0 hs, kS1 hs, kT1 hs, fS1 hs F, kS2 hs, kT2 hs, fS2 hs F, kS3 hs, kT3 hs, fS3 hs F, kS4 hs, kT4 hs, fS4 hs F, kS5 hs, kT5 hs, fS5 hs F, kS6 hs, kT6 hs, fS6 hs F, kS7 hs, kT7 hs, fS7 hs F, kS8 hs, kT8 hs, fS8 hs F, kS9 hs, kT9 hs, fS9 hs F, kS10 hs, kT10 hs, fS10 hs F, kS11 hs, kT11 hs, fS11 hs F, nS hs, nSs hs, fin_0_2 F, fin_0_3 F, fin_0_4 F, fin_0_5 F, fin_0_6 F, fin_0_7 F, kA_0, kB_0, kA_29, kB_29, kA_32, kB_32, r0, pCX7_safe, pSX7_safe, pOX7_safe, pLX7_safe, pCX0_burntBy, pSX0_burntBy, pOX0_burntBy, pLX0_burntBy, pCJ6_bitCount_0f7a4, pSJ6_bitCount_0f7a4, pOJ6_bitCount_0f7a4, pLJ6_bitCount_0f7a4, w3.2.1, shl_n n6, g1, bt_and, q1, c1, nI_0, bc, q2, show ¬ fw ≤ popc 6 i from by omega, e0, bt_or, bb, q3, c3, kl_I, kl_J, kl_R, kl_T, kl_N, Nat.le_refl, Nat.zero_le, List.map_nil, List.map_cons, List.sum_nil, List.sum_cons, c_I, c_J, c_R, c_T, va_rf, hI_wI, hJ_wJ, hR_wR, hI_J, hI_R, hJ_I, hJ_R, hR_I, hR_J, hN_I, hN_J, hN_R, wI_I, wJ_J, upd_at, updL_at, kR_s, Option.toList, List.append_nil, List.nil_append, List.cons_append, if_true, if_false, reduceIte, Bool.false_eq_true, not_true_eq_false, not_false_eq_true, true_and, and_true, false_and, and_false, true_or, or_true,  Nat.reduceEqDiff, Nat.reduceAdd, Nat.reduceLeDiff]
          rw [rX7_safe_121, nI_1]
          exact ih (i + 1) (by omega) bo _ hw
      · rw [if_neg (fun z => c2 z.2.1)]
        simp (implicitDefEqProofs := false) only [rX7_safe_52, rX7_safe_54, rX7_safe_55, rX7_safe_55b, rX7_safe_56, rX7_safe_59, rX7_safe_62, rX7_safe_63, rX7_safe_66, rX7_safe_68, rX7_safe_69, rX7_safe_70, rX7_safe_73, rX7_safe_75, rX7_safe_78, rX7_safe_80, rX7_safe_83, rX7_safe_83b, rX7_safe_84, rX7_safe_87, rX7_safe_87b, rX7_safe_88, rX7_safe_91, rX7_safe_94, rX7_safe_96, rX7_safe_97, rX7_safe_98, rX7_safe_101, rX7_safe_102, rX7_safe_103, rX7_safe_104, rX7_safe_105, rX7_safe_108, rX7_safe_110, rX7_safe_113, rX7_safe_115, rX7_safe_117, rX7_safe_118, kS0 hs, kS1 hs, kT1 hs, fS1 hs F, kS2 hs, kT2 hs, fS2 hs F, kS3 hs, kT3 hs, fS3 hs F, kS4 hs, kT4 hs, fS4 hs F, kS5 hs, kT5 hs, fS5 hs F, kS6 hs, kT6 hs, fS6 hs F, kS7 hs, kT7 hs, fS7 hs F, kS8 hs, kT8 hs, fS8 hs F, kS9 hs, kT9 hs, fS9 hs F, kS10 hs, kT10 hs, fS10 hs F, kS11 hs, kT11 hs, fS11 hs F, nS hs, nSs hs, fin_0_2 F, fin_0_3 F, fin_0_4 F, fin_0_5 F, fin_0_6 F, fin_0_7 F, kA_0, kB_0, kA_29, kB_29, kA_32, kB_32, r0, pCX7_safe, pSX7_safe, pOX7_safe, pLX7_safe, pCX0_burntBy, pSX0_burntBy, pOX0_burntBy, pLX0_burntBy, pCJ6_bitCount_0f7a4, pSJ6_bitCount_0f7a4, pOJ6_bitCount_0f7a4, pLJ6_bitCount_0f7a4, w3.2.1, shl_n n6, g1, bt_and, q1, c1, nI_0, bc, q2, show fw ≤ popc 6 i from by omega, kl_I, kl_J, kl_R, kl_T, kl_N, Nat.le_refl, Nat.zero_le, List.map_nil, List.map_cons, List.sum_nil, List.sum_cons, c_I, c_J, c_R, c_T, va_rf, hI_wI, hJ_wJ, hR_wR, hI_J, hI_R, hJ_I, hJ_R, hR_I, hR_J, hN_I, hN_J, hN_R, wI_I, wJ_J, upd_at, updL_at, kR_s, Option.toList, List.append_nil, List.nil_append, List.cons_append, if_true, if_false, reduceIte, Bool.false_eq_true, not_true_eq_false, not_false_eq_true, true_and, and_true, false_and, and_false, true_or, or_true,  Nat.reduceEqDiff, Nat.reduceAdd, Nat.reduceLeDiff]
        rw [rX7_safe_121, nI_1]
        exact ih (i + 1) (by omega) bo _ hw
    · rw [if_neg (fun z => c1 z.1)]
      simp (implicitDefEqProofs := false) only [rX7_safe_52, rX7_safe_54, rX7_safe_55, rX7_safe_55b, rX7_safe_56, rX7_safe_59, rX7_safe_62, rX7_safe_63, rX7_safe_66, rX7_safe_68, rX7_safe_69, rX7_safe_70, rX7_safe_73, rX7_safe_75, rX7_safe_78, rX7_safe_80, rX7_safe_83, rX7_safe_83b, rX7_safe_84, rX7_safe_87, rX7_safe_87b, rX7_safe_88, rX7_safe_91, rX7_safe_94, rX7_safe_96, rX7_safe_97, rX7_safe_98, rX7_safe_101, rX7_safe_102, rX7_safe_103, rX7_safe_104, rX7_safe_105, rX7_safe_108, rX7_safe_110, rX7_safe_113, rX7_safe_115, rX7_safe_117, rX7_safe_118, kS0 hs, kS1 hs, kT1 hs, fS1 hs F, kS2 hs, kT2 hs, fS2 hs F, kS3 hs, kT3 hs, fS3 hs F, kS4 hs, kT4 hs, fS4 hs F, kS5 hs, kT5 hs, fS5 hs F, kS6 hs, kT6 hs, fS6 hs F, kS7 hs, kT7 hs, fS7 hs F, kS8 hs, kT8 hs, fS8 hs F, kS9 hs, kT9 hs, fS9 hs F, kS10 hs, kT10 hs, fS10 hs F, kS11 hs, kT11 hs, fS11 hs F, nS hs, nSs hs, fin_0_2 F, fin_0_3 F, fin_0_4 F, fin_0_5 F, fin_0_6 F, fin_0_7 F, kA_0, kB_0, kA_29, kB_29, kA_32, kB_32, r0, pCX7_safe, pSX7_safe, pOX7_safe, pLX7_safe, pCX0_burntBy, pSX0_burntBy, pOX0_burntBy, pLX0_burntBy, pCJ6_bitCount_0f7a4, pSJ6_bitCount_0f7a4, pOJ6_bitCount_0f7a4, pLJ6_bitCount_0f7a4, w3.2.1, shl_n n6, g1, bt_and, q1, c1, kl_I, kl_J, kl_R, kl_T, kl_N, Nat.le_refl, Nat.zero_le, List.map_nil, List.map_cons, List.sum_nil, List.sum_cons, c_I, c_J, c_R, c_T, va_rf, hI_wI, hJ_wJ, hR_wR, hI_J, hI_R, hJ_I, hJ_R, hR_I, hR_J, hN_I, hN_J, hN_R, wI_I, wJ_J, upd_at, updL_at, kR_s, Option.toList, List.append_nil, List.nil_append, List.cons_append, if_true, if_false, reduceIte, Bool.false_eq_true, not_true_eq_false, not_false_eq_true, true_and, and_true, false_and, and_false, true_or, or_true,  Nat.reduceEqDiff, Nat.reduceAdd, Nat.reduceLeDiff]
      rw [rX7_safe_121, nI_1]
      exact ih (i + 1) (by omega) bo _ hw
theorem q_safe {d : Nat} {h : qH} {S : AS} {y : Int32} (I : CI h S) : qy (d + 10) mX7_safe [.ref (0 : Nat), .int y] h S (sSafe S y).1 (some (.int (sSafe S y).2)) := by
  obtain ⟨s, tu, F, ⟨r0, r1, r2⟩, w, b, k, st, wc, gc, ⟨tbx, tbp, tbm⟩, tp, e8, e9, ep⟩ := id I
  obtain ⟨e0, e1, e2, e4, e5, e7⟩ := st.2.1
  have hs := w.1
  have ww := w.2.1
  have w3 := w.2.2.1
  have n6 := ww.1
  have p64 := p6 n6
  have bx := st.1
  have F1 : Fin0 (hR (tr h 0)) := F
  have w1 : cS (tr h 0) s (sA S) := cS_tr w
  have b1 : bT (tr h 0) (sA S) := bT_sx b tr_sx (by simp)
  have hf1 : hR (tr h 0) 32 0 = some s := r2
  have ns := c_noStreet (d := d + 8) r0 w
  have ou := fun v => c_outside (d := d + 8) (h := tr h v) (y := y) (lo := 0) (hi := 90)
  by_cases c1 : aN (sA S) = 0
  · rw [sSafe, if_pos c1]
    exact qy_tr (v := 1) I (by decide) (fun Q => by
      simp (implicitDefEqProofs := false) only [eX7_safe, rX7_safe_0, rX7_safe_0b, rX7_safe_1, rX7_safe_4, rX7_safe_7, rX7_safe_7b, rX7_safe_8, rX7_safe_9, rX7_safe_10, rX7_safe_12, rX7_safe_15, rX7_safe_18, rX7_safe_19, kS0 hs, kS1 hs, kT1 hs, fS1 hs F, kS2 hs, kT2 hs, fS2 hs F, kS3 hs, kT3 hs, fS3 hs F, kS4 hs, kT4 hs, fS4 hs F, kS5 hs, kT5 hs, fS5 hs F, kS6 hs, kT6 hs, fS6 hs F, kS7 hs, kT7 hs, fS7 hs F, kS8 hs, kT8 hs, fS8 hs F, kS9 hs, kT9 hs, fS9 hs F, kS10 hs, kT10 hs, fS10 hs F, kS11 hs, kT11 hs, fS11 hs F, nS hs, nSs hs, fin_0_2 F, fin_0_3 F, fin_0_4 F, fin_0_5 F, fin_0_6 F, fin_0_7 F, kA_0, kB_0, r0, r2, e0, e1, e2, pCX7_safe, pSX7_safe, pOX7_safe, pLX7_safe, pCX7_noStreet, pSX7_noStreet, pOX7_noStreet, pLX7_noStreet, pCX7_noHouse, pSX7_noHouse, pOX7_noHouse, pLX7_noHouse, pCX7_outside, pSX7_outside, pOX7_outside, pLX7_outside, pCX7_refuse, pSX7_refuse, pOX7_refuse, pLX7_refuse, ns, c1, show nI 1 = 1 from rfl, nI_0, decide_true, decide_false, bI_t, bI_f, reduceCtorEq, or_self, show ¬ (1 : Int32) = 0 from by decide, tr_R, tr_tr, tr_25, tr_26, tr_27, tr_28, tr_29, tr_30, tr_31, tr_32, tr_33, tr_34, tr_35, tr_36, tr_37, tr_38, tr_39, tr_40, tr_41, tr_42, tr_43, tr_s hs, tr_s1 hs, tr_s2 hs, tr_s3 hs, tr_s4 hs, tr_s5 hs, tr_s6 hs, tr_s7 hs, tr_s8 hs, tr_s9 hs, tr_s10 hs, tr_s11 hs, kl_I, kl_J, kl_R, kl_T, kl_N, Nat.le_refl, Nat.zero_le, List.map_nil, List.map_cons, List.sum_nil, List.sum_cons, c_I, c_J, c_R, c_T, va_rf, hI_wI, hJ_wJ, hR_wR, hI_J, hI_R, hJ_I, hJ_R, hR_I, hR_J, hN_I, hN_J, hN_R, wI_I, wJ_J, upd_at, updL_at, kR_s, Option.toList, List.append_nil, List.nil_append, List.cons_append, if_true, if_false, reduceIte, Bool.false_eq_true, not_true_eq_false, not_false_eq_true, true_and, and_true, false_and, and_false, true_or, or_true,  Nat.reduceEqDiff, Nat.reduceAdd, Nat.reduceLeDiff])
  · rw [sSafe, if_neg c1]
    by_cases c2 : y < 0 ∨ 90 < y
    · rw [if_pos c2]
      exact qy_tr (v := 2) I (by decide) (fun Q => by
        simp (implicitDefEqProofs := false) only [eX7_safe, rX7_safe_0, rX7_safe_0b, rX7_safe_1, rX7_safe_4, rX7_safe_7, rX7_safe_7b, rX7_safe_8, rX7_safe_9, rX7_safe_10, rX7_safe_12, rX7_safe_15, rX7_safe_18, rX7_safe_19, kS0 hs, kS1 hs, kT1 hs, fS1 hs F, kS2 hs, kT2 hs, fS2 hs F, kS3 hs, kT3 hs, fS3 hs F, kS4 hs, kT4 hs, fS4 hs F, kS5 hs, kT5 hs, fS5 hs F, kS6 hs, kT6 hs, fS6 hs F, kS7 hs, kT7 hs, fS7 hs F, kS8 hs, kT8 hs, fS8 hs F, kS9 hs, kT9 hs, fS9 hs F, kS10 hs, kT10 hs, fS10 hs F, kS11 hs, kT11 hs, fS11 hs F, nS hs, nSs hs, fin_0_2 F, fin_0_3 F, fin_0_4 F, fin_0_5 F, fin_0_6 F, fin_0_7 F, kA_0, kB_0, kA_29, kB_29, r0, r2, e0, e1, e2, pCX7_safe, pSX7_safe, pOX7_safe, pLX7_safe, pCX7_noStreet, pSX7_noStreet, pOX7_noStreet, pLX7_noStreet, pCX7_noHouse, pSX7_noHouse, pOX7_noHouse, pLX7_noHouse, pCX7_outside, pSX7_outside, pOX7_outside, pLX7_outside, pCX7_refuse, pSX7_refuse, pOX7_refuse, pLX7_refuse, ns, c1, ou, c2, show nI 2 = 2 from rfl, nI_0, decide_true, decide_false, bI_t, bI_f, reduceCtorEq, or_self, show ¬ (1 : Int32) = 0 from by decide, tr_R, tr_tr, tr_25, tr_26, tr_27, tr_28, tr_29, tr_30, tr_31, tr_32, tr_33, tr_34, tr_35, tr_36, tr_37, tr_38, tr_39, tr_40, tr_41, tr_42, tr_43, tr_s hs, tr_s1 hs, tr_s2 hs, tr_s3 hs, tr_s4 hs, tr_s5 hs, tr_s6 hs, tr_s7 hs, tr_s8 hs, tr_s9 hs, tr_s10 hs, tr_s11 hs, kl_I, kl_J, kl_R, kl_T, kl_N, Nat.le_refl, Nat.zero_le, List.map_nil, List.map_cons, List.sum_nil, List.sum_cons, c_I, c_J, c_R, c_T, va_rf, hI_wI, hJ_wJ, hR_wR, hI_J, hI_R, hJ_I, hJ_R, hR_I, hR_J, hN_I, hN_J, hN_R, wI_I, wJ_J, upd_at, updL_at, kR_s, Option.toList, List.append_nil, List.nil_append, List.cons_append, if_true, if_false, reduceIte, Bool.false_eq_true, not_true_eq_false, not_false_eq_true, true_and, and_true, false_and, and_false, true_or, or_true,  Nat.reduceEqDiff, Nat.reduceAdd, Nat.reduceLeDiff])
    · rw [if_neg c2]
      obtain ⟨i, hi, rfl⟩ := dy c2
      have nn := bx.2.2
      have bb := c_burntBy (d := d + 8) F1 hf1 w1 b1 tbx.1 (y := (sX S).2.2) (by omega)
      exact qy_tr (v := 0) I (by decide) (fun Q => by
        have l := l_safe (d := d + 8) (Q := Q) F1 (show hR (tr h 0) 0 0 = some s from r0) hf1 w1 b1 tbx.1 hi (bbN_lt ww (t := (sX S).1) (y := (sX S).2.2)) (by rw [tr_29]; exact e0) (2 ^ aN (sA S)) 0 (by omega) none 7 (by omega)
        simp only [oI_no, nI_0] at l
        simp (implicitDefEqProofs := false) only [eX7_safe, rX7_safe_0, rX7_safe_0b, rX7_safe_1, rX7_safe_4, rX7_safe_7, rX7_safe_7b, rX7_safe_8, rX7_safe_9, rX7_safe_10, rX7_safe_12, rX7_safe_15, rX7_safe_18, rX7_safe_19, rX7_safe_20, rX7_safe_20b, rX7_safe_21, rX7_safe_24, rX7_safe_24b, rX7_safe_25, rX7_safe_28, rX7_safe_31, rX7_safe_31b, rX7_safe_32, rX7_safe_35, rX7_safe_38, rX7_safe_41, rX7_safe_42, rX7_safe_44, rX7_safe_45, rX7_safe_47, rX7_safe_49, rX7_safe_50, kS0 hs, kS1 hs, kT1 hs, fS1 hs F, kS2 hs, kT2 hs, fS2 hs F, kS3 hs, kT3 hs, fS3 hs F, kS4 hs, kT4 hs, fS4 hs F, kS5 hs, kT5 hs, fS5 hs F, kS6 hs, kT6 hs, fS6 hs F, kS7 hs, kT7 hs, fS7 hs F, kS8 hs, kT8 hs, fS8 hs F, kS9 hs, kT9 hs, fS9 hs F, kS10 hs, kT10 hs, fS10 hs F, kS11 hs, kT11 hs, fS11 hs F, nS hs, nSs hs, fin_0_2 F, fin_0_3 F, fin_0_4 F, fin_0_5 F, fin_0_6 F, fin_0_7 F, kA_0, kB_0, kA_29, kB_29, kA_32, kB_32, r0, r2, e0, e1, e2, pCX7_safe, pSX7_safe, pOX7_safe, pLX7_safe, pCX7_noStreet, pSX7_noStreet, pOX7_noStreet, pLX7_noStreet, pCX7_noHouse, pSX7_noHouse, pOX7_noHouse, pLX7_noHouse, pCX7_outside, pSX7_outside, pOX7_outside, pLX7_outside, pCX7_refuse, pSX7_refuse, pOX7_refuse, pLX7_refuse, pCX0_burntBy, pSX0_burntBy, pOX0_burntBy, pLX0_burntBy, ns, c1, ou, c2, bb, nI_cl (n := i) (by omega), nI_0, decide_true, decide_false, bI_t, bI_f, reduceCtorEq, or_self, show ¬ (1 : Int32) = 0 from by decide, tr_R, tr_tr, tr_25, tr_26, tr_27, tr_28, tr_29, tr_30, tr_31, tr_32, tr_33, tr_34, tr_35, tr_36, tr_37, tr_38, tr_39, tr_40, tr_41, tr_42, tr_43, tr_s hs, tr_s1 hs, tr_s2 hs, tr_s3 hs, tr_s4 hs, tr_s5 hs, tr_s6 hs, tr_s7 hs, tr_s8 hs, tr_s9 hs, tr_s10 hs, tr_s11 hs, kl_I, kl_J, kl_R, kl_T, kl_N, Nat.le_refl, Nat.zero_le, List.map_nil, List.map_cons, List.sum_nil, List.sum_cons, c_I, c_J, c_R, c_T, va_rf, hI_wI, hJ_wJ, hR_wR, hI_J, hI_R, hJ_I, hJ_R, hR_I, hR_J, hN_I, hN_J, hN_R, wI_I, wJ_J, upd_at, updL_at, kR_s, Option.toList, List.append_nil, List.nil_append, List.cons_append, if_true, if_false, reduceIte, Bool.false_eq_true, not_true_eq_false, not_false_eq_true, true_and, and_true, false_and, and_false, true_or, or_true,  Nat.reduceEqDiff, Nat.reduceAdd, Nat.reduceLeDiff]
        exact l)
noncomputable def evW (a : aS) (t i : Nat) : Nat := cnN (sprN a (cutN a t) (some i) (ownN a t 63)) (aN a)
noncomputable def bcL (a : aS) (t : Nat) : Nat → Nat → Option Nat → Nat → Option Nat
  | 0, _, b, _ => b
  | k + 1, i, b, fw => if evW a t i < fw then bcL a t k (i + 1) (some i) (evW a t i) else bcL a t k (i + 1) b fw
noncomputable def sBestCut (S : AS) : Nat × Int32 := if aN (sA S) = 0 then (1, -1) else (0, oI (bcL (sA S) (sX S).1 (aSp (sA S)) 0 none (evN (sA S) (sX S).1)))
theorem cnN_le {r : Nat → Nat} : ∀ n, cnN r n ≤ n
  | 0 => Nat.le_refl _
  | n + 1 => by
    have := cnN_le (r := r) n
    rw [cnN]; split <;> omega
theorem l_bestCut {d : Nat} {s t : Nat} {a : aS} (ht : t < 64) : ∀ (k i : Nat), i + k = aSp a → ∀ (h : qH) (F : Fin0 (hR h)) (r0 : hR h 0 0 = some s) (r2 : hR h 32 0 = some s) (w : cS h s a) (e0 : hI h 29 0 = nI t) (bo : Option Nat) (fw : Nat) (o4 : Option Value) (_ : fw ≤ 6), ∃ h', (∀ Q, WP (d + 3) mX7_bestCut (0, 0) 26 [some (.ref (0 : Nat)), some (.int (oI bo)), some (.int (nI fw)), some (.int (nI i)), o4] [] h Q = Q (some (some (.int (oI (bcL a t k i bo fw))))) h') ∧ sx [33, 34] h h' := by
  intro k
  induction k with
  | zero =>
    intro i hi h F r0 r2 w e0 bo fw o4 hw
    have hs := w.1
    have w3 := w.2.2.1
    obtain rfl : i = aSp a := by omega
    refine ⟨h, fun Q => ?_, sx_refl⟩
    simp (implicitDefEqProofs := false) only [rX7_bestCut_26, rX7_bestCut_27, rX7_bestCut_27b, rX7_bestCut_28, rX7_bestCut_31, rX7_bestCut_34, rX7_bestCut_37, rX7_bestCut_37b, rX7_bestCut_38, rX7_bestCut_41, rX7_bestCut_41b, rX7_bestCut_42, rX7_bestCut_45, rX7_bestCut_48, rX7_bestCut_49, rX7_bestCut_52, rX7_bestCut_54, rX7_bestCut_56, rX7_bestCut_57, rX7_bestCut_60, rX7_bestCut_62, rX7_bestCut_63, rX7_bestCut_64, rX7_bestCut_65, rX7_bestCut_71, rX7_bestCut_72, kS0 hs, kS1 hs, kT1 hs, fS1 hs F, kS2 hs, kT2 hs, fS2 hs F, kS3 hs, kT3 hs, fS3 hs F, kS4 hs, kT4 hs, fS4 hs F, kS5 hs, kT5 hs, fS5 hs F, kS6 hs, kT6 hs, fS6 hs F, kS7 hs, kT7 hs, fS7 hs F, kS8 hs, kT8 hs, fS8 hs F, kS9 hs, kT9 hs, fS9 hs F, kS10 hs, kT10 hs, fS10 hs F, kS11 hs, kT11 hs, fS11 hs F, nS hs, nSs hs, fin_0_2 F, fin_0_3 F, fin_0_4 F, fin_0_5 F, fin_0_6 F, fin_0_7 F, kA_0, kB_0, kA_29, kB_29, kA_32, kB_32, r0, pCX7_bestCut, pSX7_bestCut, pOX7_bestCut, pLX7_bestCut, w3.2.2.2.1, Int32.le_refl, bcL, kl_I, kl_J, kl_R, kl_T, kl_N, Nat.le_refl, Nat.zero_le, List.map_nil, List.map_cons, List.sum_nil, List.sum_cons, c_I, c_J, c_R, c_T, va_rf, hI_wI, hJ_wJ, hR_wR, hI_J, hI_R, hJ_I, hJ_R, hR_I, hR_J, hN_I, hN_J, hN_R, wI_I, wJ_J, upd_at, updL_at, kR_s, Option.toList, List.append_nil, List.nil_append, List.cons_append, if_true, if_false, reduceIte, Bool.false_eq_true, not_true_eq_false, not_false_eq_true, true_and, and_true, false_and, and_false, true_or, or_true,  Nat.reduceEqDiff, Nat.reduceAdd, Nat.reduceLeDiff]
  | succ k ih =>
    intro i hi h F r0 r2 w e0 bo fw o4 hw
    have hs := w.1
    have ww := w.2.1
    have w3 := w.2.2.1
    have n6 := ww.1
    have s9 := ww.2.2.2.2.1
    have g1 : ¬ nI (aSp a) ≤ nI i := nI_ge (by omega) (by omega)
    obtain ⟨h1, k1, k2⟩ := c_burnWithout (d := d) (x := i) F r2 w ht (by omega)
    have k1 : ∀ Q, WM (d + 2) mX0_burnWithout [.ref (32 : Nat), .int (nI t), .int (nI i)] h Q = Q (some (some (.int (nI (evW a t i))))) h1 := k1
    have e6 : evW a t i ≤ 6 := Nat.le_trans (cnN_le _) n6
    have q2 : (nI fw ≤ nI (evW a t i)) = (fw ≤ evW a t i) := propext (nI_leI (by omega) (by omega))
    have go := fun bo fw o4 hw => ih (i + 1) (by omega) h1 (Fin_sx F k2) (by rw [k2.1]; exact r0) (by rw [k2.1]; exact r2) (cS_sx w k2 (by simp)) (by rw [k2.2.2.2 29 (by simp)]; exact e0) bo fw o4 hw
    rw [bcL]
    by_cases c2 : evW a t i < fw
    · rw [if_pos c2]
      obtain ⟨h', m1, m2⟩ := go (some i) (evW a t i) (some (.int (nI (evW a t i)))) e6
      refine ⟨h', fun Q => ?_, sx_trans k2 m2⟩
      simp (implicitDefEqProofs := false) only [rX7_bestCut_26, rX7_bestCut_27, rX7_bestCut_27b, rX7_bestCut_28, rX7_bestCut_31, rX7_bestCut_34, rX7_bestCut_37, rX7_bestCut_37b, rX7_bestCut_38, rX7_bestCut_41, rX7_bestCut_41b, rX7_bestCut_42, rX7_bestCut_45, rX7_bestCut_48, rX7_bestCut_49, rX7_bestCut_52, rX7_bestCut_54, rX7_bestCut_56, rX7_bestCut_57, rX7_bestCut_60, rX7_bestCut_62, rX7_bestCut_63, rX7_bestCut_64, rX7_bestCut_65, kS0 hs, kS1 hs, kT1 hs, fS1 hs F, kS2 hs, kT2 hs, fS2 hs F, kS3 hs, kT3 hs, fS3 hs F, kS4 hs, kT4 hs, fS4 hs F, kS5 hs, kT5 hs, fS5 hs F, kS6 hs, kT6 hs, fS6 hs F, kS7 hs, kT7 hs, fS7 hs F, kS8 hs, kT8 hs, fS8 hs F, kS9 hs, kT9 hs, fS9 hs F, kS10 hs, kT10 hs, fS10 hs F, kS11 hs, kT11 hs, fS11 hs F, nS hs, nSs hs, fin_0_2 F, fin_0_3 F, fin_0_4 F, fin_0_5 F, fin_0_6 F, fin_0_7 F, kA_0, kB_0, kA_29, kB_29, kA_32, kB_32, r0, pCX7_bestCut, pSX7_bestCut, pOX7_bestCut, pLX7_bestCut, pCX0_burnWithout, pSX0_burnWithout, pOX0_burnWithout, pLX0_burnWithout, w3.2.2.2.1, g1, e0, k1, q2, show ¬ fw ≤ evW a t i from by omega, kl_I, kl_J, kl_R, kl_T, kl_N, Nat.le_refl, Nat.zero_le, List.map_nil, List.map_cons, List.sum_nil, List.sum_cons, c_I, c_J, c_R, c_T, va_rf, hI_wI, hJ_wJ, hR_wR, hI_J, hI_R, hJ_I, hJ_R, hR_I, hR_J, hN_I, hN_J, hN_R, wI_I, wJ_J, upd_at, updL_at, kR_s, Option.toList, List.append_nil, List.nil_append, List.cons_append, if_true, if_false, reduceIte, Bool.false_eq_true, not_true_eq_false, not_false_eq_true, true_and, and_true, false_and, and_false, true_or, or_true,  Nat.reduceEqDiff, Nat.reduceAdd, Nat.reduceLeDiff]
      rw [rX7_bestCut_68, nI_1]
      exact m1 Q
    · rw [if_neg c2]
      obtain ⟨h', m1, m2⟩ := go bo fw (some (.int (nI (evW a t i)))) hw
      refine ⟨h', fun Q => ?_, sx_trans k2 m2⟩
      simp (implicitDefEqProofs := false) only [rX7_bestCut_26, rX7_bestCut_27, rX7_bestCut_27b, rX7_bestCut_28, rX7_bestCut_31, rX7_bestCut_34, rX7_bestCut_37, rX7_bestCut_37b, rX7_bestCut_38, rX7_bestCut_41, rX7_bestCut_41b, rX7_bestCut_42, rX7_bestCut_45, rX7_bestCut_48, rX7_bestCut_49, rX7_bestCut_52, rX7_bestCut_54, rX7_bestCut_56, rX7_bestCut_57, rX7_bestCut_60, rX7_bestCut_62, rX7_bestCut_63, rX7_bestCut_64, rX7_bestCut_65, kS0 hs, kS1 hs, kT1 hs, fS1 hs F, kS2 hs, kT2 hs, fS2 hs F, kS3 hs, kT3 hs, fS3 hs F, kS4 hs, kT4 hs, fS4 hs F, kS5 hs, kT5 hs, fS5 hs F, kS6 hs, kT6 hs, fS6 hs F, kS7 hs, kT7 hs, fS7 hs F, kS8 hs, kT8 hs, fS8 hs F, kS9 hs, kT9 hs, fS9 hs F, kS10 hs, kT10 hs, fS10 hs F, kS11 hs, kT11 hs, fS11 hs F, nS hs, nSs hs, fin_0_2 F, fin_0_3 F, fin_0_4 F, fin_0_5 F, fin_0_6 F, fin_0_7 F, kA_0, kB_0, kA_29, kB_29, kA_32, kB_32, r0, pCX7_bestCut, pSX7_bestCut, pOX7_bestCut, pLX7_bestCut, pCX0_burnWithout, pSX0_burnWithout, pOX0_burnWithout, pLX0_burnWithout, w3.2.2.2.1, g1, e0, k1, q2, show fw ≤ evW a t i from by omega, kl_I, kl_J, kl_R, kl_T, kl_N, Nat.le_refl, Nat.zero_le, List.map_nil, List.map_cons, List.sum_nil, List.sum_cons, c_I, c_J, c_R, c_T, va_rf, hI_wI, hJ_wJ, hR_wR, hI_J, hI_R, hJ_I, hJ_R, hR_I, hR_J, hN_I, hN_J, hN_R, wI_I, wJ_J, upd_at, updL_at, kR_s, Option.toList, List.append_nil, List.nil_append, List.cons_append, if_true, if_false, reduceIte, Bool.false_eq_true, not_true_eq_false, not_false_eq_true, true_and, and_true, false_and, and_false, true_or, or_true,  Nat.reduceEqDiff, Nat.reduceAdd, Nat.reduceLeDiff]
      rw [rX7_bestCut_68, nI_1]
      exact m1 Q
theorem q_bestCut {d : Nat} {h : qH} {S : AS} (I : CI h S) : qy (d + 10) mX7_bestCut [.ref (0 : Nat)] h S (sBestCut S).1 (some (.int (sBestCut S).2)) := by
  obtain ⟨s, tu, F, ⟨r0, r1, r2⟩, w, b, k, st, wc, gc, ⟨tbx, tbp, tbm⟩, tp, e8, e9, ep⟩ := id I
  obtain ⟨e0, e1, e2, e4, e5, e7⟩ := st.2.1
  have hs := w.1
  have ww := w.2.1
  have w3 := w.2.2.1
  have n6 := ww.1
  have p64 := p6 n6
  have bx := st.1
  have F1 : Fin0 (hR (tr h 0)) := F
  have w1 : cS (tr h 0) s (sA S) := cS_tr w
  have b1 : bT (tr h 0) (sA S) := bT_sx b tr_sx (by simp)
  have hf1 : hR (tr h 0) 32 0 = some s := r2
  have ns := c_noStreet (d := d + 8) r0 w
  by_cases c1 : aN (sA S) = 0
  · rw [sBestCut, if_pos c1]
    exact qy_tr (v := 1) I (by decide) (fun Q => by
      simp (implicitDefEqProofs := false) only [eX7_bestCut, rX7_bestCut_0, rX7_bestCut_0b, rX7_bestCut_1, rX7_bestCut_4, rX7_bestCut_7, rX7_bestCut_8, kS0 hs, kS1 hs, kT1 hs, fS1 hs F, kS2 hs, kT2 hs, fS2 hs F, kS3 hs, kT3 hs, fS3 hs F, kS4 hs, kT4 hs, fS4 hs F, kS5 hs, kT5 hs, fS5 hs F, kS6 hs, kT6 hs, fS6 hs F, kS7 hs, kT7 hs, fS7 hs F, kS8 hs, kT8 hs, fS8 hs F, kS9 hs, kT9 hs, fS9 hs F, kS10 hs, kT10 hs, fS10 hs F, kS11 hs, kT11 hs, fS11 hs F, nS hs, nSs hs, fin_0_2 F, fin_0_3 F, fin_0_4 F, fin_0_5 F, fin_0_6 F, fin_0_7 F, kA_0, kB_0, r0, r2, e0, e1, e2, pCX7_bestCut, pSX7_bestCut, pOX7_bestCut, pLX7_bestCut, pCX7_noStreet, pSX7_noStreet, pOX7_noStreet, pLX7_noStreet, pCX7_noHouse, pSX7_noHouse, pOX7_noHouse, pLX7_noHouse, pCX7_outside, pSX7_outside, pOX7_outside, pLX7_outside, pCX7_refuse, pSX7_refuse, pOX7_refuse, pLX7_refuse, ns, c1, show nI 1 = 1 from rfl, nI_0, decide_true, decide_false, bI_t, bI_f, reduceCtorEq, or_self, show ¬ (1 : Int32) = 0 from by decide, tr_R, tr_tr, tr_25, tr_26, tr_27, tr_28, tr_29, tr_30, tr_31, tr_32, tr_33, tr_34, tr_35, tr_36, tr_37, tr_38, tr_39, tr_40, tr_41, tr_42, tr_43, tr_s hs, tr_s1 hs, tr_s2 hs, tr_s3 hs, tr_s4 hs, tr_s5 hs, tr_s6 hs, tr_s7 hs, tr_s8 hs, tr_s9 hs, tr_s10 hs, tr_s11 hs, kl_I, kl_J, kl_R, kl_T, kl_N, Nat.le_refl, Nat.zero_le, List.map_nil, List.map_cons, List.sum_nil, List.sum_cons, c_I, c_J, c_R, c_T, va_rf, hI_wI, hJ_wJ, hR_wR, hI_J, hI_R, hJ_I, hJ_R, hR_I, hR_J, hN_I, hN_J, hN_R, wI_I, wJ_J, upd_at, updL_at, kR_s, Option.toList, List.append_nil, List.nil_append, List.cons_append, if_true, if_false, reduceIte, Bool.false_eq_true, not_true_eq_false, not_false_eq_true, true_and, and_true, false_and, and_false, true_or, or_true,  Nat.reduceEqDiff, Nat.reduceAdd, Nat.reduceLeDiff])
  · rw [sBestCut, if_neg c1]
    have v1 := c_burnEver (d := d + 7) F1 hf1 w1 b1 tbx.1
    have t6 := tIx ww tbx.1
    obtain ⟨h1, m1, m2⟩ := l_bestCut (d := d + 7) (s := s) (a := sA S) t6.2 (aSp (sA S)) 0 (by omega) (tr h 0) F1 r0 hf1 w1 (by rw [tr_29]; exact e0) none (evN (sA S) (sX S).1) none (popc_le 6 _)
    exact qy_m0 I (fun Q => by
      have l := m1 Q
      simp only [oI_no, nI_0] at l
      simp (implicitDefEqProofs := false) only [eX7_bestCut, rX7_bestCut_0, rX7_bestCut_0b, rX7_bestCut_1, rX7_bestCut_4, rX7_bestCut_7, rX7_bestCut_8, rX7_bestCut_9, rX7_bestCut_11, rX7_bestCut_12, rX7_bestCut_12b, rX7_bestCut_13, rX7_bestCut_13b, rX7_bestCut_14, rX7_bestCut_17, rX7_bestCut_20, rX7_bestCut_23, rX7_bestCut_24, rX7_bestCut_25, kS0 hs, kS1 hs, kT1 hs, fS1 hs F, kS2 hs, kT2 hs, fS2 hs F, kS3 hs, kT3 hs, fS3 hs F, kS4 hs, kT4 hs, fS4 hs F, kS5 hs, kT5 hs, fS5 hs F, kS6 hs, kT6 hs, fS6 hs F, kS7 hs, kT7 hs, fS7 hs F, kS8 hs, kT8 hs, fS8 hs F, kS9 hs, kT9 hs, fS9 hs F, kS10 hs, kT10 hs, fS10 hs F, kS11 hs, kT11 hs, fS11 hs F, nS hs, nSs hs, fin_0_2 F, fin_0_3 F, fin_0_4 F, fin_0_5 F, fin_0_6 F, fin_0_7 F, kA_0, kB_0, kA_29, kB_29, r0, r2, e0, e1, e2, pCX7_bestCut, pSX7_bestCut, pOX7_bestCut, pLX7_bestCut, pCX7_noStreet, pSX7_noStreet, pOX7_noStreet, pLX7_noStreet, pCX7_noHouse, pSX7_noHouse, pOX7_noHouse, pLX7_noHouse, pCX7_outside, pSX7_outside, pOX7_outside, pLX7_outside, pCX7_refuse, pSX7_refuse, pOX7_refuse, pLX7_refuse, pCX7_burnEver, pSX7_burnEver, pOX7_burnEver, pLX7_burnEver, ns, c1, v1, nI_0, decide_true, decide_false, bI_t, bI_f, reduceCtorEq, or_self, show ¬ (1 : Int32) = 0 from by decide, tr_R, tr_tr, tr_25, tr_26, tr_27, tr_28, tr_29, tr_30, tr_31, tr_32, tr_33, tr_34, tr_35, tr_36, tr_37, tr_38, tr_39, tr_40, tr_41, tr_42, tr_43, tr_s hs, tr_s1 hs, tr_s2 hs, tr_s3 hs, tr_s4 hs, tr_s5 hs, tr_s6 hs, tr_s7 hs, tr_s8 hs, tr_s9 hs, tr_s10 hs, tr_s11 hs, kl_I, kl_J, kl_R, kl_T, kl_N, Nat.le_refl, Nat.zero_le, List.map_nil, List.map_cons, List.sum_nil, List.sum_cons, c_I, c_J, c_R, c_T, va_rf, hI_wI, hJ_wJ, hR_wR, hI_J, hI_R, hJ_I, hJ_R, hR_I, hR_J, hN_I, hN_J, hN_R, wI_I, wJ_J, upd_at, updL_at, kR_s, Option.toList, List.append_nil, List.nil_append, List.cons_append, if_true, if_false, reduceIte, Bool.false_eq_true, not_true_eq_false, not_false_eq_true, true_and, and_true, false_and, and_false, true_or, or_true,  Nat.reduceEqDiff, Nat.reduceAdd, Nat.reduceLeDiff]
      exact l) m2 (by simp) (cC_sx (cC_sx k tr_sx (by simp) (by simp)) m2 (by simp) (by simp)) (wC_sx (wC_sx wc tr_sx (by simp) (by simp)) m2 (by simp) (by simp)) (gC_sx (gC_sx gc tr_sx (by simp) (by simp) (by simp)) m2 (by simp) (by simp) (by simp))
noncomputable def sFits (S : AS) : Nat × Int32 := if aN (sA S) = 0 then (1, -1) else (0, nI (fiL (sA S)).length)
theorem q_fits {d : Nat} {h : qH} {S : AS} (I : CI h S) : qy (d + 10) mX7_fits [.ref (0 : Nat)] h S (sFits S).1 (some (.int (sFits S).2)) := by
  obtain ⟨s, tu, F, ⟨r0, r1, r2⟩, w, b, k, st, wc, gc, ⟨tbx, tbp, tbm⟩, tp, e8, e9, ep⟩ := id I
  obtain ⟨e0, e1, e2, e4, e5, e7⟩ := st.2.1
  have hs := w.1
  have ww := w.2.1
  have w3 := w.2.2.1
  have n6 := ww.1
  have p64 := p6 n6
  have bx := st.1
  have F1 : Fin0 (hR (tr h 0)) := F
  have w1 : cS (tr h 0) s (sA S) := cS_tr w
  have b1 : bT (tr h 0) (sA S) := bT_sx b tr_sx (by simp)
  have hf1 : hR (tr h 0) 32 0 = some s := r2
  have ns := c_noStreet (d := d + 8) r0 w
  by_cases c1 : aN (sA S) = 0
  · rw [sFits, if_pos c1]
    exact qy_tr (v := 1) I (by decide) (fun Q => by
      simp (implicitDefEqProofs := false) only [eX7_fits, rX7_fits_0, rX7_fits_0b, rX7_fits_1, rX7_fits_4, rX7_fits_7, rX7_fits_8, kS0 hs, kS1 hs, kT1 hs, fS1 hs F, kS2 hs, kT2 hs, fS2 hs F, kS3 hs, kT3 hs, fS3 hs F, kS4 hs, kT4 hs, fS4 hs F, kS5 hs, kT5 hs, fS5 hs F, kS6 hs, kT6 hs, fS6 hs F, kS7 hs, kT7 hs, fS7 hs F, kS8 hs, kT8 hs, fS8 hs F, kS9 hs, kT9 hs, fS9 hs F, kS10 hs, kT10 hs, fS10 hs F, kS11 hs, kT11 hs, fS11 hs F, nS hs, nSs hs, fin_0_2 F, fin_0_3 F, fin_0_4 F, fin_0_5 F, fin_0_6 F, fin_0_7 F, kA_0, kB_0, r0, r2, e0, e1, e2, pCX7_fits, pSX7_fits, pOX7_fits, pLX7_fits, pCX7_noStreet, pSX7_noStreet, pOX7_noStreet, pLX7_noStreet, pCX7_noHouse, pSX7_noHouse, pOX7_noHouse, pLX7_noHouse, pCX7_outside, pSX7_outside, pOX7_outside, pLX7_outside, pCX7_refuse, pSX7_refuse, pOX7_refuse, pLX7_refuse, ns, c1, show nI 1 = 1 from rfl, nI_0, decide_true, decide_false, bI_t, bI_f, reduceCtorEq, or_self, show ¬ (1 : Int32) = 0 from by decide, tr_R, tr_tr, tr_25, tr_26, tr_27, tr_28, tr_29, tr_30, tr_31, tr_32, tr_33, tr_34, tr_35, tr_36, tr_37, tr_38, tr_39, tr_40, tr_41, tr_42, tr_43, tr_s hs, tr_s1 hs, tr_s2 hs, tr_s3 hs, tr_s4 hs, tr_s5 hs, tr_s6 hs, tr_s7 hs, tr_s8 hs, tr_s9 hs, tr_s10 hs, tr_s11 hs, kl_I, kl_J, kl_R, kl_T, kl_N, Nat.le_refl, Nat.zero_le, List.map_nil, List.map_cons, List.sum_nil, List.sum_cons, c_I, c_J, c_R, c_T, va_rf, hI_wI, hJ_wJ, hR_wR, hI_J, hI_R, hJ_I, hJ_R, hR_I, hR_J, hN_I, hN_J, hN_R, wI_I, wJ_J, upd_at, updL_at, kR_s, Option.toList, List.append_nil, List.nil_append, List.cons_append, if_true, if_false, reduceIte, Bool.false_eq_true, not_true_eq_false, not_false_eq_true, true_and, and_true, false_and, and_false, true_or, or_true,  Nat.reduceEqDiff, Nat.reduceAdd, Nat.reduceLeDiff])
  · rw [sFits, if_neg c1]
    obtain ⟨h1, m1, m2, m3⟩ := c_gMake (d := d + 5) F1 hf1 w1 (gC_sx gc tr_sx (by simp) (by simp) (by simp))
    have FF : Fin0 (hR h1) := Fin_sx F1 m2
    have gq : gC h1 (sA S) := .inr m3
    have kq : cC h1 (sA S) := cC_sx (cC_sx k tr_sx (by simp) (by simp)) m2 (by simp) (by simp)
    have wq : wC h1 (sA S) := wC_sx (wC_sx wc tr_sx (by simp) (by simp)) m2 (by simp) (by simp)
    have hL : ∀ g ∈ fiL (sA S), g < 121 := fun g hg => Nat.lt_of_lt_of_le (fiB_in hg) (p11 ww)
    have hl : (fiL (sA S)).length ≤ 121 := Nat.le_trans fiB_len (p11 ww)
    obtain ⟨z1, z2, z3, z4⟩ := id m3
    exact qy_m0 I (fun Q => by
      simp (implicitDefEqProofs := false) only [eX7_fits, rX7_fits_0, rX7_fits_0b, rX7_fits_1, rX7_fits_4, rX7_fits_7, rX7_fits_8, rX7_fits_9, rX7_fits_9b, rX7_fits_10, rX7_fits_13, rX7_fits_16, rX7_fits_16b, rX7_fits_17, rX7_fits_20, rX7_fits_23, kS0 hs, kS1 hs, kT1 hs, fS1 hs F, kS2 hs, kT2 hs, fS2 hs F, kS3 hs, kT3 hs, fS3 hs F, kS4 hs, kT4 hs, fS4 hs F, kS5 hs, kT5 hs, fS5 hs F, kS6 hs, kT6 hs, fS6 hs F, kS7 hs, kT7 hs, fS7 hs F, kS8 hs, kT8 hs, fS8 hs F, kS9 hs, kT9 hs, fS9 hs F, kS10 hs, kT10 hs, fS10 hs F, kS11 hs, kT11 hs, fS11 hs F, nS hs, nSs hs, fin_0_2 F, fin_0_3 F, fin_0_4 F, fin_0_5 F, fin_0_6 F, fin_0_7 F, fin_0_2 FF, fin_0_3 FF, fin_0_4 FF, fin_0_5 FF, fin_0_6 FF, fin_0_7 FF, kA_0, kB_0, kA_39, kB_39, r0, r2, e0, e1, e2, pCX7_fits, pSX7_fits, pOX7_fits, pLX7_fits, pCX7_noStreet, pSX7_noStreet, pOX7_noStreet, pLX7_noStreet, pCX7_noHouse, pSX7_noHouse, pOX7_noHouse, pLX7_noHouse, pCX7_outside, pSX7_outside, pOX7_outside, pLX7_outside, pCX7_refuse, pSX7_refuse, pOX7_refuse, pLX7_refuse, pCX1_make, pSX1_make, pOX1_make, pLX1_make, ns, c1, m1, z2, nI_0, decide_true, decide_false, bI_t, bI_f, reduceCtorEq, or_self, show ¬ (1 : Int32) = 0 from by decide, tr_R, tr_tr, tr_25, tr_26, tr_27, tr_28, tr_29, tr_30, tr_31, tr_32, tr_33, tr_34, tr_35, tr_36, tr_37, tr_38, tr_39, tr_40, tr_41, tr_42, tr_43, tr_s hs, tr_s1 hs, tr_s2 hs, tr_s3 hs, tr_s4 hs, tr_s5 hs, tr_s6 hs, tr_s7 hs, tr_s8 hs, tr_s9 hs, tr_s10 hs, tr_s11 hs, kl_I, kl_J, kl_R, kl_T, kl_N, Nat.le_refl, Nat.zero_le, List.map_nil, List.map_cons, List.sum_nil, List.sum_cons, c_I, c_J, c_R, c_T, va_rf, hI_wI, hJ_wJ, hR_wR, hI_J, hI_R, hJ_I, hJ_R, hR_I, hR_J, hN_I, hN_J, hN_R, wI_I, wJ_J, upd_at, updL_at, kR_s, Option.toList, List.append_nil, List.nil_append, List.cons_append, if_true, if_false, reduceIte, Bool.false_eq_true, not_true_eq_false, not_false_eq_true, true_and, and_true, false_and, and_false, true_or, or_true,  Nat.reduceEqDiff, Nat.reduceAdd, Nat.reduceLeDiff]) m2 (by simp) kq wq gq
noncomputable def sTryDay (S : AS) : Nat × Int32 := if aN (sA S) = 0 then (1, -1) else (0, oI ((tyN (sA S) (fiL (sA S))).map (·.1)))
theorem q_tryDay {d : Nat} {h : qH} {S : AS} (I : CI h S) : qy (d + 10) mX7_tryDay [.ref (0 : Nat)] h S (sTryDay S).1 (some (.int (sTryDay S).2)) := by
  obtain ⟨s, tu, F, ⟨r0, r1, r2⟩, w, b, k, st, wc, gc, ⟨tbx, tbp, tbm⟩, tp, e8, e9, ep⟩ := id I
  obtain ⟨e0, e1, e2, e4, e5, e7⟩ := st.2.1
  have hs := w.1
  have ww := w.2.1
  have w3 := w.2.2.1
  have n6 := ww.1
  have p64 := p6 n6
  have bx := st.1
  have F1 : Fin0 (hR (tr h 0)) := F
  have w1 : cS (tr h 0) s (sA S) := cS_tr w
  have b1 : bT (tr h 0) (sA S) := bT_sx b tr_sx (by simp)
  have hf1 : hR (tr h 0) 32 0 = some s := r2
  have ns := c_noStreet (d := d + 8) r0 w
  by_cases c1 : aN (sA S) = 0
  · rw [sTryDay, if_pos c1]
    exact qy_tr (v := 1) I (by decide) (fun Q => by
      simp (implicitDefEqProofs := false) only [eX7_tryDay, rX7_tryDay_0, rX7_tryDay_0b, rX7_tryDay_1, rX7_tryDay_4, rX7_tryDay_7, rX7_tryDay_8, kS0 hs, kS1 hs, kT1 hs, fS1 hs F, kS2 hs, kT2 hs, fS2 hs F, kS3 hs, kT3 hs, fS3 hs F, kS4 hs, kT4 hs, fS4 hs F, kS5 hs, kT5 hs, fS5 hs F, kS6 hs, kT6 hs, fS6 hs F, kS7 hs, kT7 hs, fS7 hs F, kS8 hs, kT8 hs, fS8 hs F, kS9 hs, kT9 hs, fS9 hs F, kS10 hs, kT10 hs, fS10 hs F, kS11 hs, kT11 hs, fS11 hs F, nS hs, nSs hs, fin_0_2 F, fin_0_3 F, fin_0_4 F, fin_0_5 F, fin_0_6 F, fin_0_7 F, kA_0, kB_0, r0, r2, e0, e1, e2, pCX7_tryDay, pSX7_tryDay, pOX7_tryDay, pLX7_tryDay, pCX7_noStreet, pSX7_noStreet, pOX7_noStreet, pLX7_noStreet, pCX7_noHouse, pSX7_noHouse, pOX7_noHouse, pLX7_noHouse, pCX7_outside, pSX7_outside, pOX7_outside, pLX7_outside, pCX7_refuse, pSX7_refuse, pOX7_refuse, pLX7_refuse, ns, c1, show nI 1 = 1 from rfl, nI_0, decide_true, decide_false, bI_t, bI_f, reduceCtorEq, or_self, show ¬ (1 : Int32) = 0 from by decide, tr_R, tr_tr, tr_25, tr_26, tr_27, tr_28, tr_29, tr_30, tr_31, tr_32, tr_33, tr_34, tr_35, tr_36, tr_37, tr_38, tr_39, tr_40, tr_41, tr_42, tr_43, tr_s hs, tr_s1 hs, tr_s2 hs, tr_s3 hs, tr_s4 hs, tr_s5 hs, tr_s6 hs, tr_s7 hs, tr_s8 hs, tr_s9 hs, tr_s10 hs, tr_s11 hs, kl_I, kl_J, kl_R, kl_T, kl_N, Nat.le_refl, Nat.zero_le, List.map_nil, List.map_cons, List.sum_nil, List.sum_cons, c_I, c_J, c_R, c_T, va_rf, hI_wI, hJ_wJ, hR_wR, hI_J, hI_R, hJ_I, hJ_R, hR_I, hR_J, hN_I, hN_J, hN_R, wI_I, wJ_J, upd_at, updL_at, kR_s, Option.toList, List.append_nil, List.nil_append, List.cons_append, if_true, if_false, reduceIte, Bool.false_eq_true, not_true_eq_false, not_false_eq_true, true_and, and_true, false_and, and_false, true_or, or_true,  Nat.reduceEqDiff, Nat.reduceAdd, Nat.reduceLeDiff])
  · rw [sTryDay, if_neg c1]
    obtain ⟨h1, m1, m2, m3⟩ := c_gMake (d := d + 5) F1 hf1 w1 (gC_sx gc tr_sx (by simp) (by simp) (by simp))
    have FF : Fin0 (hR h1) := Fin_sx F1 m2
    have gq : gC h1 (sA S) := .inr m3
    have kq : cC h1 (sA S) := cC_sx (cC_sx k tr_sx (by simp) (by simp)) m2 (by simp) (by simp)
    have wq : wC h1 (sA S) := wC_sx (wC_sx wc tr_sx (by simp) (by simp)) m2 (by simp) (by simp)
    have hL : ∀ g ∈ fiL (sA S), g < 121 := fun g hg => Nat.lt_of_lt_of_le (fiB_in hg) (p11 ww)
    have hl : (fiL (sA S)).length ≤ 121 := Nat.le_trans fiB_len (p11 ww)
    obtain ⟨z1, z2, z3, z4⟩ := id m3
    exact qy_m0 I (fun Q => by
      simp (implicitDefEqProofs := false) only [eX7_tryDay, rX7_tryDay_0, rX7_tryDay_0b, rX7_tryDay_1, rX7_tryDay_4, rX7_tryDay_7, rX7_tryDay_8, rX7_tryDay_9, rX7_tryDay_9b, rX7_tryDay_10, rX7_tryDay_13, rX7_tryDay_16, rX7_tryDay_16b, rX7_tryDay_17, rX7_tryDay_20, rX7_tryDay_23, kS0 hs, kS1 hs, kT1 hs, fS1 hs F, kS2 hs, kT2 hs, fS2 hs F, kS3 hs, kT3 hs, fS3 hs F, kS4 hs, kT4 hs, fS4 hs F, kS5 hs, kT5 hs, fS5 hs F, kS6 hs, kT6 hs, fS6 hs F, kS7 hs, kT7 hs, fS7 hs F, kS8 hs, kT8 hs, fS8 hs F, kS9 hs, kT9 hs, fS9 hs F, kS10 hs, kT10 hs, fS10 hs F, kS11 hs, kT11 hs, fS11 hs F, nS hs, nSs hs, fin_0_2 F, fin_0_3 F, fin_0_4 F, fin_0_5 F, fin_0_6 F, fin_0_7 F, fin_0_2 FF, fin_0_3 FF, fin_0_4 FF, fin_0_5 FF, fin_0_6 FF, fin_0_7 FF, kA_0, kB_0, kA_39, kB_39, r0, r2, e0, e1, e2, pCX7_tryDay, pSX7_tryDay, pOX7_tryDay, pLX7_tryDay, pCX7_noStreet, pSX7_noStreet, pOX7_noStreet, pLX7_noStreet, pCX7_noHouse, pSX7_noHouse, pOX7_noHouse, pLX7_noHouse, pCX7_outside, pSX7_outside, pOX7_outside, pLX7_outside, pCX7_refuse, pSX7_refuse, pOX7_refuse, pLX7_refuse, pCX1_make, pSX1_make, pOX1_make, pLX1_make, ns, c1, m1, z4.1, nI_0, decide_true, decide_false, bI_t, bI_f, reduceCtorEq, or_self, show ¬ (1 : Int32) = 0 from by decide, tr_R, tr_tr, tr_25, tr_26, tr_27, tr_28, tr_29, tr_30, tr_31, tr_32, tr_33, tr_34, tr_35, tr_36, tr_37, tr_38, tr_39, tr_40, tr_41, tr_42, tr_43, tr_s hs, tr_s1 hs, tr_s2 hs, tr_s3 hs, tr_s4 hs, tr_s5 hs, tr_s6 hs, tr_s7 hs, tr_s8 hs, tr_s9 hs, tr_s10 hs, tr_s11 hs, kl_I, kl_J, kl_R, kl_T, kl_N, Nat.le_refl, Nat.zero_le, List.map_nil, List.map_cons, List.sum_nil, List.sum_cons, c_I, c_J, c_R, c_T, va_rf, hI_wI, hJ_wJ, hR_wR, hI_J, hI_R, hJ_I, hJ_R, hR_I, hR_J, hN_I, hN_J, hN_R, wI_I, wJ_J, upd_at, updL_at, kR_s, Option.toList, List.append_nil, List.nil_append, List.cons_append, if_true, if_false, reduceIte, Bool.false_eq_true, not_true_eq_false, not_false_eq_true, true_and, and_true, false_and, and_false, true_or, or_true,  Nat.reduceEqDiff, Nat.reduceAdd, Nat.reduceLeDiff]) m2 (by simp) kq wq gq
noncomputable def sTryLeaves (S : AS) : Nat × Int32 := if aN (sA S) = 0 then (1, -1) else (0, oI ((tyN (sA S) (fiL (sA S))).map (·.2)))
theorem q_tryLeaves {d : Nat} {h : qH} {S : AS} (I : CI h S) : qy (d + 10) mX7_tryLeaves [.ref (0 : Nat)] h S (sTryLeaves S).1 (some (.int (sTryLeaves S).2)) := by
  obtain ⟨s, tu, F, ⟨r0, r1, r2⟩, w, b, k, st, wc, gc, ⟨tbx, tbp, tbm⟩, tp, e8, e9, ep⟩ := id I
  obtain ⟨e0, e1, e2, e4, e5, e7⟩ := st.2.1
  have hs := w.1
  have ww := w.2.1
  have w3 := w.2.2.1
  have n6 := ww.1
  have p64 := p6 n6
  have bx := st.1
  have F1 : Fin0 (hR (tr h 0)) := F
  have w1 : cS (tr h 0) s (sA S) := cS_tr w
  have b1 : bT (tr h 0) (sA S) := bT_sx b tr_sx (by simp)
  have hf1 : hR (tr h 0) 32 0 = some s := r2
  have ns := c_noStreet (d := d + 8) r0 w
  by_cases c1 : aN (sA S) = 0
  · rw [sTryLeaves, if_pos c1]
    exact qy_tr (v := 1) I (by decide) (fun Q => by
      simp (implicitDefEqProofs := false) only [eX7_tryLeaves, rX7_tryLeaves_0, rX7_tryLeaves_0b, rX7_tryLeaves_1, rX7_tryLeaves_4, rX7_tryLeaves_7, rX7_tryLeaves_8, kS0 hs, kS1 hs, kT1 hs, fS1 hs F, kS2 hs, kT2 hs, fS2 hs F, kS3 hs, kT3 hs, fS3 hs F, kS4 hs, kT4 hs, fS4 hs F, kS5 hs, kT5 hs, fS5 hs F, kS6 hs, kT6 hs, fS6 hs F, kS7 hs, kT7 hs, fS7 hs F, kS8 hs, kT8 hs, fS8 hs F, kS9 hs, kT9 hs, fS9 hs F, kS10 hs, kT10 hs, fS10 hs F, kS11 hs, kT11 hs, fS11 hs F, nS hs, nSs hs, fin_0_2 F, fin_0_3 F, fin_0_4 F, fin_0_5 F, fin_0_6 F, fin_0_7 F, kA_0, kB_0, r0, r2, e0, e1, e2, pCX7_tryLeaves, pSX7_tryLeaves, pOX7_tryLeaves, pLX7_tryLeaves, pCX7_noStreet, pSX7_noStreet, pOX7_noStreet, pLX7_noStreet, pCX7_noHouse, pSX7_noHouse, pOX7_noHouse, pLX7_noHouse, pCX7_outside, pSX7_outside, pOX7_outside, pLX7_outside, pCX7_refuse, pSX7_refuse, pOX7_refuse, pLX7_refuse, ns, c1, show nI 1 = 1 from rfl, nI_0, decide_true, decide_false, bI_t, bI_f, reduceCtorEq, or_self, show ¬ (1 : Int32) = 0 from by decide, tr_R, tr_tr, tr_25, tr_26, tr_27, tr_28, tr_29, tr_30, tr_31, tr_32, tr_33, tr_34, tr_35, tr_36, tr_37, tr_38, tr_39, tr_40, tr_41, tr_42, tr_43, tr_s hs, tr_s1 hs, tr_s2 hs, tr_s3 hs, tr_s4 hs, tr_s5 hs, tr_s6 hs, tr_s7 hs, tr_s8 hs, tr_s9 hs, tr_s10 hs, tr_s11 hs, kl_I, kl_J, kl_R, kl_T, kl_N, Nat.le_refl, Nat.zero_le, List.map_nil, List.map_cons, List.sum_nil, List.sum_cons, c_I, c_J, c_R, c_T, va_rf, hI_wI, hJ_wJ, hR_wR, hI_J, hI_R, hJ_I, hJ_R, hR_I, hR_J, hN_I, hN_J, hN_R, wI_I, wJ_J, upd_at, updL_at, kR_s, Option.toList, List.append_nil, List.nil_append, List.cons_append, if_true, if_false, reduceIte, Bool.false_eq_true, not_true_eq_false, not_false_eq_true, true_and, and_true, false_and, and_false, true_or, or_true,  Nat.reduceEqDiff, Nat.reduceAdd, Nat.reduceLeDiff])
  · rw [sTryLeaves, if_neg c1]
    obtain ⟨h1, m1, m2, m3⟩ := c_gMake (d := d + 5) F1 hf1 w1 (gC_sx gc tr_sx (by simp) (by simp) (by simp))
    have FF : Fin0 (hR h1) := Fin_sx F1 m2
    have gq : gC h1 (sA S) := .inr m3
    have kq : cC h1 (sA S) := cC_sx (cC_sx k tr_sx (by simp) (by simp)) m2 (by simp) (by simp)
    have wq : wC h1 (sA S) := wC_sx (wC_sx wc tr_sx (by simp) (by simp)) m2 (by simp) (by simp)
    have hL : ∀ g ∈ fiL (sA S), g < 121 := fun g hg => Nat.lt_of_lt_of_le (fiB_in hg) (p11 ww)
    have hl : (fiL (sA S)).length ≤ 121 := Nat.le_trans fiB_len (p11 ww)
    obtain ⟨z1, z2, z3, z4⟩ := id m3
    exact qy_m0 I (fun Q => by
      simp (implicitDefEqProofs := false) only [eX7_tryLeaves, rX7_tryLeaves_0, rX7_tryLeaves_0b, rX7_tryLeaves_1, rX7_tryLeaves_4, rX7_tryLeaves_7, rX7_tryLeaves_8, rX7_tryLeaves_9, rX7_tryLeaves_9b, rX7_tryLeaves_10, rX7_tryLeaves_13, rX7_tryLeaves_16, rX7_tryLeaves_16b, rX7_tryLeaves_17, rX7_tryLeaves_20, rX7_tryLeaves_23, kS0 hs, kS1 hs, kT1 hs, fS1 hs F, kS2 hs, kT2 hs, fS2 hs F, kS3 hs, kT3 hs, fS3 hs F, kS4 hs, kT4 hs, fS4 hs F, kS5 hs, kT5 hs, fS5 hs F, kS6 hs, kT6 hs, fS6 hs F, kS7 hs, kT7 hs, fS7 hs F, kS8 hs, kT8 hs, fS8 hs F, kS9 hs, kT9 hs, fS9 hs F, kS10 hs, kT10 hs, fS10 hs F, kS11 hs, kT11 hs, fS11 hs F, nS hs, nSs hs, fin_0_2 F, fin_0_3 F, fin_0_4 F, fin_0_5 F, fin_0_6 F, fin_0_7 F, fin_0_2 FF, fin_0_3 FF, fin_0_4 FF, fin_0_5 FF, fin_0_6 FF, fin_0_7 FF, kA_0, kB_0, kA_39, kB_39, r0, r2, e0, e1, e2, pCX7_tryLeaves, pSX7_tryLeaves, pOX7_tryLeaves, pLX7_tryLeaves, pCX7_noStreet, pSX7_noStreet, pOX7_noStreet, pLX7_noStreet, pCX7_noHouse, pSX7_noHouse, pOX7_noHouse, pLX7_noHouse, pCX7_outside, pSX7_outside, pOX7_outside, pLX7_outside, pCX7_refuse, pSX7_refuse, pOX7_refuse, pLX7_refuse, pCX1_make, pSX1_make, pOX1_make, pLX1_make, ns, c1, m1, z4.2.1, nI_0, decide_true, decide_false, bI_t, bI_f, reduceCtorEq, or_self, show ¬ (1 : Int32) = 0 from by decide, tr_R, tr_tr, tr_25, tr_26, tr_27, tr_28, tr_29, tr_30, tr_31, tr_32, tr_33, tr_34, tr_35, tr_36, tr_37, tr_38, tr_39, tr_40, tr_41, tr_42, tr_43, tr_s hs, tr_s1 hs, tr_s2 hs, tr_s3 hs, tr_s4 hs, tr_s5 hs, tr_s6 hs, tr_s7 hs, tr_s8 hs, tr_s9 hs, tr_s10 hs, tr_s11 hs, kl_I, kl_J, kl_R, kl_T, kl_N, Nat.le_refl, Nat.zero_le, List.map_nil, List.map_cons, List.sum_nil, List.sum_cons, c_I, c_J, c_R, c_T, va_rf, hI_wI, hJ_wJ, hR_wR, hI_J, hI_R, hJ_I, hJ_R, hR_I, hR_J, hN_I, hN_J, hN_R, wI_I, wJ_J, upd_at, updL_at, kR_s, Option.toList, List.append_nil, List.nil_append, List.cons_append, if_true, if_false, reduceIte, Bool.false_eq_true, not_true_eq_false, not_false_eq_true, true_and, and_true, false_and, and_false, true_or, or_true,  Nat.reduceEqDiff, Nat.reduceAdd, Nat.reduceLeDiff]) m2 (by simp) kq wq gq
noncomputable def sFitAt (S : AS) (y z : Int32) : Nat × Int32 := if aN (sA S) = 0 then (1, -1) else match ix y (fiL (sA S)).length, ix z (aUn (sA S)) with
  | some i, some k => (0, oI (gdN (sA S) ((fiL (sA S)).getD i 0) k))
  | _, _ => (1, -1)
theorem q_fitAt {d : Nat} {h : qH} {S : AS} {y z : Int32} (I : CI h S) : qy (d + 10) mX7_fitAt [.ref (0 : Nat), .int y, .int z] h S (sFitAt S y z).1 (some (.int (sFitAt S y z).2)) := by
  obtain ⟨s, tu, F, ⟨r0, r1, r2⟩, w, b, k, st, wc, gc, ⟨tbx, tbp, tbm⟩, tp, e8, e9, ep⟩ := id I
  obtain ⟨e0, e1, e2, e4, e5, e7⟩ := st.2.1
  have hs := w.1
  have ww := w.2.1
  have w3 := w.2.2.1
  have n6 := ww.1
  have p64 := p6 n6
  have bx := st.1
  have F1 : Fin0 (hR (tr h 0)) := F
  have w1 : cS (tr h 0) s (sA S) := cS_tr w
  have b1 : bT (tr h 0) (sA S) := bT_sx b tr_sx (by simp)
  have hf1 : hR (tr h 0) 32 0 = some s := r2
  have ns := c_noStreet (d := d + 8) r0 w
  rw [sFitAt]
  by_cases c1 : aN (sA S) = 0
  · rw [if_pos c1]
    exact qy_tr (v := 1) I (by decide) (fun Q => by
      simp (implicitDefEqProofs := false) only [eX7_fitAt, rX7_fitAt_0, rX7_fitAt_0b, rX7_fitAt_1, rX7_fitAt_4, rX7_fitAt_7, rX7_fitAt_8, kS0 hs, kS1 hs, kT1 hs, fS1 hs F, kS2 hs, kT2 hs, fS2 hs F, kS3 hs, kT3 hs, fS3 hs F, kS4 hs, kT4 hs, fS4 hs F, kS5 hs, kT5 hs, fS5 hs F, kS6 hs, kT6 hs, fS6 hs F, kS7 hs, kT7 hs, fS7 hs F, kS8 hs, kT8 hs, fS8 hs F, kS9 hs, kT9 hs, fS9 hs F, kS10 hs, kT10 hs, fS10 hs F, kS11 hs, kT11 hs, fS11 hs F, nS hs, nSs hs, fin_0_2 F, fin_0_3 F, fin_0_4 F, fin_0_5 F, fin_0_6 F, fin_0_7 F, kA_0, kB_0, r0, r2, e0, e1, e2, pCX7_fitAt, pSX7_fitAt, pOX7_fitAt, pLX7_fitAt, pCX7_noStreet, pSX7_noStreet, pOX7_noStreet, pLX7_noStreet, pCX7_noHouse, pSX7_noHouse, pOX7_noHouse, pLX7_noHouse, pCX7_outside, pSX7_outside, pOX7_outside, pLX7_outside, pCX7_refuse, pSX7_refuse, pOX7_refuse, pLX7_refuse, ns, c1, show nI 1 = 1 from rfl, nI_0, decide_true, decide_false, bI_t, bI_f, reduceCtorEq, or_self, show ¬ (1 : Int32) = 0 from by decide, tr_R, tr_tr, tr_25, tr_26, tr_27, tr_28, tr_29, tr_30, tr_31, tr_32, tr_33, tr_34, tr_35, tr_36, tr_37, tr_38, tr_39, tr_40, tr_41, tr_42, tr_43, tr_s hs, tr_s1 hs, tr_s2 hs, tr_s3 hs, tr_s4 hs, tr_s5 hs, tr_s6 hs, tr_s7 hs, tr_s8 hs, tr_s9 hs, tr_s10 hs, tr_s11 hs, kl_I, kl_J, kl_R, kl_T, kl_N, Nat.le_refl, Nat.zero_le, List.map_nil, List.map_cons, List.sum_nil, List.sum_cons, c_I, c_J, c_R, c_T, va_rf, hI_wI, hJ_wJ, hR_wR, hI_J, hI_R, hJ_I, hJ_R, hR_I, hR_J, hN_I, hN_J, hN_R, wI_I, wJ_J, upd_at, updL_at, kR_s, Option.toList, List.append_nil, List.nil_append, List.cons_append, if_true, if_false, reduceIte, Bool.false_eq_true, not_true_eq_false, not_false_eq_true, true_and, and_true, false_and, and_false, true_or, or_true,  Nat.reduceEqDiff, Nat.reduceAdd, Nat.reduceLeDiff])
  · rw [if_neg c1]
    obtain ⟨h1, m1, m2, m3⟩ := c_gMake (d := d + 5) F1 hf1 w1 (gC_sx gc tr_sx (by simp) (by simp) (by simp))
    have FF : Fin0 (hR h1) := Fin_sx F1 m2
    have gq : gC h1 (sA S) := .inr m3
    have kq : cC h1 (sA S) := cC_sx (cC_sx k tr_sx (by simp) (by simp)) m2 (by simp) (by simp)
    have wq : wC h1 (sA S) := wC_sx (wC_sx wc tr_sx (by simp) (by simp)) m2 (by simp) (by simp)
    have hL : ∀ g ∈ fiL (sA S), g < 121 := fun g hg => Nat.lt_of_lt_of_le (fiB_in hg) (p11 ww)
    have hl : (fiL (sA S)).length ≤ 121 := Nat.le_trans fiB_len (p11 ww)
    obtain ⟨z1, z2, z3, z4⟩ := id m3
    have un : hI h1 s 13 = nI (aUn (sA S)) := (cS_sx w1 m2 (by simp)).2.2.1.2.2.2.2.2.1
    have un2 := ww.2.2.2.2.2.2.2.2.2.2.1
    have rh0 : hR h1 0 0 = some s := by rw [m2.1]; exact r0
    have rf := c_refuse (d := d + 9) (h := h1) (v := 1)
    cases c2 : ix y (fiL (sA S)).length with
    | none =>
      by_cases c : y < 0
      · exact qy_mt (v := 1) I (by decide) (fun Q => by
          simp (implicitDefEqProofs := false) only [eX7_fitAt, rX7_fitAt_0, rX7_fitAt_0b, rX7_fitAt_1, rX7_fitAt_4, rX7_fitAt_7, rX7_fitAt_8, rX7_fitAt_9, rX7_fitAt_9b, rX7_fitAt_10, rX7_fitAt_13, rX7_fitAt_16, rX7_fitAt_17, rX7_fitAt_20, rX7_fitAt_21, rX7_fitAt_21b, rX7_fitAt_22, rX7_fitAt_25, rX7_fitAt_28, rX7_fitAt_31, rX7_fitAt_32, rX7_fitAt_35, rX7_fitAt_36, rX7_fitAt_36b, rX7_fitAt_37, rX7_fitAt_40, rX7_fitAt_43, rX7_fitAt_46, rX7_fitAt_46b, rX7_fitAt_47, rX7_fitAt_48, rX7_fitAt_51, rX7_fitAt_52, rX7_fitAt_52b, rX7_fitAt_53, rX7_fitAt_56, rX7_fitAt_56b, rX7_fitAt_57, rX7_fitAt_60, rX7_fitAt_63, rX7_fitAt_64, rX7_fitAt_65, rX7_fitAt_66, rX7_fitAt_69, kS0 hs, kS1 hs, kT1 hs, fS1 hs F, kS2 hs, kT2 hs, fS2 hs F, kS3 hs, kT3 hs, fS3 hs F, kS4 hs, kT4 hs, fS4 hs F, kS5 hs, kT5 hs, fS5 hs F, kS6 hs, kT6 hs, fS6 hs F, kS7 hs, kT7 hs, fS7 hs F, kS8 hs, kT8 hs, fS8 hs F, kS9 hs, kT9 hs, fS9 hs F, kS10 hs, kT10 hs, fS10 hs F, kS11 hs, kT11 hs, fS11 hs F, nS hs, nSs hs, fin_0_2 F, fin_0_3 F, fin_0_4 F, fin_0_5 F, fin_0_6 F, fin_0_7 F, fin_0_2 FF, fin_0_3 FF, fin_0_4 FF, fin_0_5 FF, fin_0_6 FF, fin_0_7 FF, kA_0, kB_0, kA_39, kB_39, r0, r2, e0, e1, e2, pCX7_fitAt, pSX7_fitAt, pOX7_fitAt, pLX7_fitAt, pCX7_noStreet, pSX7_noStreet, pOX7_noStreet, pLX7_noStreet, pCX7_noHouse, pSX7_noHouse, pOX7_noHouse, pLX7_noHouse, pCX7_outside, pSX7_outside, pOX7_outside, pLX7_outside, pCX7_refuse, pSX7_refuse, pOX7_refuse, pLX7_refuse, pCX1_make, pSX1_make, pOX1_make, pLX1_make, ns, c1, m1, c, rf, show nI 1 = 1 from rfl, nI_0, decide_true, decide_false, bI_t, bI_f, reduceCtorEq, or_self, show ¬ (1 : Int32) = 0 from by decide, tr_R, tr_tr, tr_25, tr_26, tr_27, tr_28, tr_29, tr_30, tr_31, tr_32, tr_33, tr_34, tr_35, tr_36, tr_37, tr_38, tr_39, tr_40, tr_41, tr_42, tr_43, tr_s hs, tr_s1 hs, tr_s2 hs, tr_s3 hs, tr_s4 hs, tr_s5 hs, tr_s6 hs, tr_s7 hs, tr_s8 hs, tr_s9 hs, tr_s10 hs, tr_s11 hs, kl_I, kl_J, kl_R, kl_T, kl_N, Nat.le_refl, Nat.zero_le, List.map_nil, List.map_cons, List.sum_nil, List.sum_cons, c_I, c_J, c_R, c_T, va_rf, hI_wI, hJ_wJ, hR_wR, hI_J, hI_R, hJ_I, hJ_R, hR_I, hR_J, hN_I, hN_J, hN_R, wI_I, wJ_J, upd_at, updL_at, kR_s, Option.toList, List.append_nil, List.nil_append, List.cons_append, if_true, if_false, reduceIte, Bool.false_eq_true, not_true_eq_false, not_false_eq_true, true_and, and_true, false_and, and_false, true_or, or_true,  Nat.reduceEqDiff, Nat.reduceAdd, Nat.reduceLeDiff]) m2 (by simp) kq wq gq
      · have c4 : nI (fiL (sA S)).length ≤ y := (ix_n c2).resolve_left c
        exact qy_mt (v := 1) I (by decide) (fun Q => by
          simp (implicitDefEqProofs := false) only [eX7_fitAt, rX7_fitAt_0, rX7_fitAt_0b, rX7_fitAt_1, rX7_fitAt_4, rX7_fitAt_7, rX7_fitAt_8, rX7_fitAt_9, rX7_fitAt_9b, rX7_fitAt_10, rX7_fitAt_13, rX7_fitAt_16, rX7_fitAt_17, rX7_fitAt_20, rX7_fitAt_21, rX7_fitAt_21b, rX7_fitAt_22, rX7_fitAt_25, rX7_fitAt_28, rX7_fitAt_31, rX7_fitAt_32, rX7_fitAt_35, rX7_fitAt_36, rX7_fitAt_36b, rX7_fitAt_37, rX7_fitAt_40, rX7_fitAt_43, rX7_fitAt_46, rX7_fitAt_46b, rX7_fitAt_47, rX7_fitAt_48, rX7_fitAt_51, rX7_fitAt_52, rX7_fitAt_52b, rX7_fitAt_53, rX7_fitAt_56, rX7_fitAt_56b, rX7_fitAt_57, rX7_fitAt_60, rX7_fitAt_63, rX7_fitAt_64, rX7_fitAt_65, rX7_fitAt_66, rX7_fitAt_69, kS0 hs, kS1 hs, kT1 hs, fS1 hs F, kS2 hs, kT2 hs, fS2 hs F, kS3 hs, kT3 hs, fS3 hs F, kS4 hs, kT4 hs, fS4 hs F, kS5 hs, kT5 hs, fS5 hs F, kS6 hs, kT6 hs, fS6 hs F, kS7 hs, kT7 hs, fS7 hs F, kS8 hs, kT8 hs, fS8 hs F, kS9 hs, kT9 hs, fS9 hs F, kS10 hs, kT10 hs, fS10 hs F, kS11 hs, kT11 hs, fS11 hs F, nS hs, nSs hs, fin_0_2 F, fin_0_3 F, fin_0_4 F, fin_0_5 F, fin_0_6 F, fin_0_7 F, fin_0_2 FF, fin_0_3 FF, fin_0_4 FF, fin_0_5 FF, fin_0_6 FF, fin_0_7 FF, kA_0, kB_0, kA_39, kB_39, r0, r2, e0, e1, e2, pCX7_fitAt, pSX7_fitAt, pOX7_fitAt, pLX7_fitAt, pCX7_noStreet, pSX7_noStreet, pOX7_noStreet, pLX7_noStreet, pCX7_noHouse, pSX7_noHouse, pOX7_noHouse, pLX7_noHouse, pCX7_outside, pSX7_outside, pOX7_outside, pLX7_outside, pCX7_refuse, pSX7_refuse, pOX7_refuse, pLX7_refuse, pCX1_make, pSX1_make, pOX1_make, pLX1_make, ns, c1, m1, c, z2, c4, rf, show nI 1 = 1 from rfl, nI_0, decide_true, decide_false, bI_t, bI_f, reduceCtorEq, or_self, show ¬ (1 : Int32) = 0 from by decide, tr_R, tr_tr, tr_25, tr_26, tr_27, tr_28, tr_29, tr_30, tr_31, tr_32, tr_33, tr_34, tr_35, tr_36, tr_37, tr_38, tr_39, tr_40, tr_41, tr_42, tr_43, tr_s hs, tr_s1 hs, tr_s2 hs, tr_s3 hs, tr_s4 hs, tr_s5 hs, tr_s6 hs, tr_s7 hs, tr_s8 hs, tr_s9 hs, tr_s10 hs, tr_s11 hs, kl_I, kl_J, kl_R, kl_T, kl_N, Nat.le_refl, Nat.zero_le, List.map_nil, List.map_cons, List.sum_nil, List.sum_cons, c_I, c_J, c_R, c_T, va_rf, hI_wI, hJ_wJ, hR_wR, hI_J, hI_R, hJ_I, hJ_R, hR_I, hR_J, hN_I, hN_J, hN_R, wI_I, wJ_J, upd_at, updL_at, kR_s, Option.toList, List.append_nil, List.nil_append, List.cons_append, if_true, if_false, reduceIte, Bool.false_eq_true, not_true_eq_false, not_false_eq_true, true_and, and_true, false_and, and_false, true_or, or_true,  Nat.reduceEqDiff, Nat.reduceAdd, Nat.reduceLeDiff]) m2 (by simp) kq wq gq
    | some i =>
      obtain ⟨rfl, hi⟩ := ix_s (by omega) c2
      have d1 : ¬ nI i < 0 := nI_pos (by omega)
      have d2 : ¬ nI (fiL (sA S)).length ≤ nI i := nI_ge hi (by omega)
      cases c3 : ix z (aUn (sA S)) with
      | none =>
        by_cases c : z < 0
        · exact qy_mt (v := 1) I (by decide) (fun Q => by
            simp (implicitDefEqProofs := false) only [eX7_fitAt, rX7_fitAt_0, rX7_fitAt_0b, rX7_fitAt_1, rX7_fitAt_4, rX7_fitAt_7, rX7_fitAt_8, rX7_fitAt_9, rX7_fitAt_9b, rX7_fitAt_10, rX7_fitAt_13, rX7_fitAt_16, rX7_fitAt_17, rX7_fitAt_20, rX7_fitAt_21, rX7_fitAt_21b, rX7_fitAt_22, rX7_fitAt_25, rX7_fitAt_28, rX7_fitAt_31, rX7_fitAt_32, rX7_fitAt_35, rX7_fitAt_36, rX7_fitAt_36b, rX7_fitAt_37, rX7_fitAt_40, rX7_fitAt_43, rX7_fitAt_46, rX7_fitAt_46b, rX7_fitAt_47, rX7_fitAt_48, rX7_fitAt_51, rX7_fitAt_52, rX7_fitAt_52b, rX7_fitAt_53, rX7_fitAt_56, rX7_fitAt_56b, rX7_fitAt_57, rX7_fitAt_60, rX7_fitAt_63, rX7_fitAt_64, rX7_fitAt_65, rX7_fitAt_66, rX7_fitAt_69, kS0 hs, kS1 hs, kT1 hs, fS1 hs F, kS2 hs, kT2 hs, fS2 hs F, kS3 hs, kT3 hs, fS3 hs F, kS4 hs, kT4 hs, fS4 hs F, kS5 hs, kT5 hs, fS5 hs F, kS6 hs, kT6 hs, fS6 hs F, kS7 hs, kT7 hs, fS7 hs F, kS8 hs, kT8 hs, fS8 hs F, kS9 hs, kT9 hs, fS9 hs F, kS10 hs, kT10 hs, fS10 hs F, kS11 hs, kT11 hs, fS11 hs F, nS hs, nSs hs, fin_0_2 F, fin_0_3 F, fin_0_4 F, fin_0_5 F, fin_0_6 F, fin_0_7 F, fin_0_2 FF, fin_0_3 FF, fin_0_4 FF, fin_0_5 FF, fin_0_6 FF, fin_0_7 FF, kA_0, kB_0, kA_39, kB_39, r0, r2, e0, e1, e2, pCX7_fitAt, pSX7_fitAt, pOX7_fitAt, pLX7_fitAt, pCX7_noStreet, pSX7_noStreet, pOX7_noStreet, pLX7_noStreet, pCX7_noHouse, pSX7_noHouse, pOX7_noHouse, pLX7_noHouse, pCX7_outside, pSX7_outside, pOX7_outside, pLX7_outside, pCX7_refuse, pSX7_refuse, pOX7_refuse, pLX7_refuse, pCX1_make, pSX1_make, pOX1_make, pLX1_make, ns, c1, m1, z2, d1, d2, c, rf, show nI 1 = 1 from rfl, nI_0, decide_true, decide_false, bI_t, bI_f, reduceCtorEq, or_self, show ¬ (1 : Int32) = 0 from by decide, tr_R, tr_tr, tr_25, tr_26, tr_27, tr_28, tr_29, tr_30, tr_31, tr_32, tr_33, tr_34, tr_35, tr_36, tr_37, tr_38, tr_39, tr_40, tr_41, tr_42, tr_43, tr_s hs, tr_s1 hs, tr_s2 hs, tr_s3 hs, tr_s4 hs, tr_s5 hs, tr_s6 hs, tr_s7 hs, tr_s8 hs, tr_s9 hs, tr_s10 hs, tr_s11 hs, kl_I, kl_J, kl_R, kl_T, kl_N, Nat.le_refl, Nat.zero_le, List.map_nil, List.map_cons, List.sum_nil, List.sum_cons, c_I, c_J, c_R, c_T, va_rf, hI_wI, hJ_wJ, hR_wR, hI_J, hI_R, hJ_I, hJ_R, hR_I, hR_J, hN_I, hN_J, hN_R, wI_I, wJ_J, upd_at, updL_at, kR_s, Option.toList, List.append_nil, List.nil_append, List.cons_append, if_true, if_false, reduceIte, Bool.false_eq_true, not_true_eq_false, not_false_eq_true, true_and, and_true, false_and, and_false, true_or, or_true,  Nat.reduceEqDiff, Nat.reduceAdd, Nat.reduceLeDiff]) m2 (by simp) kq wq gq
        · have c4 : ¬ z < nI (aUn (sA S)) := Int32.not_lt.mpr ((ix_n c3).resolve_left c)
          exact qy_mt (v := 1) I (by decide) (fun Q => by
            simp (implicitDefEqProofs := false) only [eX7_fitAt, rX7_fitAt_0, rX7_fitAt_0b, rX7_fitAt_1, rX7_fitAt_4, rX7_fitAt_7, rX7_fitAt_8, rX7_fitAt_9, rX7_fitAt_9b, rX7_fitAt_10, rX7_fitAt_13, rX7_fitAt_16, rX7_fitAt_17, rX7_fitAt_20, rX7_fitAt_21, rX7_fitAt_21b, rX7_fitAt_22, rX7_fitAt_25, rX7_fitAt_28, rX7_fitAt_31, rX7_fitAt_32, rX7_fitAt_35, rX7_fitAt_36, rX7_fitAt_36b, rX7_fitAt_37, rX7_fitAt_40, rX7_fitAt_43, rX7_fitAt_46, rX7_fitAt_46b, rX7_fitAt_47, rX7_fitAt_48, rX7_fitAt_51, rX7_fitAt_52, rX7_fitAt_52b, rX7_fitAt_53, rX7_fitAt_56, rX7_fitAt_56b, rX7_fitAt_57, rX7_fitAt_60, rX7_fitAt_63, rX7_fitAt_64, rX7_fitAt_65, rX7_fitAt_66, rX7_fitAt_69, kS0 hs, kS1 hs, kT1 hs, fS1 hs F, kS2 hs, kT2 hs, fS2 hs F, kS3 hs, kT3 hs, fS3 hs F, kS4 hs, kT4 hs, fS4 hs F, kS5 hs, kT5 hs, fS5 hs F, kS6 hs, kT6 hs, fS6 hs F, kS7 hs, kT7 hs, fS7 hs F, kS8 hs, kT8 hs, fS8 hs F, kS9 hs, kT9 hs, fS9 hs F, kS10 hs, kT10 hs, fS10 hs F, kS11 hs, kT11 hs, fS11 hs F, nS hs, nSs hs, fin_0_2 F, fin_0_3 F, fin_0_4 F, fin_0_5 F, fin_0_6 F, fin_0_7 F, fin_0_2 FF, fin_0_3 FF, fin_0_4 FF, fin_0_5 FF, fin_0_6 FF, fin_0_7 FF, kA_0, kB_0, kA_39, kB_39, r0, r2, e0, e1, e2, pCX7_fitAt, pSX7_fitAt, pOX7_fitAt, pLX7_fitAt, pCX7_noStreet, pSX7_noStreet, pOX7_noStreet, pLX7_noStreet, pCX7_noHouse, pSX7_noHouse, pOX7_noHouse, pLX7_noHouse, pCX7_outside, pSX7_outside, pOX7_outside, pLX7_outside, pCX7_refuse, pSX7_refuse, pOX7_refuse, pLX7_refuse, pCX1_make, pSX1_make, pOX1_make, pLX1_make, ns, c1, m1, z2, d1, d2, c, rh0, un, c4, rf, show nI 1 = 1 from rfl, nI_0, decide_true, decide_false, bI_t, bI_f, reduceCtorEq, or_self, show ¬ (1 : Int32) = 0 from by decide, tr_R, tr_tr, tr_25, tr_26, tr_27, tr_28, tr_29, tr_30, tr_31, tr_32, tr_33, tr_34, tr_35, tr_36, tr_37, tr_38, tr_39, tr_40, tr_41, tr_42, tr_43, tr_s hs, tr_s1 hs, tr_s2 hs, tr_s3 hs, tr_s4 hs, tr_s5 hs, tr_s6 hs, tr_s7 hs, tr_s8 hs, tr_s9 hs, tr_s10 hs, tr_s11 hs, kl_I, kl_J, kl_R, kl_T, kl_N, Nat.le_refl, Nat.zero_le, List.map_nil, List.map_cons, List.sum_nil, List.sum_cons, c_I, c_J, c_R, c_T, va_rf, hI_wI, hJ_wJ, hR_wR, hI_J, hI_R, hJ_I, hJ_R, hR_I, hR_J, hN_I, hN_J, hN_R, wI_I, wJ_J, upd_at, updL_at, kR_s, Option.toList, List.append_nil, List.nil_append, List.cons_append, if_true, if_false, reduceIte, Bool.false_eq_true, not_true_eq_false, not_false_eq_true, true_and, and_true, false_and, and_false, true_or, or_true,  Nat.reduceEqDiff, Nat.reduceAdd, Nat.reduceLeDiff]) m2 (by simp) kq wq gq
      | some u =>
        obtain ⟨rfl, hu⟩ := ix_s (by omega) c3
        have d3 : ¬ nI u < 0 := nI_pos (by omega)
        have d4 : nI u < nI (aUn (sA S)) := nI_lt hu (by omega)
        have v : vp_in (nI i) 121 := nI_vp (by omega) (by decide)
        have cl : (nI i).toNatClampNeg = i := nI_cl (by omega)
        have fe := (z3 i hi).1
        have gu := c_guessed (d := d + 9) (g := (fiL (sA S)).getD i 0) (u := u) FF (by rw [m2.1]; exact r2) (cS_sx w1 m2 (by simp)) (hL _ (getD_in hi)) (by omega)
        exact qy_m0 I (fun Q => by
          simp (implicitDefEqProofs := false) only [eX7_fitAt, rX7_fitAt_0, rX7_fitAt_0b, rX7_fitAt_1, rX7_fitAt_4, rX7_fitAt_7, rX7_fitAt_8, rX7_fitAt_9, rX7_fitAt_9b, rX7_fitAt_10, rX7_fitAt_13, rX7_fitAt_16, rX7_fitAt_17, rX7_fitAt_20, rX7_fitAt_21, rX7_fitAt_21b, rX7_fitAt_22, rX7_fitAt_25, rX7_fitAt_28, rX7_fitAt_31, rX7_fitAt_32, rX7_fitAt_35, rX7_fitAt_36, rX7_fitAt_36b, rX7_fitAt_37, rX7_fitAt_40, rX7_fitAt_43, rX7_fitAt_46, rX7_fitAt_46b, rX7_fitAt_47, rX7_fitAt_48, rX7_fitAt_51, rX7_fitAt_52, rX7_fitAt_52b, rX7_fitAt_53, rX7_fitAt_56, rX7_fitAt_56b, rX7_fitAt_57, rX7_fitAt_60, rX7_fitAt_63, rX7_fitAt_64, rX7_fitAt_65, rX7_fitAt_66, rX7_fitAt_69, kS0 hs, kS1 hs, kT1 hs, fS1 hs F, kS2 hs, kT2 hs, fS2 hs F, kS3 hs, kT3 hs, fS3 hs F, kS4 hs, kT4 hs, fS4 hs F, kS5 hs, kT5 hs, fS5 hs F, kS6 hs, kT6 hs, fS6 hs F, kS7 hs, kT7 hs, fS7 hs F, kS8 hs, kT8 hs, fS8 hs F, kS9 hs, kT9 hs, fS9 hs F, kS10 hs, kT10 hs, fS10 hs F, kS11 hs, kT11 hs, fS11 hs F, nS hs, nSs hs, fin_0_2 F, fin_0_3 F, fin_0_4 F, fin_0_5 F, fin_0_6 F, fin_0_7 F, fin_0_2 FF, fin_0_3 FF, fin_0_4 FF, fin_0_5 FF, fin_0_6 FF, fin_0_7 FF, kA_0, kB_0, kA_39, kB_39, kA_43, kB_43, r0, r2, e0, e1, e2, pCX7_fitAt, pSX7_fitAt, pOX7_fitAt, pLX7_fitAt, pCX7_noStreet, pSX7_noStreet, pOX7_noStreet, pLX7_noStreet, pCX7_noHouse, pSX7_noHouse, pOX7_noHouse, pLX7_noHouse, pCX7_outside, pSX7_outside, pOX7_outside, pLX7_outside, pCX7_refuse, pSX7_refuse, pOX7_refuse, pLX7_refuse, pCX1_make, pSX1_make, pOX1_make, pLX1_make, pCX1_guessed, pSX1_guessed, pOX1_guessed, pLX1_guessed, ns, c1, m1, z2, d1, d2, d3, rh0, un, d4, fin_39_0 FF, fin_39_1 FF, fin_39_2 FF, fin_39_3 FF, fin_39_4 FF, v, cl, fe, gu, nI_0, decide_true, decide_false, bI_t, bI_f, reduceCtorEq, or_self, show ¬ (1 : Int32) = 0 from by decide, tr_R, tr_tr, tr_25, tr_26, tr_27, tr_28, tr_29, tr_30, tr_31, tr_32, tr_33, tr_34, tr_35, tr_36, tr_37, tr_38, tr_39, tr_40, tr_41, tr_42, tr_43, tr_s hs, tr_s1 hs, tr_s2 hs, tr_s3 hs, tr_s4 hs, tr_s5 hs, tr_s6 hs, tr_s7 hs, tr_s8 hs, tr_s9 hs, tr_s10 hs, tr_s11 hs, kl_I, kl_J, kl_R, kl_T, kl_N, Nat.le_refl, Nat.zero_le, List.map_nil, List.map_cons, List.sum_nil, List.sum_cons, c_I, c_J, c_R, c_T, va_rf, hI_wI, hJ_wJ, hR_wR, hI_J, hI_R, hJ_I, hJ_R, hR_I, hR_J, hN_I, hN_J, hN_R, wI_I, wJ_J, upd_at, updL_at, kR_s, Option.toList, List.append_nil, List.nil_append, List.cons_append, if_true, if_false, reduceIte, Bool.false_eq_true, not_true_eq_false, not_false_eq_true, true_and, and_true, false_and, and_false, true_or, or_true,  Nat.reduceEqDiff, Nat.reduceAdd, Nat.reduceLeDiff]) m2 (by simp) kq wq gq
noncomputable def sNextBy (S : AS) (y z : Int32) : Nat × Int32 := match ix y (aN (sA S)) with
  | none => (1, -1)
  | some i => if z < 0 ∨ 90 < z then (2, -1) else (0, nI (ctN (lfF (sA S) (fiL (sA S)) z.toNatClampNeg) i (fiL (sA S)).length))
theorem l_nextBy {d : Nat} {h : qH} {s y x : Nat} {a : aS} {L : List Nat} (F : Fin0 (hR h)) (hf : hR h 32 0 = some s) (w : cS h s a) (gA0 : gA h a L) (hL : ∀ g ∈ L, g < 121) (hl : L.length ≤ 121) (hy : y ≤ 90) (hx : x < aN a) (e6 : hI h 39 6 = nI L.length) {Q : Option (Option Value) → qH → Prop} : ∀ (k i : Nat), i + k = L.length → WP (d + 2) mX7_nextBy (0, 0) 33 [some (.ref (0 : Nat)), some (.int (nI x)), some (.int (nI y)), some (.int (nI (ctN (lfF a L y) x i))), some (.int (nI i))] [] h Q = Q (some (some (.int (nI (ctN (lfF a L y) x L.length))))) h := by
  have n6 := w.2.1.1
  intro k
  induction k with
  | zero =>
    intro i hi
    obtain rfl : i = L.length := by omega
    simp (implicitDefEqProofs := false) only [rX7_nextBy_33, rX7_nextBy_35, rX7_nextBy_35b, rX7_nextBy_36, rX7_nextBy_39, rX7_nextBy_42, rX7_nextBy_45, rX7_nextBy_45b, rX7_nextBy_46, rX7_nextBy_49, rX7_nextBy_51, rX7_nextBy_52, rX7_nextBy_55, rX7_nextBy_56, rX7_nextBy_59, rX7_nextBy_62, rX7_nextBy_68, rX7_nextBy_69, fin_0_2 F, fin_0_3 F, fin_0_4 F, fin_0_5 F, fin_0_6 F, fin_0_7 F, kA_0, kB_0, kA_39, kB_39, pCX7_nextBy, pSX7_nextBy, pOX7_nextBy, pLX7_nextBy, e6, Int32.le_refl, kl_I, kl_J, kl_R, kl_T, kl_N, Nat.le_refl, Nat.zero_le, List.map_nil, List.map_cons, List.sum_nil, List.sum_cons, c_I, c_J, c_R, c_T, va_rf, hI_wI, hJ_wJ, hR_wR, hI_J, hI_R, hJ_I, hJ_R, hR_I, hR_J, hN_I, hN_J, hN_R, wI_I, wJ_J, upd_at, updL_at, kR_s, Option.toList, List.append_nil, List.nil_append, List.cons_append, if_true, if_false, reduceIte, Bool.false_eq_true, not_true_eq_false, not_false_eq_true, true_and, and_true, false_and, and_false, true_or, or_true,  Nat.reduceEqDiff, Nat.reduceAdd, Nat.reduceLeDiff]
  | succ k ih =>
    intro i hi
    have g1 : ¬ nI L.length ≤ nI i := nI_ge (by omega) (by omega)
    have so := c_gSoonest (d := d) (i := i) (y := y) F hf w gA0 hL hl (by omega) (by omega)
    have q := oI_eq (o := soG a (L.getD i 0) y) (j := x) (fun z hz => by have := soo_lt hz; omega) (by omega)
    have i1 := ih (i + 1) (by omega)
    have le : (lfF a L y i = x) = (soG a (L.getD i 0) y = some x) := by
      unfold lfF
      cases hz : soG a (L.getD i 0) y with
      | none => simp only [plN]; apply propext; constructor
                · intro e; omega
                · intro e; cases e
      | some v => simp [plN]
    rw [ctN] at i1
    by_cases c : soG a (L.getD i 0) y = some x
    · rw [if_pos (le.mpr c)] at i1
      simp (implicitDefEqProofs := false) only [rX7_nextBy_33, rX7_nextBy_35, rX7_nextBy_35b, rX7_nextBy_36, rX7_nextBy_39, rX7_nextBy_42, rX7_nextBy_45, rX7_nextBy_45b, rX7_nextBy_46, rX7_nextBy_49, rX7_nextBy_51, rX7_nextBy_52, rX7_nextBy_55, rX7_nextBy_56, rX7_nextBy_59, rX7_nextBy_62, fin_0_2 F, fin_0_3 F, fin_0_4 F, fin_0_5 F, fin_0_6 F, fin_0_7 F, kA_0, kB_0, kA_39, kB_39, pCX7_nextBy, pSX7_nextBy, pOX7_nextBy, pLX7_nextBy, pCX1_soonest, pSX1_soonest, pOX1_soonest, pLX1_soonest, e6, g1, so, q, c, oI_so, kl_I, kl_J, kl_R, kl_T, kl_N, Nat.le_refl, Nat.zero_le, List.map_nil, List.map_cons, List.sum_nil, List.sum_cons, c_I, c_J, c_R, c_T, va_rf, hI_wI, hJ_wJ, hR_wR, hI_J, hI_R, hJ_I, hJ_R, hR_I, hR_J, hN_I, hN_J, hN_R, wI_I, wJ_J, upd_at, updL_at, kR_s, Option.toList, List.append_nil, List.nil_append, List.cons_append, if_true, if_false, reduceIte, Bool.false_eq_true, not_true_eq_false, not_false_eq_true, true_and, and_true, false_and, and_false, true_or, or_true,  Nat.reduceEqDiff, Nat.reduceAdd, Nat.reduceLeDiff]
      rw [rX7_nextBy_65, nI_1, nI_1]
      exact i1
    · rw [if_neg (fun e => c (le.mp e)), Nat.add_zero] at i1
      simp (implicitDefEqProofs := false) only [rX7_nextBy_33, rX7_nextBy_35, rX7_nextBy_35b, rX7_nextBy_36, rX7_nextBy_39, rX7_nextBy_42, rX7_nextBy_45, rX7_nextBy_45b, rX7_nextBy_46, rX7_nextBy_49, rX7_nextBy_51, rX7_nextBy_52, rX7_nextBy_55, rX7_nextBy_56, rX7_nextBy_59, rX7_nextBy_62, fin_0_2 F, fin_0_3 F, fin_0_4 F, fin_0_5 F, fin_0_6 F, fin_0_7 F, kA_0, kB_0, kA_39, kB_39, pCX7_nextBy, pSX7_nextBy, pOX7_nextBy, pLX7_nextBy, pCX1_soonest, pSX1_soonest, pOX1_soonest, pLX1_soonest, e6, g1, so, q, c, kl_I, kl_J, kl_R, kl_T, kl_N, Nat.le_refl, Nat.zero_le, List.map_nil, List.map_cons, List.sum_nil, List.sum_cons, c_I, c_J, c_R, c_T, va_rf, hI_wI, hJ_wJ, hR_wR, hI_J, hI_R, hJ_I, hJ_R, hR_I, hR_J, hN_I, hN_J, hN_R, wI_I, wJ_J, upd_at, updL_at, kR_s, Option.toList, List.append_nil, List.nil_append, List.cons_append, if_true, if_false, reduceIte, Bool.false_eq_true, not_true_eq_false, not_false_eq_true, true_and, and_true, false_and, and_false, true_or, or_true,  Nat.reduceEqDiff, Nat.reduceAdd, Nat.reduceLeDiff]
      rw [rX7_nextBy_65, nI_1]
      exact i1
theorem q_nextBy {d : Nat} {h : qH} {S : AS} {y z : Int32} (I : CI h S) : qy (d + 10) mX7_nextBy [.ref (0 : Nat), .int y, .int z] h S (sNextBy S y z).1 (some (.int (sNextBy S y z).2)) := by
  obtain ⟨s, tu, F, ⟨r0, r1, r2⟩, w, b, k, st, wc, gc, ⟨tbx, tbp, tbm⟩, tp, e8, e9, ep⟩ := id I
  obtain ⟨e0, e1, e2, e4, e5, e7⟩ := st.2.1
  have hs := w.1
  have ww := w.2.1
  have w3 := w.2.2.1
  have n6 := ww.1
  have p64 := p6 n6
  have bx := st.1
  have F1 : Fin0 (hR (tr h 0)) := F
  have w1 : cS (tr h 0) s (sA S) := cS_tr w
  have b1 : bT (tr h 0) (sA S) := bT_sx b tr_sx (by simp)
  have hf1 : hR (tr h 0) 32 0 = some s := r2
  have ns := c_noStreet (d := d + 8) r0 w
  have nh := c_noHouse (d := d + 8) (y := y) r0 w
  have ou := fun v => c_outside (d := d + 8) (h := tr h v) (y := z) (lo := 0) (hi := 90)
  rw [sNextBy]
  cases c1 : ix y (aN (sA S)) with
  | none => exact qy_tr (v := 1) I (by decide) (fun Q => by
      simp (implicitDefEqProofs := false) only [eX7_nextBy, rX7_nextBy_0, rX7_nextBy_0b, rX7_nextBy_1, rX7_nextBy_2, rX7_nextBy_5, rX7_nextBy_8, rX7_nextBy_8b, rX7_nextBy_9, rX7_nextBy_10, rX7_nextBy_11, rX7_nextBy_13, rX7_nextBy_16, rX7_nextBy_19, rX7_nextBy_20, kS0 hs, kS1 hs, kT1 hs, fS1 hs F, kS2 hs, kT2 hs, fS2 hs F, kS3 hs, kT3 hs, fS3 hs F, kS4 hs, kT4 hs, fS4 hs F, kS5 hs, kT5 hs, fS5 hs F, kS6 hs, kT6 hs, fS6 hs F, kS7 hs, kT7 hs, fS7 hs F, kS8 hs, kT8 hs, fS8 hs F, kS9 hs, kT9 hs, fS9 hs F, kS10 hs, kT10 hs, fS10 hs F, kS11 hs, kT11 hs, fS11 hs F, nS hs, nSs hs, fin_0_2 F, fin_0_3 F, fin_0_4 F, fin_0_5 F, fin_0_6 F, fin_0_7 F, kA_0, kB_0, r0, r2, e0, e1, e2, pCX7_nextBy, pSX7_nextBy, pOX7_nextBy, pLX7_nextBy, pCX7_noStreet, pSX7_noStreet, pOX7_noStreet, pLX7_noStreet, pCX7_noHouse, pSX7_noHouse, pOX7_noHouse, pLX7_noHouse, pCX7_outside, pSX7_outside, pOX7_outside, pLX7_outside, pCX7_refuse, pSX7_refuse, pOX7_refuse, pLX7_refuse, nh, c1, show nI 1 = 1 from rfl, nI_0, decide_true, decide_false, bI_t, bI_f, reduceCtorEq, or_self, show ¬ (1 : Int32) = 0 from by decide, tr_R, tr_tr, tr_25, tr_26, tr_27, tr_28, tr_29, tr_30, tr_31, tr_32, tr_33, tr_34, tr_35, tr_36, tr_37, tr_38, tr_39, tr_40, tr_41, tr_42, tr_43, tr_s hs, tr_s1 hs, tr_s2 hs, tr_s3 hs, tr_s4 hs, tr_s5 hs, tr_s6 hs, tr_s7 hs, tr_s8 hs, tr_s9 hs, tr_s10 hs, tr_s11 hs, kl_I, kl_J, kl_R, kl_T, kl_N, Nat.le_refl, Nat.zero_le, List.map_nil, List.map_cons, List.sum_nil, List.sum_cons, c_I, c_J, c_R, c_T, va_rf, hI_wI, hJ_wJ, hR_wR, hI_J, hI_R, hJ_I, hJ_R, hR_I, hR_J, hN_I, hN_J, hN_R, wI_I, wJ_J, upd_at, updL_at, kR_s, Option.toList, List.append_nil, List.nil_append, List.cons_append, if_true, if_false, reduceIte, Bool.false_eq_true, not_true_eq_false, not_false_eq_true, true_and, and_true, false_and, and_false, true_or, or_true,  Nat.reduceEqDiff, Nat.reduceAdd, Nat.reduceLeDiff])
  | some i =>
    simp only
    by_cases c2 : z < 0 ∨ 90 < z
    · rw [if_pos c2]
      exact qy_tr (v := 2) I (by decide) (fun Q => by
        simp (implicitDefEqProofs := false) only [eX7_nextBy, rX7_nextBy_0, rX7_nextBy_0b, rX7_nextBy_1, rX7_nextBy_2, rX7_nextBy_5, rX7_nextBy_8, rX7_nextBy_8b, rX7_nextBy_9, rX7_nextBy_10, rX7_nextBy_11, rX7_nextBy_13, rX7_nextBy_16, rX7_nextBy_19, rX7_nextBy_20, kS0 hs, kS1 hs, kT1 hs, fS1 hs F, kS2 hs, kT2 hs, fS2 hs F, kS3 hs, kT3 hs, fS3 hs F, kS4 hs, kT4 hs, fS4 hs F, kS5 hs, kT5 hs, fS5 hs F, kS6 hs, kT6 hs, fS6 hs F, kS7 hs, kT7 hs, fS7 hs F, kS8 hs, kT8 hs, fS8 hs F, kS9 hs, kT9 hs, fS9 hs F, kS10 hs, kT10 hs, fS10 hs F, kS11 hs, kT11 hs, fS11 hs F, nS hs, nSs hs, fin_0_2 F, fin_0_3 F, fin_0_4 F, fin_0_5 F, fin_0_6 F, fin_0_7 F, kA_0, kB_0, r0, r2, e0, e1, e2, pCX7_nextBy, pSX7_nextBy, pOX7_nextBy, pLX7_nextBy, pCX7_noStreet, pSX7_noStreet, pOX7_noStreet, pLX7_noStreet, pCX7_noHouse, pSX7_noHouse, pOX7_noHouse, pLX7_noHouse, pCX7_outside, pSX7_outside, pOX7_outside, pLX7_outside, pCX7_refuse, pSX7_refuse, pOX7_refuse, pLX7_refuse, nh, c1, ou, c2, show nI 2 = 2 from rfl, nI_0, decide_true, decide_false, bI_t, bI_f, reduceCtorEq, or_self, show ¬ (1 : Int32) = 0 from by decide, tr_R, tr_tr, tr_25, tr_26, tr_27, tr_28, tr_29, tr_30, tr_31, tr_32, tr_33, tr_34, tr_35, tr_36, tr_37, tr_38, tr_39, tr_40, tr_41, tr_42, tr_43, tr_s hs, tr_s1 hs, tr_s2 hs, tr_s3 hs, tr_s4 hs, tr_s5 hs, tr_s6 hs, tr_s7 hs, tr_s8 hs, tr_s9 hs, tr_s10 hs, tr_s11 hs, kl_I, kl_J, kl_R, kl_T, kl_N, Nat.le_refl, Nat.zero_le, List.map_nil, List.map_cons, List.sum_nil, List.sum_cons, c_I, c_J, c_R, c_T, va_rf, hI_wI, hJ_wJ, hR_wR, hI_J, hI_R, hJ_I, hJ_R, hR_I, hR_J, hN_I, hN_J, hN_R, wI_I, wJ_J, upd_at, updL_at, kR_s, Option.toList, List.append_nil, List.nil_append, List.cons_append, if_true, if_false, reduceIte, Bool.false_eq_true, not_true_eq_false, not_false_eq_true, true_and, and_true, false_and, and_false, true_or, or_true,  Nat.reduceEqDiff, Nat.reduceAdd, Nat.reduceLeDiff])
    · rw [if_neg c2]
      obtain ⟨rfl, hi⟩ := ix_s (by omega) c1
      obtain ⟨j, hj, rfl⟩ := dy c2
      obtain ⟨h1, m1, m2, m3⟩ := c_gMake (d := d + 5) F1 hf1 w1 (gC_sx gc tr_sx (by simp) (by simp) (by simp))
      have FF : Fin0 (hR h1) := Fin_sx F1 m2
      have gq : gC h1 (sA S) := .inr m3
      have kq : cC h1 (sA S) := cC_sx (cC_sx k tr_sx (by simp) (by simp)) m2 (by simp) (by simp)
      have wq : wC h1 (sA S) := wC_sx (wC_sx wc tr_sx (by simp) (by simp)) m2 (by simp) (by simp)
      have hL : ∀ g ∈ fiL (sA S), g < 121 := fun g hg => Nat.lt_of_lt_of_le (fiB_in hg) (p11 ww)
      have hl : (fiL (sA S)).length ≤ 121 := Nat.le_trans fiB_len (p11 ww)
      obtain ⟨z1, z2, z3, z4⟩ := id m3
      have cl : (nI j).toNatClampNeg = j := nI_cl (by omega)
      exact qy_m0 I (fun Q => by
        have l := l_nextBy (d := d + 8) (Q := Q) (y := j) FF (by rw [m2.1]; exact r2) (cS_sx w1 m2 (by simp)) z3 hL hl hj hi z2 (fiL (sA S)).length 0 (by omega)
        simp only [ctN, nI_0] at l
        simp (implicitDefEqProofs := false) only [eX7_nextBy, rX7_nextBy_0, rX7_nextBy_0b, rX7_nextBy_1, rX7_nextBy_2, rX7_nextBy_5, rX7_nextBy_8, rX7_nextBy_8b, rX7_nextBy_9, rX7_nextBy_10, rX7_nextBy_11, rX7_nextBy_13, rX7_nextBy_16, rX7_nextBy_19, rX7_nextBy_20, rX7_nextBy_21, rX7_nextBy_21b, rX7_nextBy_22, rX7_nextBy_25, rX7_nextBy_28, rX7_nextBy_29, rX7_nextBy_30, rX7_nextBy_31, kS0 hs, kS1 hs, kT1 hs, fS1 hs F, kS2 hs, kT2 hs, fS2 hs F, kS3 hs, kT3 hs, fS3 hs F, kS4 hs, kT4 hs, fS4 hs F, kS5 hs, kT5 hs, fS5 hs F, kS6 hs, kT6 hs, fS6 hs F, kS7 hs, kT7 hs, fS7 hs F, kS8 hs, kT8 hs, fS8 hs F, kS9 hs, kT9 hs, fS9 hs F, kS10 hs, kT10 hs, fS10 hs F, kS11 hs, kT11 hs, fS11 hs F, nS hs, nSs hs, fin_0_2 F, fin_0_3 F, fin_0_4 F, fin_0_5 F, fin_0_6 F, fin_0_7 F, fin_0_2 FF, fin_0_3 FF, fin_0_4 FF, fin_0_5 FF, fin_0_6 FF, fin_0_7 FF, kA_0, kB_0, kA_39, kB_39, r0, r2, e0, e1, e2, pCX7_nextBy, pSX7_nextBy, pOX7_nextBy, pLX7_nextBy, pCX7_noStreet, pSX7_noStreet, pOX7_noStreet, pLX7_noStreet, pCX7_noHouse, pSX7_noHouse, pOX7_noHouse, pLX7_noHouse, pCX7_outside, pSX7_outside, pOX7_outside, pLX7_outside, pCX7_refuse, pSX7_refuse, pOX7_refuse, pLX7_refuse, pCX1_make, pSX1_make, pOX1_make, pLX1_make, nh, c1, ou, c2, m1, cl, nI_0, decide_true, decide_false, bI_t, bI_f, reduceCtorEq, or_self, show ¬ (1 : Int32) = 0 from by decide, tr_R, tr_tr, tr_25, tr_26, tr_27, tr_28, tr_29, tr_30, tr_31, tr_32, tr_33, tr_34, tr_35, tr_36, tr_37, tr_38, tr_39, tr_40, tr_41, tr_42, tr_43, tr_s hs, tr_s1 hs, tr_s2 hs, tr_s3 hs, tr_s4 hs, tr_s5 hs, tr_s6 hs, tr_s7 hs, tr_s8 hs, tr_s9 hs, tr_s10 hs, tr_s11 hs, kl_I, kl_J, kl_R, kl_T, kl_N, Nat.le_refl, Nat.zero_le, List.map_nil, List.map_cons, List.sum_nil, List.sum_cons, c_I, c_J, c_R, c_T, va_rf, hI_wI, hJ_wJ, hR_wR, hI_J, hI_R, hJ_I, hJ_R, hR_I, hR_J, hN_I, hN_J, hN_R, wI_I, wJ_J, upd_at, updL_at, kR_s, Option.toList, List.append_nil, List.nil_append, List.cons_append, if_true, if_false, reduceIte, Bool.false_eq_true, not_true_eq_false, not_false_eq_true, true_and, and_true, false_and, and_false, true_or, or_true,  Nat.reduceEqDiff, Nat.reduceAdd, Nat.reduceLeDiff]
        exact l) m2 (by simp) kq wq gq
noncomputable def juL (a : aS) : Nat → Nat → Option Nat
  | 0, _ => none
  | k + 1, i => if nxN a 0 (aPu a) (aRd a i) = aRf a i then juL a k (i + 1) else some i
noncomputable def sJudge (S : AS) : Nat × Int32 := if aN (sA S) = 0 then (1, -1) else (0, oI (juL (sA S) (aRu (sA S)) 0))
theorem l_judge {d : Nat} {h : qH} {s : Nat} {a : aS} (F : Fin0 (hR h)) (r0 : hR h 0 0 = some s) (r2 : hR h 32 0 = some s) (w : cS h s a) (b : bT h a) {Q : Option (Option Value) → qH → Prop} : ∀ (k i : Nat), i + k = aRu a → WP (d + 2) mX7_judge (0, 0) 11 [some (.ref (0 : Nat)), some (.int (nI i))] [] h Q = Q (some (some (.int (oI (juL a k i))))) h := by
  have hs := w.1
  have ww := w.2.1
  have w3 := w.2.2.1
  have h4 := ww.2.2.2.2.2.2.2.2.2.2.2.2.2.1
  have w8 := w.2.2.2.2.2.2.2
  have n6 := ww.1
  have p64 := p6 n6
  intro k
  induction k with
  | zero =>
    intro i hi
    obtain rfl : i = aRu a := by omega
    simp (implicitDefEqProofs := false) only [rX7_judge_11, rX7_judge_12, rX7_judge_12b, rX7_judge_13, rX7_judge_16, rX7_judge_19, rX7_judge_22, rX7_judge_22b, rX7_judge_23, rX7_judge_26, rX7_judge_27, rX7_judge_27b, rX7_judge_28, rX7_judge_31, rX7_judge_34, rX7_judge_34b, rX7_judge_35, rX7_judge_38, rX7_judge_41, rX7_judge_42, rX7_judge_43, rX7_judge_46, rX7_judge_46b, rX7_judge_47, rX7_judge_50, rX7_judge_53, rX7_judge_54, rX7_judge_55, rX7_judge_58, rX7_judge_59, rX7_judge_60, rX7_judge_66, rX7_judge_68, kS0 hs, kS1 hs, kT1 hs, fS1 hs F, kS2 hs, kT2 hs, fS2 hs F, kS3 hs, kT3 hs, fS3 hs F, kS4 hs, kT4 hs, fS4 hs F, kS5 hs, kT5 hs, fS5 hs F, kS6 hs, kT6 hs, fS6 hs F, kS7 hs, kT7 hs, fS7 hs F, kS8 hs, kT8 hs, fS8 hs F, kS9 hs, kT9 hs, fS9 hs F, kS10 hs, kT10 hs, fS10 hs F, kS11 hs, kT11 hs, fS11 hs F, nS hs, nSs hs, fin_0_2 F, fin_0_3 F, fin_0_4 F, fin_0_5 F, fin_0_6 F, fin_0_7 F, kA_0, kB_0, kA_32, kB_32, r0, pCX7_judge, pSX7_judge, pOX7_judge, pLX7_judge, w3.2.2.2.2.2.2, Int32.le_refl, juL, oI_no, kl_I, kl_J, kl_R, kl_T, kl_N, Nat.le_refl, Nat.zero_le, List.map_nil, List.map_cons, List.sum_nil, List.sum_cons, c_I, c_J, c_R, c_T, va_rf, hI_wI, hJ_wJ, hR_wR, hI_J, hI_R, hJ_I, hJ_R, hR_I, hR_J, hN_I, hN_J, hN_R, wI_I, wJ_J, upd_at, updL_at, kR_s, Option.toList, List.append_nil, List.nil_append, List.cons_append, if_true, if_false, reduceIte, Bool.false_eq_true, not_true_eq_false, not_false_eq_true, true_and, and_true, false_and, and_false, true_or, or_true,  Nat.reduceEqDiff, Nat.reduceAdd, Nat.reduceLeDiff]
  | succ k ih =>
    intro i hi
    have c1 : i < aRu a := by omega
    have g1 : ¬ nI (aRu a) ≤ nI i := nI_ge c1 (by omega)
    have v4 : vp_in (nI i) 4 := nI_vp (by omega) (by decide)
    have cl : (nI i).toNatClampNeg = i := nI_cl (by omega)
    obtain ⟨e1, e2⟩ := w8 i c1
    obtain ⟨b1, b2⟩ := ww.2.2.2.2.2.2.2.2.2.2.2.2.2.2 i c1
    have pu := ww.2.2.2.1
    have so := c_soonest (d := d) (t := 0) (wi := aPu a) (af := aRd a i) F r2 w b (Nat.pow_pos (by omega)) (by omega) (by omega)
    rw [nI_0] at so
    have q := oI_inj (o := nxN a 0 (aPu a) (aRd a i)) (p := aRf a i) (fun x hx => by have := nxN_lt hx; omega) (fun x hx => by have := b2 x hx; omega)
    rw [juL]
    by_cases c : nxN a 0 (aPu a) (aRd a i) = aRf a i
    · rw [if_pos c]
      simp (implicitDefEqProofs := false) only [rX7_judge_11, rX7_judge_12, rX7_judge_12b, rX7_judge_13, rX7_judge_16, rX7_judge_19, rX7_judge_22, rX7_judge_22b, rX7_judge_23, rX7_judge_26, rX7_judge_27, rX7_judge_27b, rX7_judge_28, rX7_judge_31, rX7_judge_34, rX7_judge_34b, rX7_judge_35, rX7_judge_38, rX7_judge_41, rX7_judge_42, rX7_judge_43, rX7_judge_46, rX7_judge_46b, rX7_judge_47, rX7_judge_50, rX7_judge_53, rX7_judge_54, rX7_judge_55, rX7_judge_58, rX7_judge_59, rX7_judge_60, kS0 hs, kS1 hs, kT1 hs, fS1 hs F, kS2 hs, kT2 hs, fS2 hs F, kS3 hs, kT3 hs, fS3 hs F, kS4 hs, kT4 hs, fS4 hs F, kS5 hs, kT5 hs, fS5 hs F, kS6 hs, kT6 hs, fS6 hs F, kS7 hs, kT7 hs, fS7 hs F, kS8 hs, kT8 hs, fS8 hs F, kS9 hs, kT9 hs, fS9 hs F, kS10 hs, kT10 hs, fS10 hs F, kS11 hs, kT11 hs, fS11 hs F, nS hs, nSs hs, fin_0_2 F, fin_0_3 F, fin_0_4 F, fin_0_5 F, fin_0_6 F, fin_0_7 F, kA_0, kB_0, kA_32, kB_32, r0, pCX7_judge, pSX7_judge, pOX7_judge, pLX7_judge, pCX0_soonest, pSX0_soonest, pOX0_soonest, pLX0_soonest, w3.2.2.2.2.2.2, w3.2.2.1, g1, v4, cl, e1, e2, so, q, c, kl_I, kl_J, kl_R, kl_T, kl_N, Nat.le_refl, Nat.zero_le, List.map_nil, List.map_cons, List.sum_nil, List.sum_cons, c_I, c_J, c_R, c_T, va_rf, hI_wI, hJ_wJ, hR_wR, hI_J, hI_R, hJ_I, hJ_R, hR_I, hR_J, hN_I, hN_J, hN_R, wI_I, wJ_J, upd_at, updL_at, kR_s, Option.toList, List.append_nil, List.nil_append, List.cons_append, if_true, if_false, reduceIte, Bool.false_eq_true, not_true_eq_false, not_false_eq_true, true_and, and_true, false_and, and_false, true_or, or_true,  Nat.reduceEqDiff, Nat.reduceAdd, Nat.reduceLeDiff]
      rw [rX7_judge_63, nI_1]
      exact ih (i + 1) (by omega)
    · rw [if_neg c]
      simp (implicitDefEqProofs := false) only [rX7_judge_11, rX7_judge_12, rX7_judge_12b, rX7_judge_13, rX7_judge_16, rX7_judge_19, rX7_judge_22, rX7_judge_22b, rX7_judge_23, rX7_judge_26, rX7_judge_27, rX7_judge_27b, rX7_judge_28, rX7_judge_31, rX7_judge_34, rX7_judge_34b, rX7_judge_35, rX7_judge_38, rX7_judge_41, rX7_judge_42, rX7_judge_43, rX7_judge_46, rX7_judge_46b, rX7_judge_47, rX7_judge_50, rX7_judge_53, rX7_judge_54, rX7_judge_55, rX7_judge_58, rX7_judge_59, rX7_judge_60, kS0 hs, kS1 hs, kT1 hs, fS1 hs F, kS2 hs, kT2 hs, fS2 hs F, kS3 hs, kT3 hs, fS3 hs F, kS4 hs, kT4 hs, fS4 hs F, kS5 hs, kT5 hs, fS5 hs F, kS6 hs, kT6 hs, fS6 hs F, kS7 hs, kT7 hs, fS7 hs F, kS8 hs, kT8 hs, fS8 hs F, kS9 hs, kT9 hs, fS9 hs F, kS10 hs, kT10 hs, fS10 hs F, kS11 hs, kT11 hs, fS11 hs F, nS hs, nSs hs, fin_0_2 F, fin_0_3 F, fin_0_4 F, fin_0_5 F, fin_0_6 F, fin_0_7 F, kA_0, kB_0, kA_32, kB_32, r0, pCX7_judge, pSX7_judge, pOX7_judge, pLX7_judge, pCX0_soonest, pSX0_soonest, pOX0_soonest, pLX0_soonest, w3.2.2.2.2.2.2, w3.2.2.1, g1, v4, cl, e1, e2, so, q, c, oI_so, kl_I, kl_J, kl_R, kl_T, kl_N, Nat.le_refl, Nat.zero_le, List.map_nil, List.map_cons, List.sum_nil, List.sum_cons, c_I, c_J, c_R, c_T, va_rf, hI_wI, hJ_wJ, hR_wR, hI_J, hI_R, hJ_I, hJ_R, hR_I, hR_J, hN_I, hN_J, hN_R, wI_I, wJ_J, upd_at, updL_at, kR_s, Option.toList, List.append_nil, List.nil_append, List.cons_append, if_true, if_false, reduceIte, Bool.false_eq_true, not_true_eq_false, not_false_eq_true, true_and, and_true, false_and, and_false, true_or, or_true,  Nat.reduceEqDiff, Nat.reduceAdd, Nat.reduceLeDiff]
theorem q_judge {d : Nat} {h : qH} {S : AS} (I : CI h S) : qy (d + 10) mX7_judge [.ref (0 : Nat)] h S (sJudge S).1 (some (.int (sJudge S).2)) := by
  obtain ⟨s, tu, F, ⟨r0, r1, r2⟩, w, b, k, st, wc, gc, ⟨tbx, tbp, tbm⟩, tp, e8, e9, ep⟩ := id I
  obtain ⟨e0, e1, e2, e4, e5, e7⟩ := st.2.1
  have hs := w.1
  have ww := w.2.1
  have w3 := w.2.2.1
  have n6 := ww.1
  have p64 := p6 n6
  have bx := st.1
  have F1 : Fin0 (hR (tr h 0)) := F
  have w1 : cS (tr h 0) s (sA S) := cS_tr w
  have b1 : bT (tr h 0) (sA S) := bT_sx b tr_sx (by simp)
  have hf1 : hR (tr h 0) 32 0 = some s := r2
  have ns := c_noStreet (d := d + 8) r0 w
  by_cases c1 : aN (sA S) = 0
  · rw [sJudge, if_pos c1]
    exact qy_tr (v := 1) I (by decide) (fun Q => by
      simp (implicitDefEqProofs := false) only [eX7_judge, rX7_judge_0, rX7_judge_0b, rX7_judge_1, rX7_judge_4, rX7_judge_7, rX7_judge_8, kS0 hs, kS1 hs, kT1 hs, fS1 hs F, kS2 hs, kT2 hs, fS2 hs F, kS3 hs, kT3 hs, fS3 hs F, kS4 hs, kT4 hs, fS4 hs F, kS5 hs, kT5 hs, fS5 hs F, kS6 hs, kT6 hs, fS6 hs F, kS7 hs, kT7 hs, fS7 hs F, kS8 hs, kT8 hs, fS8 hs F, kS9 hs, kT9 hs, fS9 hs F, kS10 hs, kT10 hs, fS10 hs F, kS11 hs, kT11 hs, fS11 hs F, nS hs, nSs hs, fin_0_2 F, fin_0_3 F, fin_0_4 F, fin_0_5 F, fin_0_6 F, fin_0_7 F, kA_0, kB_0, r0, r2, e0, e1, e2, pCX7_judge, pSX7_judge, pOX7_judge, pLX7_judge, pCX7_noStreet, pSX7_noStreet, pOX7_noStreet, pLX7_noStreet, pCX7_noHouse, pSX7_noHouse, pOX7_noHouse, pLX7_noHouse, pCX7_outside, pSX7_outside, pOX7_outside, pLX7_outside, pCX7_refuse, pSX7_refuse, pOX7_refuse, pLX7_refuse, ns, c1, show nI 1 = 1 from rfl, nI_0, decide_true, decide_false, bI_t, bI_f, reduceCtorEq, or_self, show ¬ (1 : Int32) = 0 from by decide, tr_R, tr_tr, tr_25, tr_26, tr_27, tr_28, tr_29, tr_30, tr_31, tr_32, tr_33, tr_34, tr_35, tr_36, tr_37, tr_38, tr_39, tr_40, tr_41, tr_42, tr_43, tr_s hs, tr_s1 hs, tr_s2 hs, tr_s3 hs, tr_s4 hs, tr_s5 hs, tr_s6 hs, tr_s7 hs, tr_s8 hs, tr_s9 hs, tr_s10 hs, tr_s11 hs, kl_I, kl_J, kl_R, kl_T, kl_N, Nat.le_refl, Nat.zero_le, List.map_nil, List.map_cons, List.sum_nil, List.sum_cons, c_I, c_J, c_R, c_T, va_rf, hI_wI, hJ_wJ, hR_wR, hI_J, hI_R, hJ_I, hJ_R, hR_I, hR_J, hN_I, hN_J, hN_R, wI_I, wJ_J, upd_at, updL_at, kR_s, Option.toList, List.append_nil, List.nil_append, List.cons_append, if_true, if_false, reduceIte, Bool.false_eq_true, not_true_eq_false, not_false_eq_true, true_and, and_true, false_and, and_false, true_or, or_true,  Nat.reduceEqDiff, Nat.reduceAdd, Nat.reduceLeDiff])
  · rw [sJudge, if_neg c1]
    exact qy_tr (v := 0) I (by decide) (fun Q => by
      have l := l_judge (d := d + 8) (Q := Q) F1 (show hR (tr h 0) 0 0 = some s from r0) hf1 w1 b1 (aRu (sA S)) 0 (by omega)
      rw [nI_0] at l
      simp (implicitDefEqProofs := false) only [eX7_judge, rX7_judge_0, rX7_judge_0b, rX7_judge_1, rX7_judge_4, rX7_judge_7, rX7_judge_8, rX7_judge_9, rX7_judge_10, kS0 hs, kS1 hs, kT1 hs, fS1 hs F, kS2 hs, kT2 hs, fS2 hs F, kS3 hs, kT3 hs, fS3 hs F, kS4 hs, kT4 hs, fS4 hs F, kS5 hs, kT5 hs, fS5 hs F, kS6 hs, kT6 hs, fS6 hs F, kS7 hs, kT7 hs, fS7 hs F, kS8 hs, kT8 hs, fS8 hs F, kS9 hs, kT9 hs, fS9 hs F, kS10 hs, kT10 hs, fS10 hs F, kS11 hs, kT11 hs, fS11 hs F, nS hs, nSs hs, fin_0_2 F, fin_0_3 F, fin_0_4 F, fin_0_5 F, fin_0_6 F, fin_0_7 F, kA_0, kB_0, r0, r2, e0, e1, e2, pCX7_judge, pSX7_judge, pOX7_judge, pLX7_judge, pCX7_noStreet, pSX7_noStreet, pOX7_noStreet, pLX7_noStreet, pCX7_noHouse, pSX7_noHouse, pOX7_noHouse, pLX7_noHouse, pCX7_outside, pSX7_outside, pOX7_outside, pLX7_outside, pCX7_refuse, pSX7_refuse, pOX7_refuse, pLX7_refuse, ns, c1, nI_0, decide_true, decide_false, bI_t, bI_f, reduceCtorEq, or_self, show ¬ (1 : Int32) = 0 from by decide, tr_R, tr_tr, tr_25, tr_26, tr_27, tr_28, tr_29, tr_30, tr_31, tr_32, tr_33, tr_34, tr_35, tr_36, tr_37, tr_38, tr_39, tr_40, tr_41, tr_42, tr_43, tr_s hs, tr_s1 hs, tr_s2 hs, tr_s3 hs, tr_s4 hs, tr_s5 hs, tr_s6 hs, tr_s7 hs, tr_s8 hs, tr_s9 hs, tr_s10 hs, tr_s11 hs, kl_I, kl_J, kl_R, kl_T, kl_N, Nat.le_refl, Nat.zero_le, List.map_nil, List.map_cons, List.sum_nil, List.sum_cons, c_I, c_J, c_R, c_T, va_rf, hI_wI, hJ_wJ, hR_wR, hI_J, hI_R, hJ_I, hJ_R, hR_I, hR_J, hN_I, hN_J, hN_R, wI_I, wJ_J, upd_at, updL_at, kR_s, Option.toList, List.append_nil, List.nil_append, List.cons_append, if_true, if_false, reduceIte, Bool.false_eq_true, not_true_eq_false, not_false_eq_true, true_and, and_true, false_and, and_false, true_or, or_true,  Nat.reduceEqDiff, Nat.reduceAdd, Nat.reduceLeDiff]
      exact l)
def haN (S : AS) (m t : Bool) : Int32 := if m = true then (if t = true then 1 else 4) - nI (aFr (sA S)) else if t = true then 3 else 0
theorem c_has {d : Nat} {h : qH} {S : AS} {s : Nat} {m t : Bool} (r0 : hR h 0 0 = some s) (w : cS h s (sA S)) : ∀ Q, WM d mX7_has [.ref (0 : Nat), .int (bI m), .int (bI t)] h Q = Q (some (some (.int (haN S m t)))) h := by
  intro Q
  have hs := w.1
  have w3 := w.2.2.1
  cases m <;> cases t <;> simp (implicitDefEqProofs := false) only [eX7_has, rX7_has_0, rX7_has_1, rX7_has_4, rX7_has_5, rX7_has_8, rX7_has_9, rX7_has_12, rX7_has_13, rX7_has_13b, rX7_has_14, rX7_has_17, rX7_has_20, rX7_has_21, rX7_has_22, rX7_has_23, rX7_has_26, rX7_has_27, rX7_has_30, rX7_has_31, kS0 hs, nS hs, nSs hs, kA_0, kB_0, r0, pCX7_has, pSX7_has, pOX7_has, pLX7_has, w3.1, haN, bI_t, bI_f, show ¬ (1 : Int32) = 0 from by decide, kl_I, kl_J, kl_R, kl_T, kl_N, Nat.le_refl, Nat.zero_le, List.map_nil, List.map_cons, List.sum_nil, List.sum_cons, c_I, c_J, c_R, c_T, va_rf, hI_wI, hJ_wJ, hR_wR, hI_J, hI_R, hJ_I, hJ_R, hR_I, hR_J, hN_I, hN_J, hN_R, wI_I, wJ_J, upd_at, updL_at, kR_s, Option.toList, List.append_nil, List.nil_append, List.cons_append, if_true, if_false, reduceIte, Bool.false_eq_true, not_true_eq_false, not_false_eq_true, true_and, and_true, false_and, and_false, true_or, or_true,  Nat.reduceEqDiff, Nat.reduceAdd, Nat.reduceLeDiff]
def stN (S : AS) (m t : Bool) : Bool := decide (haN S (!m) t ≤ haN S m t) && decide (haN S (!t) m ≤ haN S t m)
theorem c_stays {d : Nat} {h : qH} {S : AS} {s : Nat} {m t : Bool} (r0 : hR h 0 0 = some s) (w : cS h s (sA S)) : ∀ Q, WM (d + 1) mX7_stays [.ref (0 : Nat), .int (bI m), .int (bI t)] h Q = Q (some (some (.int (bI (stN S m t))))) h := by
  intro Q
  have c1 := c_has (d := d) (m := m) (t := t) r0 w
  have c2 := c_has (d := d) (m := !m) (t := t) r0 w
  have c3 := c_has (d := d) (m := t) (t := m) r0 w
  have c4 := c_has (d := d) (m := !t) (t := m) r0 w
  unfold stN
  by_cases q1 : haN S (!m) t ≤ haN S m t
  · have q1' : ¬ haN S m t < haN S (!m) t := Int32.not_lt.mpr q1
    by_cases q2 : haN S (!t) m ≤ haN S t m
    · have q2' : ¬ haN S t m < haN S (!t) m := Int32.not_lt.mpr q2
      cases m <;> cases t <;> (simp only [Bool.not_true, Bool.not_false, bI_t, bI_f] at c1 c2 c3 c4 q1 q2 q1' q2' ⊢; simp (implicitDefEqProofs := false) only [eX7_stays, rX7_stays_0, rX7_stays_0b, rX7_stays_1, rX7_stays_2, rX7_stays_3, rX7_stays_6, rX7_stays_6b, rX7_stays_7, rX7_stays_8, rX7_stays_11, rX7_stays_12, rX7_stays_15, rX7_stays_16, rX7_stays_17, rX7_stays_20, rX7_stays_23, rX7_stays_23b, rX7_stays_24, rX7_stays_25, rX7_stays_26, rX7_stays_29, rX7_stays_29b, rX7_stays_30, rX7_stays_31, rX7_stays_34, rX7_stays_35, rX7_stays_38, rX7_stays_39, rX7_stays_40, rX7_stays_43, rX7_stays_46, rX7_stays_47, rX7_stays_50, rX7_stays_51, kA_0, kB_0, r0, pCX7_stays, pSX7_stays, pOX7_stays, pLX7_stays, pCX7_has, pSX7_has, pOX7_has, pLX7_has, c1, c2, c3, c4, q1, q2, q1', q2', decide_true, Bool.and_true, bI_t, bI_f, show ¬ (1 : Int32) = 0 from by decide, kl_I, kl_J, kl_R, kl_T, kl_N, Nat.le_refl, Nat.zero_le, List.map_nil, List.map_cons, List.sum_nil, List.sum_cons, c_I, c_J, c_R, c_T, va_rf, hI_wI, hJ_wJ, hR_wR, hI_J, hI_R, hJ_I, hJ_R, hR_I, hR_J, hN_I, hN_J, hN_R, wI_I, wJ_J, upd_at, updL_at, kR_s, Option.toList, List.append_nil, List.nil_append, List.cons_append, if_true, if_false, reduceIte, Bool.false_eq_true, not_true_eq_false, not_false_eq_true, true_and, and_true, false_and, and_false, true_or, or_true,  Nat.reduceEqDiff, Nat.reduceAdd, Nat.reduceLeDiff])
    · have q2' : haN S t m < haN S (!t) m := Int32.not_le.mp q2
      cases m <;> cases t <;> first | exact absurd q1 q2 | (simp only [Bool.not_true, Bool.not_false, bI_t, bI_f] at c1 c2 c3 c4 q1 q2 q1' q2' ⊢; simp (implicitDefEqProofs := false) only [eX7_stays, rX7_stays_0, rX7_stays_0b, rX7_stays_1, rX7_stays_2, rX7_stays_3, rX7_stays_6, rX7_stays_6b, rX7_stays_7, rX7_stays_8, rX7_stays_11, rX7_stays_12, rX7_stays_15, rX7_stays_16, rX7_stays_17, rX7_stays_20, rX7_stays_23, rX7_stays_23b, rX7_stays_24, rX7_stays_25, rX7_stays_26, rX7_stays_29, rX7_stays_29b, rX7_stays_30, rX7_stays_31, rX7_stays_34, rX7_stays_35, rX7_stays_38, rX7_stays_39, rX7_stays_40, rX7_stays_43, rX7_stays_46, rX7_stays_47, rX7_stays_50, rX7_stays_51, kA_0, kB_0, r0, pCX7_stays, pSX7_stays, pOX7_stays, pLX7_stays, pCX7_has, pSX7_has, pOX7_has, pLX7_has, c1, c2, c3, c4, q1, q2, q1', q2', decide_true, decide_false, Bool.and_false, bI_t, bI_f, show ¬ (1 : Int32) = 0 from by decide, kl_I, kl_J, kl_R, kl_T, kl_N, Nat.le_refl, Nat.zero_le, List.map_nil, List.map_cons, List.sum_nil, List.sum_cons, c_I, c_J, c_R, c_T, va_rf, hI_wI, hJ_wJ, hR_wR, hI_J, hI_R, hJ_I, hJ_R, hR_I, hR_J, hN_I, hN_J, hN_R, wI_I, wJ_J, upd_at, updL_at, kR_s, Option.toList, List.append_nil, List.nil_append, List.cons_append, if_true, if_false, reduceIte, Bool.false_eq_true, not_true_eq_false, not_false_eq_true, true_and, and_true, false_and, and_false, true_or, or_true,  Nat.reduceEqDiff, Nat.reduceAdd, Nat.reduceLeDiff])
  · have q1' : haN S m t < haN S (!m) t := Int32.not_le.mp q1
    cases m <;> cases t <;> (simp only [Bool.not_true, Bool.not_false, bI_t, bI_f] at c1 c2 c3 c4 q1 q1' ⊢; simp (implicitDefEqProofs := false) only [eX7_stays, rX7_stays_0, rX7_stays_0b, rX7_stays_1, rX7_stays_2, rX7_stays_3, rX7_stays_6, rX7_stays_6b, rX7_stays_7, rX7_stays_8, rX7_stays_11, rX7_stays_12, rX7_stays_15, rX7_stays_16, rX7_stays_17, rX7_stays_20, rX7_stays_23, rX7_stays_23b, rX7_stays_24, rX7_stays_25, rX7_stays_26, rX7_stays_29, rX7_stays_29b, rX7_stays_30, rX7_stays_31, rX7_stays_34, rX7_stays_35, rX7_stays_38, rX7_stays_39, rX7_stays_40, rX7_stays_43, rX7_stays_46, rX7_stays_47, rX7_stays_50, rX7_stays_51, kA_0, kB_0, r0, pCX7_stays, pSX7_stays, pOX7_stays, pLX7_stays, pCX7_has, pSX7_has, pOX7_has, pLX7_has, c1, c2, c3, c4, q1, q1', decide_false, Bool.false_and, bI_t, bI_f, show ¬ (1 : Int32) = 0 from by decide, kl_I, kl_J, kl_R, kl_T, kl_N, Nat.le_refl, Nat.zero_le, List.map_nil, List.map_cons, List.sum_nil, List.sum_cons, c_I, c_J, c_R, c_T, va_rf, hI_wI, hJ_wJ, hR_wR, hI_J, hI_R, hJ_I, hJ_R, hR_I, hR_J, hN_I, hN_J, hN_R, wI_I, wJ_J, upd_at, updL_at, kR_s, Option.toList, List.append_nil, List.nil_append, List.cons_append, if_true, if_false, reduceIte, Bool.false_eq_true, not_true_eq_false, not_false_eq_true, true_and, and_true, false_and, and_false, true_or, or_true,  Nat.reduceEqDiff, Nat.reduceAdd, Nat.reduceLeDiff])
def sRings (S : AS) (m t e : Bool) : Nat × Int32 := if aN (sA S) = 0 then (1, -100) else (0, if e = true then haN S t m else haN S m t)
theorem q_rings {d : Nat} {h : qH} {S : AS} {m t e : Bool} (I : CI h S) : qy (d + 10) mX7_rings [.ref (0 : Nat), .int (bI m), .int (bI t), .int (bI e)] h S (sRings S m t e).1 (some (.int (sRings S m t e).2)) := by
  obtain ⟨s, tu, F, ⟨r0, r1, r2⟩, w, b, k, st, wc, gc, ⟨tbx, tbp, tbm⟩, tp, e8, e9, ep⟩ := id I
  obtain ⟨e0, e1, e2, e4, e5, e7⟩ := st.2.1
  have hs := w.1
  have ww := w.2.1
  have w3 := w.2.2.1
  have n6 := ww.1
  have p64 := p6 n6
  have bx := st.1
  have F1 : Fin0 (hR (tr h 0)) := F
  have w1 : cS (tr h 0) s (sA S) := cS_tr w
  have b1 : bT (tr h 0) (sA S) := bT_sx b tr_sx (by simp)
  have hf1 : hR (tr h 0) 32 0 = some s := r2
  have ns := c_noStreet (d := d + 8) r0 w
  rw [sRings]
  by_cases c1 : aN (sA S) = 0
  · rw [if_pos c1]
    exact qy_tr (v := 1) I (by decide) (fun Q => by
      simp (implicitDefEqProofs := false) only [eX7_rings, rX7_rings_0, rX7_rings_0b, rX7_rings_1, rX7_rings_4, rX7_rings_7, rX7_rings_9, kS0 hs, kS1 hs, kT1 hs, fS1 hs F, kS2 hs, kT2 hs, fS2 hs F, kS3 hs, kT3 hs, fS3 hs F, kS4 hs, kT4 hs, fS4 hs F, kS5 hs, kT5 hs, fS5 hs F, kS6 hs, kT6 hs, fS6 hs F, kS7 hs, kT7 hs, fS7 hs F, kS8 hs, kT8 hs, fS8 hs F, kS9 hs, kT9 hs, fS9 hs F, kS10 hs, kT10 hs, fS10 hs F, kS11 hs, kT11 hs, fS11 hs F, nS hs, nSs hs, fin_0_2 F, fin_0_3 F, fin_0_4 F, fin_0_5 F, fin_0_6 F, fin_0_7 F, kA_0, kB_0, r0, r2, e0, e1, e2, pCX7_rings, pSX7_rings, pOX7_rings, pLX7_rings, pCX7_noStreet, pSX7_noStreet, pOX7_noStreet, pLX7_noStreet, pCX7_noHouse, pSX7_noHouse, pOX7_noHouse, pLX7_noHouse, pCX7_outside, pSX7_outside, pOX7_outside, pLX7_outside, pCX7_refuse, pSX7_refuse, pOX7_refuse, pLX7_refuse, ns, c1, show nI 1 = 1 from rfl, nI_0, decide_true, decide_false, bI_t, bI_f, reduceCtorEq, or_self, show ¬ (1 : Int32) = 0 from by decide, tr_R, tr_tr, tr_25, tr_26, tr_27, tr_28, tr_29, tr_30, tr_31, tr_32, tr_33, tr_34, tr_35, tr_36, tr_37, tr_38, tr_39, tr_40, tr_41, tr_42, tr_43, tr_s hs, tr_s1 hs, tr_s2 hs, tr_s3 hs, tr_s4 hs, tr_s5 hs, tr_s6 hs, tr_s7 hs, tr_s8 hs, tr_s9 hs, tr_s10 hs, tr_s11 hs, kl_I, kl_J, kl_R, kl_T, kl_N, Nat.le_refl, Nat.zero_le, List.map_nil, List.map_cons, List.sum_nil, List.sum_cons, c_I, c_J, c_R, c_T, va_rf, hI_wI, hJ_wJ, hR_wR, hI_J, hI_R, hJ_I, hJ_R, hR_I, hR_J, hN_I, hN_J, hN_R, wI_I, wJ_J, upd_at, updL_at, kR_s, Option.toList, List.append_nil, List.nil_append, List.cons_append, if_true, if_false, reduceIte, Bool.false_eq_true, not_true_eq_false, not_false_eq_true, true_and, and_true, false_and, and_false, true_or, or_true,  Nat.reduceEqDiff, Nat.reduceAdd, Nat.reduceLeDiff])
  · rw [if_neg c1]
    have h1 := c_has (d := d + 9) (h := tr h 0) (m := m) (t := t) r0 w1
    have h2 := c_has (d := d + 9) (h := tr h 0) (m := t) (t := m) r0 w1
    cases e with
    | true => exact qy_tr (v := 0) I (by decide) (fun Q => by
        simp (implicitDefEqProofs := false) only [eX7_rings, rX7_rings_0, rX7_rings_0b, rX7_rings_1, rX7_rings_4, rX7_rings_7, rX7_rings_9, rX7_rings_10, rX7_rings_11, rX7_rings_14, rX7_rings_14b, rX7_rings_15, rX7_rings_16, rX7_rings_17, rX7_rings_20, rX7_rings_23, rX7_rings_23b, rX7_rings_24, rX7_rings_25, rX7_rings_26, rX7_rings_29, kS0 hs, kS1 hs, kT1 hs, fS1 hs F, kS2 hs, kT2 hs, fS2 hs F, kS3 hs, kT3 hs, fS3 hs F, kS4 hs, kT4 hs, fS4 hs F, kS5 hs, kT5 hs, fS5 hs F, kS6 hs, kT6 hs, fS6 hs F, kS7 hs, kT7 hs, fS7 hs F, kS8 hs, kT8 hs, fS8 hs F, kS9 hs, kT9 hs, fS9 hs F, kS10 hs, kT10 hs, fS10 hs F, kS11 hs, kT11 hs, fS11 hs F, nS hs, nSs hs, fin_0_2 F, fin_0_3 F, fin_0_4 F, fin_0_5 F, fin_0_6 F, fin_0_7 F, kA_0, kB_0, r0, r2, e0, e1, e2, pCX7_rings, pSX7_rings, pOX7_rings, pLX7_rings, pCX7_noStreet, pSX7_noStreet, pOX7_noStreet, pLX7_noStreet, pCX7_noHouse, pSX7_noHouse, pOX7_noHouse, pLX7_noHouse, pCX7_outside, pSX7_outside, pOX7_outside, pLX7_outside, pCX7_refuse, pSX7_refuse, pOX7_refuse, pLX7_refuse, pCX7_has, pSX7_has, pOX7_has, pLX7_has, ns, c1, h1, h2, nI_0, decide_true, decide_false, bI_t, bI_f, reduceCtorEq, or_self, show ¬ (1 : Int32) = 0 from by decide, tr_R, tr_tr, tr_25, tr_26, tr_27, tr_28, tr_29, tr_30, tr_31, tr_32, tr_33, tr_34, tr_35, tr_36, tr_37, tr_38, tr_39, tr_40, tr_41, tr_42, tr_43, tr_s hs, tr_s1 hs, tr_s2 hs, tr_s3 hs, tr_s4 hs, tr_s5 hs, tr_s6 hs, tr_s7 hs, tr_s8 hs, tr_s9 hs, tr_s10 hs, tr_s11 hs, kl_I, kl_J, kl_R, kl_T, kl_N, Nat.le_refl, Nat.zero_le, List.map_nil, List.map_cons, List.sum_nil, List.sum_cons, c_I, c_J, c_R, c_T, va_rf, hI_wI, hJ_wJ, hR_wR, hI_J, hI_R, hJ_I, hJ_R, hR_I, hR_J, hN_I, hN_J, hN_R, wI_I, wJ_J, upd_at, updL_at, kR_s, Option.toList, List.append_nil, List.nil_append, List.cons_append, if_true, if_false, reduceIte, Bool.false_eq_true, not_true_eq_false, not_false_eq_true, true_and, and_true, false_and, and_false, true_or, or_true,  Nat.reduceEqDiff, Nat.reduceAdd, Nat.reduceLeDiff])
    | false => exact qy_tr (v := 0) I (by decide) (fun Q => by
        simp (implicitDefEqProofs := false) only [eX7_rings, rX7_rings_0, rX7_rings_0b, rX7_rings_1, rX7_rings_4, rX7_rings_7, rX7_rings_9, rX7_rings_10, rX7_rings_11, rX7_rings_14, rX7_rings_14b, rX7_rings_15, rX7_rings_16, rX7_rings_17, rX7_rings_20, rX7_rings_23, rX7_rings_23b, rX7_rings_24, rX7_rings_25, rX7_rings_26, rX7_rings_29, kS0 hs, kS1 hs, kT1 hs, fS1 hs F, kS2 hs, kT2 hs, fS2 hs F, kS3 hs, kT3 hs, fS3 hs F, kS4 hs, kT4 hs, fS4 hs F, kS5 hs, kT5 hs, fS5 hs F, kS6 hs, kT6 hs, fS6 hs F, kS7 hs, kT7 hs, fS7 hs F, kS8 hs, kT8 hs, fS8 hs F, kS9 hs, kT9 hs, fS9 hs F, kS10 hs, kT10 hs, fS10 hs F, kS11 hs, kT11 hs, fS11 hs F, nS hs, nSs hs, fin_0_2 F, fin_0_3 F, fin_0_4 F, fin_0_5 F, fin_0_6 F, fin_0_7 F, kA_0, kB_0, r0, r2, e0, e1, e2, pCX7_rings, pSX7_rings, pOX7_rings, pLX7_rings, pCX7_noStreet, pSX7_noStreet, pOX7_noStreet, pLX7_noStreet, pCX7_noHouse, pSX7_noHouse, pOX7_noHouse, pLX7_noHouse, pCX7_outside, pSX7_outside, pOX7_outside, pLX7_outside, pCX7_refuse, pSX7_refuse, pOX7_refuse, pLX7_refuse, pCX7_has, pSX7_has, pOX7_has, pLX7_has, ns, c1, h1, h2, nI_0, decide_true, decide_false, bI_t, bI_f, reduceCtorEq, or_self, show ¬ (1 : Int32) = 0 from by decide, tr_R, tr_tr, tr_25, tr_26, tr_27, tr_28, tr_29, tr_30, tr_31, tr_32, tr_33, tr_34, tr_35, tr_36, tr_37, tr_38, tr_39, tr_40, tr_41, tr_42, tr_43, tr_s hs, tr_s1 hs, tr_s2 hs, tr_s3 hs, tr_s4 hs, tr_s5 hs, tr_s6 hs, tr_s7 hs, tr_s8 hs, tr_s9 hs, tr_s10 hs, tr_s11 hs, kl_I, kl_J, kl_R, kl_T, kl_N, Nat.le_refl, Nat.zero_le, List.map_nil, List.map_cons, List.sum_nil, List.sum_cons, c_I, c_J, c_R, c_T, va_rf, hI_wI, hJ_wJ, hR_wR, hI_J, hI_R, hJ_I, hJ_R, hR_I, hR_J, hN_I, hN_J, hN_R, wI_I, wJ_J, upd_at, updL_at, kR_s, Option.toList, List.append_nil, List.nil_append, List.cons_append, if_true, if_false, reduceIte, Bool.false_eq_true, not_true_eq_false, not_false_eq_true, true_and, and_true, false_and, and_false, true_or, or_true,  Nat.reduceEqDiff, Nat.reduceAdd, Nat.reduceLeDiff])
def rsN (S : AS) (k : Nat) : Bool := stN S (decide (2 ≤ k)) (decide (k % 2 = 1))
def rsC (S : AS) : Nat → Nat
  | 0 => 0
  | n + 1 => rsC S n + (if rsN S n = true then 1 else 0)
def rsF (S : AS) : Nat → Nat → Option Nat
  | 0, _ => none
  | k + 1, i => if rsN S i = true then some (i / 2 * 10 + i % 2) else rsF S k (i + 1)
def sRests (S : AS) : Nat × Int32 := if aN (sA S) = 0 then (1, -1) else (0, nI (rsC S 4))
def sRest (S : AS) : Nat × Int32 := if aN (sA S) = 0 then (1, -1) else (0, oI (rsF S 4 0))
theorem l_rests {d : Nat} {h : qH} {S : AS} {s : Nat} (r0 : hR h 0 0 = some s) (w : cS h s (sA S)) {Q : Option (Option Value) → qH → Prop} : ∀ (k i : Nat), i + k = 4 → WP (d + 2) mX7_rests (0, 0) 13 [some (.ref (0 : Nat)), some (.int (nI (rsC S i))), some (.int (nI i))] [] h Q = Q (some (some (.int (nI (rsC S 4))))) h := by
  intro k
  induction k with
  | zero =>
    intro i hi
    obtain rfl : i = 4 := by omega
    simp (implicitDefEqProofs := false) only [rX7_rests_13, rX7_rests_14, rX7_rests_15, rX7_rests_18, rX7_rests_18b, rX7_rests_19, rX7_rests_20, rX7_rests_21, rX7_rests_24, rX7_rests_25, rX7_rests_28, rX7_rests_29, rX7_rests_30, rX7_rests_31, rX7_rests_32, rX7_rests_33, rX7_rests_36, rX7_rests_37, rX7_rests_40, rX7_rests_41, rX7_rests_44, rX7_rests_47, rX7_rests_50, rX7_rests_56, rX7_rests_57, kA_0, kB_0, pCX7_rests, pSX7_rests, pOX7_rests, pLX7_rests, show (4 : Int32) ≤ nI 4 from by decide, kl_I, kl_J, kl_R, kl_T, kl_N, Nat.le_refl, Nat.zero_le, List.map_nil, List.map_cons, List.sum_nil, List.sum_cons, c_I, c_J, c_R, c_T, va_rf, hI_wI, hJ_wJ, hR_wR, hI_J, hI_R, hJ_I, hJ_R, hR_I, hR_J, hN_I, hN_J, hN_R, wI_I, wJ_J, upd_at, updL_at, kR_s, Option.toList, List.append_nil, List.nil_append, List.cons_append, if_true, if_false, reduceIte, Bool.false_eq_true, not_true_eq_false, not_false_eq_true, true_and, and_true, false_and, and_false, true_or, or_true,  Nat.reduceEqDiff, Nat.reduceAdd, Nat.reduceLeDiff]
  | succ k ih =>
    intro i hi
    have i1 := ih (i + 1) (by omega)
    have g1 : ¬ (4 : Int32) ≤ nI i := by rw [nge (x := i) (k := 4) (c := 4) rfl (by omega) (by omega)]; omega
    have g2 : (nI i < 2) = (i < 2) := nlt (x := i) (k := 2) (c := 2) rfl (by omega) (by omega)
    have g3 : nI i - nI i / 2 * 2 = nI (i % 2) := pk_rem (d := 2) (by omega) (by omega) (by omega)
    have g4 : (nI (i % 2) = 1) = (i % 2 = 1) := nq (x := i % 2) (k := 1) (c := 1) rfl (by omega) (by omega)
    have st : ∀ Q, WM (d + 1) mX7_stays [.ref (0 : Nat), .int (bI (decide (2 ≤ i))), .int (bI (decide (i % 2 = 1)))] h Q = Q (some (some (.int (bI (rsN S i))))) h := c_stays r0 w
    rw [rsC] at i1
    by_cases c1 : i < 2
    · have c1' : ¬ 2 ≤ i := by omega
      rw [decide_eq_false c1', bI_f] at st
      by_cases c2 : i % 2 = 1
      · rw [decide_eq_true c2, bI_t] at st
        cases hr : rsN S i with
        | true =>
          rw [hr, if_pos rfl] at i1
          rw [hr, bI_t] at st
          simp (implicitDefEqProofs := false) only [rX7_rests_13, rX7_rests_14, rX7_rests_15, rX7_rests_18, rX7_rests_18b, rX7_rests_19, rX7_rests_20, rX7_rests_21, rX7_rests_24, rX7_rests_25, rX7_rests_28, rX7_rests_29, rX7_rests_30, rX7_rests_31, rX7_rests_32, rX7_rests_33, rX7_rests_36, rX7_rests_37, rX7_rests_40, rX7_rests_41, rX7_rests_44, rX7_rests_47, rX7_rests_50, kA_0, kB_0, pCX7_rests, pSX7_rests, pOX7_rests, pLX7_rests, pCX7_stays, pSX7_stays, pOX7_stays, pLX7_stays, g1, g2, c1, g3, g4, c2, show ¬ (2 : Int32) = 0 from by decide, show nI 1 = 1 from rfl, show ¬ (1 : Int32) = 0 from by decide, st, kl_I, kl_J, kl_R, kl_T, kl_N, Nat.le_refl, Nat.zero_le, List.map_nil, List.map_cons, List.sum_nil, List.sum_cons, c_I, c_J, c_R, c_T, va_rf, hI_wI, hJ_wJ, hR_wR, hI_J, hI_R, hJ_I, hJ_R, hR_I, hR_J, hN_I, hN_J, hN_R, wI_I, wJ_J, upd_at, updL_at, kR_s, Option.toList, List.append_nil, List.nil_append, List.cons_append, if_true, if_false, reduceIte, Bool.false_eq_true, not_true_eq_false, not_false_eq_true, true_and, and_true, false_and, and_false, true_or, or_true,  Nat.reduceEqDiff, Nat.reduceAdd, Nat.reduceLeDiff]
          rw [rX7_rests_53, nI_1, nI_1]
          exact i1
        | false =>
          rw [hr, if_neg (by decide), Nat.add_zero] at i1
          rw [hr, bI_f] at st
          simp (implicitDefEqProofs := false) only [rX7_rests_13, rX7_rests_14, rX7_rests_15, rX7_rests_18, rX7_rests_18b, rX7_rests_19, rX7_rests_20, rX7_rests_21, rX7_rests_24, rX7_rests_25, rX7_rests_28, rX7_rests_29, rX7_rests_30, rX7_rests_31, rX7_rests_32, rX7_rests_33, rX7_rests_36, rX7_rests_37, rX7_rests_40, rX7_rests_41, rX7_rests_44, rX7_rests_47, rX7_rests_50, kA_0, kB_0, pCX7_rests, pSX7_rests, pOX7_rests, pLX7_rests, pCX7_stays, pSX7_stays, pOX7_stays, pLX7_stays, g1, g2, c1, g3, g4, c2, show ¬ (2 : Int32) = 0 from by decide, show nI 1 = 1 from rfl, st, kl_I, kl_J, kl_R, kl_T, kl_N, Nat.le_refl, Nat.zero_le, List.map_nil, List.map_cons, List.sum_nil, List.sum_cons, c_I, c_J, c_R, c_T, va_rf, hI_wI, hJ_wJ, hR_wR, hI_J, hI_R, hJ_I, hJ_R, hR_I, hR_J, hN_I, hN_J, hN_R, wI_I, wJ_J, upd_at, updL_at, kR_s, Option.toList, List.append_nil, List.nil_append, List.cons_append, if_true, if_false, reduceIte, Bool.false_eq_true, not_true_eq_false, not_false_eq_true, true_and, and_true, false_and, and_false, true_or, or_true,  Nat.reduceEqDiff, Nat.reduceAdd, Nat.reduceLeDiff]
          rw [rX7_rests_53, nI_1]
          exact i1
      · rw [decide_eq_false c2, bI_f] at st
        cases hr : rsN S i with
        | true =>
          rw [hr, if_pos rfl] at i1
          rw [hr, bI_t] at st
          simp (implicitDefEqProofs := false) only [rX7_rests_13, rX7_rests_14, rX7_rests_15, rX7_rests_18, rX7_rests_18b, rX7_rests_19, rX7_rests_20, rX7_rests_21, rX7_rests_24, rX7_rests_25, rX7_rests_28, rX7_rests_29, rX7_rests_30, rX7_rests_31, rX7_rests_32, rX7_rests_33, rX7_rests_36, rX7_rests_37, rX7_rests_40, rX7_rests_41, rX7_rests_44, rX7_rests_47, rX7_rests_50, kA_0, kB_0, pCX7_rests, pSX7_rests, pOX7_rests, pLX7_rests, pCX7_stays, pSX7_stays, pOX7_stays, pLX7_stays, g1, g2, c1, g3, g4, c2, show ¬ (2 : Int32) = 0 from by decide, show ¬ (1 : Int32) = 0 from by decide, st, kl_I, kl_J, kl_R, kl_T, kl_N, Nat.le_refl, Nat.zero_le, List.map_nil, List.map_cons, List.sum_nil, List.sum_cons, c_I, c_J, c_R, c_T, va_rf, hI_wI, hJ_wJ, hR_wR, hI_J, hI_R, hJ_I, hJ_R, hR_I, hR_J, hN_I, hN_J, hN_R, wI_I, wJ_J, upd_at, updL_at, kR_s, Option.toList, List.append_nil, List.nil_append, List.cons_append, if_true, if_false, reduceIte, Bool.false_eq_true, not_true_eq_false, not_false_eq_true, true_and, and_true, false_and, and_false, true_or, or_true,  Nat.reduceEqDiff, Nat.reduceAdd, Nat.reduceLeDiff]
          rw [rX7_rests_53, nI_1, nI_1]
          exact i1
        | false =>
          rw [hr, if_neg (by decide), Nat.add_zero] at i1
          rw [hr, bI_f] at st
          simp (implicitDefEqProofs := false) only [rX7_rests_13, rX7_rests_14, rX7_rests_15, rX7_rests_18, rX7_rests_18b, rX7_rests_19, rX7_rests_20, rX7_rests_21, rX7_rests_24, rX7_rests_25, rX7_rests_28, rX7_rests_29, rX7_rests_30, rX7_rests_31, rX7_rests_32, rX7_rests_33, rX7_rests_36, rX7_rests_37, rX7_rests_40, rX7_rests_41, rX7_rests_44, rX7_rests_47, rX7_rests_50, kA_0, kB_0, pCX7_rests, pSX7_rests, pOX7_rests, pLX7_rests, pCX7_stays, pSX7_stays, pOX7_stays, pLX7_stays, g1, g2, c1, g3, g4, c2, show ¬ (2 : Int32) = 0 from by decide, st, kl_I, kl_J, kl_R, kl_T, kl_N, Nat.le_refl, Nat.zero_le, List.map_nil, List.map_cons, List.sum_nil, List.sum_cons, c_I, c_J, c_R, c_T, va_rf, hI_wI, hJ_wJ, hR_wR, hI_J, hI_R, hJ_I, hJ_R, hR_I, hR_J, hN_I, hN_J, hN_R, wI_I, wJ_J, upd_at, updL_at, kR_s, Option.toList, List.append_nil, List.nil_append, List.cons_append, if_true, if_false, reduceIte, Bool.false_eq_true, not_true_eq_false, not_false_eq_true, true_and, and_true, false_and, and_false, true_or, or_true,  Nat.reduceEqDiff, Nat.reduceAdd, Nat.reduceLeDiff]
          rw [rX7_rests_53, nI_1]
          exact i1
    · have c1' : 2 ≤ i := by omega
      rw [decide_eq_true c1', bI_t] at st
      by_cases c2 : i % 2 = 1
      · rw [decide_eq_true c2, bI_t] at st
        cases hr : rsN S i with
        | true =>
          rw [hr, if_pos rfl] at i1
          rw [hr, bI_t] at st
          simp (implicitDefEqProofs := false) only [rX7_rests_13, rX7_rests_14, rX7_rests_15, rX7_rests_18, rX7_rests_18b, rX7_rests_19, rX7_rests_20, rX7_rests_21, rX7_rests_24, rX7_rests_25, rX7_rests_28, rX7_rests_29, rX7_rests_30, rX7_rests_31, rX7_rests_32, rX7_rests_33, rX7_rests_36, rX7_rests_37, rX7_rests_40, rX7_rests_41, rX7_rests_44, rX7_rests_47, rX7_rests_50, kA_0, kB_0, pCX7_rests, pSX7_rests, pOX7_rests, pLX7_rests, pCX7_stays, pSX7_stays, pOX7_stays, pLX7_stays, g1, g2, c1, g3, g4, c2, show ¬ (2 : Int32) = 0 from by decide, show nI 1 = 1 from rfl, show ¬ (1 : Int32) = 0 from by decide, st, kl_I, kl_J, kl_R, kl_T, kl_N, Nat.le_refl, Nat.zero_le, List.map_nil, List.map_cons, List.sum_nil, List.sum_cons, c_I, c_J, c_R, c_T, va_rf, hI_wI, hJ_wJ, hR_wR, hI_J, hI_R, hJ_I, hJ_R, hR_I, hR_J, hN_I, hN_J, hN_R, wI_I, wJ_J, upd_at, updL_at, kR_s, Option.toList, List.append_nil, List.nil_append, List.cons_append, if_true, if_false, reduceIte, Bool.false_eq_true, not_true_eq_false, not_false_eq_true, true_and, and_true, false_and, and_false, true_or, or_true,  Nat.reduceEqDiff, Nat.reduceAdd, Nat.reduceLeDiff]
          rw [rX7_rests_53, nI_1, nI_1]
          exact i1
        | false =>
          rw [hr, if_neg (by decide), Nat.add_zero] at i1
          rw [hr, bI_f] at st
          simp (implicitDefEqProofs := false) only [rX7_rests_13, rX7_rests_14, rX7_rests_15, rX7_rests_18, rX7_rests_18b, rX7_rests_19, rX7_rests_20, rX7_rests_21, rX7_rests_24, rX7_rests_25, rX7_rests_28, rX7_rests_29, rX7_rests_30, rX7_rests_31, rX7_rests_32, rX7_rests_33, rX7_rests_36, rX7_rests_37, rX7_rests_40, rX7_rests_41, rX7_rests_44, rX7_rests_47, rX7_rests_50, kA_0, kB_0, pCX7_rests, pSX7_rests, pOX7_rests, pLX7_rests, pCX7_stays, pSX7_stays, pOX7_stays, pLX7_stays, g1, g2, c1, g3, g4, c2, show ¬ (2 : Int32) = 0 from by decide, show nI 1 = 1 from rfl, st, kl_I, kl_J, kl_R, kl_T, kl_N, Nat.le_refl, Nat.zero_le, List.map_nil, List.map_cons, List.sum_nil, List.sum_cons, c_I, c_J, c_R, c_T, va_rf, hI_wI, hJ_wJ, hR_wR, hI_J, hI_R, hJ_I, hJ_R, hR_I, hR_J, hN_I, hN_J, hN_R, wI_I, wJ_J, upd_at, updL_at, kR_s, Option.toList, List.append_nil, List.nil_append, List.cons_append, if_true, if_false, reduceIte, Bool.false_eq_true, not_true_eq_false, not_false_eq_true, true_and, and_true, false_and, and_false, true_or, or_true,  Nat.reduceEqDiff, Nat.reduceAdd, Nat.reduceLeDiff]
          rw [rX7_rests_53, nI_1]
          exact i1
      · rw [decide_eq_false c2, bI_f] at st
        cases hr : rsN S i with
        | true =>
          rw [hr, if_pos rfl] at i1
          rw [hr, bI_t] at st
          simp (implicitDefEqProofs := false) only [rX7_rests_13, rX7_rests_14, rX7_rests_15, rX7_rests_18, rX7_rests_18b, rX7_rests_19, rX7_rests_20, rX7_rests_21, rX7_rests_24, rX7_rests_25, rX7_rests_28, rX7_rests_29, rX7_rests_30, rX7_rests_31, rX7_rests_32, rX7_rests_33, rX7_rests_36, rX7_rests_37, rX7_rests_40, rX7_rests_41, rX7_rests_44, rX7_rests_47, rX7_rests_50, kA_0, kB_0, pCX7_rests, pSX7_rests, pOX7_rests, pLX7_rests, pCX7_stays, pSX7_stays, pOX7_stays, pLX7_stays, g1, g2, c1, g3, g4, c2, show ¬ (2 : Int32) = 0 from by decide, show ¬ (1 : Int32) = 0 from by decide, st, kl_I, kl_J, kl_R, kl_T, kl_N, Nat.le_refl, Nat.zero_le, List.map_nil, List.map_cons, List.sum_nil, List.sum_cons, c_I, c_J, c_R, c_T, va_rf, hI_wI, hJ_wJ, hR_wR, hI_J, hI_R, hJ_I, hJ_R, hR_I, hR_J, hN_I, hN_J, hN_R, wI_I, wJ_J, upd_at, updL_at, kR_s, Option.toList, List.append_nil, List.nil_append, List.cons_append, if_true, if_false, reduceIte, Bool.false_eq_true, not_true_eq_false, not_false_eq_true, true_and, and_true, false_and, and_false, true_or, or_true,  Nat.reduceEqDiff, Nat.reduceAdd, Nat.reduceLeDiff]
          rw [rX7_rests_53, nI_1, nI_1]
          exact i1
        | false =>
          rw [hr, if_neg (by decide), Nat.add_zero] at i1
          rw [hr, bI_f] at st
          simp (implicitDefEqProofs := false) only [rX7_rests_13, rX7_rests_14, rX7_rests_15, rX7_rests_18, rX7_rests_18b, rX7_rests_19, rX7_rests_20, rX7_rests_21, rX7_rests_24, rX7_rests_25, rX7_rests_28, rX7_rests_29, rX7_rests_30, rX7_rests_31, rX7_rests_32, rX7_rests_33, rX7_rests_36, rX7_rests_37, rX7_rests_40, rX7_rests_41, rX7_rests_44, rX7_rests_47, rX7_rests_50, kA_0, kB_0, pCX7_rests, pSX7_rests, pOX7_rests, pLX7_rests, pCX7_stays, pSX7_stays, pOX7_stays, pLX7_stays, g1, g2, c1, g3, g4, c2, show ¬ (2 : Int32) = 0 from by decide, st, kl_I, kl_J, kl_R, kl_T, kl_N, Nat.le_refl, Nat.zero_le, List.map_nil, List.map_cons, List.sum_nil, List.sum_cons, c_I, c_J, c_R, c_T, va_rf, hI_wI, hJ_wJ, hR_wR, hI_J, hI_R, hJ_I, hJ_R, hR_I, hR_J, hN_I, hN_J, hN_R, wI_I, wJ_J, upd_at, updL_at, kR_s, Option.toList, List.append_nil, List.nil_append, List.cons_append, if_true, if_false, reduceIte, Bool.false_eq_true, not_true_eq_false, not_false_eq_true, true_and, and_true, false_and, and_false, true_or, or_true,  Nat.reduceEqDiff, Nat.reduceAdd, Nat.reduceLeDiff]
          rw [rX7_rests_53, nI_1]
          exact i1
theorem q_rests {d : Nat} {h : qH} {S : AS} (I : CI h S) : qy (d + 10) mX7_rests [.ref (0 : Nat)] h S (sRests S).1 (some (.int (sRests S).2)) := by
  obtain ⟨s, tu, F, ⟨r0, r1, r2⟩, w, b, k, st, wc, gc, ⟨tbx, tbp, tbm⟩, tp, e8, e9, ep⟩ := id I
  obtain ⟨e0, e1, e2, e4, e5, e7⟩ := st.2.1
  have hs := w.1
  have ww := w.2.1
  have w3 := w.2.2.1
  have n6 := ww.1
  have p64 := p6 n6
  have bx := st.1
  have F1 : Fin0 (hR (tr h 0)) := F
  have w1 : cS (tr h 0) s (sA S) := cS_tr w
  have b1 : bT (tr h 0) (sA S) := bT_sx b tr_sx (by simp)
  have hf1 : hR (tr h 0) 32 0 = some s := r2
  have ns := c_noStreet (d := d + 8) r0 w
  by_cases c1 : aN (sA S) = 0
  · rw [sRests, if_pos c1]
    exact qy_tr (v := 1) I (by decide) (fun Q => by
      simp (implicitDefEqProofs := false) only [eX7_rests, rX7_rests_0, rX7_rests_0b, rX7_rests_1, rX7_rests_4, rX7_rests_7, rX7_rests_8, kS0 hs, kS1 hs, kT1 hs, fS1 hs F, kS2 hs, kT2 hs, fS2 hs F, kS3 hs, kT3 hs, fS3 hs F, kS4 hs, kT4 hs, fS4 hs F, kS5 hs, kT5 hs, fS5 hs F, kS6 hs, kT6 hs, fS6 hs F, kS7 hs, kT7 hs, fS7 hs F, kS8 hs, kT8 hs, fS8 hs F, kS9 hs, kT9 hs, fS9 hs F, kS10 hs, kT10 hs, fS10 hs F, kS11 hs, kT11 hs, fS11 hs F, nS hs, nSs hs, fin_0_2 F, fin_0_3 F, fin_0_4 F, fin_0_5 F, fin_0_6 F, fin_0_7 F, kA_0, kB_0, r0, r2, e0, e1, e2, pCX7_rests, pSX7_rests, pOX7_rests, pLX7_rests, pCX7_noStreet, pSX7_noStreet, pOX7_noStreet, pLX7_noStreet, pCX7_noHouse, pSX7_noHouse, pOX7_noHouse, pLX7_noHouse, pCX7_outside, pSX7_outside, pOX7_outside, pLX7_outside, pCX7_refuse, pSX7_refuse, pOX7_refuse, pLX7_refuse, ns, c1, show nI 1 = 1 from rfl, nI_0, decide_true, decide_false, bI_t, bI_f, reduceCtorEq, or_self, show ¬ (1 : Int32) = 0 from by decide, tr_R, tr_tr, tr_25, tr_26, tr_27, tr_28, tr_29, tr_30, tr_31, tr_32, tr_33, tr_34, tr_35, tr_36, tr_37, tr_38, tr_39, tr_40, tr_41, tr_42, tr_43, tr_s hs, tr_s1 hs, tr_s2 hs, tr_s3 hs, tr_s4 hs, tr_s5 hs, tr_s6 hs, tr_s7 hs, tr_s8 hs, tr_s9 hs, tr_s10 hs, tr_s11 hs, kl_I, kl_J, kl_R, kl_T, kl_N, Nat.le_refl, Nat.zero_le, List.map_nil, List.map_cons, List.sum_nil, List.sum_cons, c_I, c_J, c_R, c_T, va_rf, hI_wI, hJ_wJ, hR_wR, hI_J, hI_R, hJ_I, hJ_R, hR_I, hR_J, hN_I, hN_J, hN_R, wI_I, wJ_J, upd_at, updL_at, kR_s, Option.toList, List.append_nil, List.nil_append, List.cons_append, if_true, if_false, reduceIte, Bool.false_eq_true, not_true_eq_false, not_false_eq_true, true_and, and_true, false_and, and_false, true_or, or_true,  Nat.reduceEqDiff, Nat.reduceAdd, Nat.reduceLeDiff])
  · rw [sRests, if_neg c1]
    exact qy_tr (v := 0) I (by decide) (fun Q => by
      have l := l_rests (d := d + 8) (Q := Q) (S := S) (show hR (tr h 0) 0 0 = some s from r0) w1 4 0 (by omega)
      simp only [rsC, nI_0] at l
      simp (implicitDefEqProofs := false) only [eX7_rests, rX7_rests_0, rX7_rests_0b, rX7_rests_1, rX7_rests_4, rX7_rests_7, rX7_rests_8, rX7_rests_9, rX7_rests_10, rX7_rests_11, rX7_rests_12, kS0 hs, kS1 hs, kT1 hs, fS1 hs F, kS2 hs, kT2 hs, fS2 hs F, kS3 hs, kT3 hs, fS3 hs F, kS4 hs, kT4 hs, fS4 hs F, kS5 hs, kT5 hs, fS5 hs F, kS6 hs, kT6 hs, fS6 hs F, kS7 hs, kT7 hs, fS7 hs F, kS8 hs, kT8 hs, fS8 hs F, kS9 hs, kT9 hs, fS9 hs F, kS10 hs, kT10 hs, fS10 hs F, kS11 hs, kT11 hs, fS11 hs F, nS hs, nSs hs, fin_0_2 F, fin_0_3 F, fin_0_4 F, fin_0_5 F, fin_0_6 F, fin_0_7 F, kA_0, kB_0, r0, r2, e0, e1, e2, pCX7_rests, pSX7_rests, pOX7_rests, pLX7_rests, pCX7_noStreet, pSX7_noStreet, pOX7_noStreet, pLX7_noStreet, pCX7_noHouse, pSX7_noHouse, pOX7_noHouse, pLX7_noHouse, pCX7_outside, pSX7_outside, pOX7_outside, pLX7_outside, pCX7_refuse, pSX7_refuse, pOX7_refuse, pLX7_refuse, ns, c1, rsC, nI_0, decide_true, decide_false, bI_t, bI_f, reduceCtorEq, or_self, show ¬ (1 : Int32) = 0 from by decide, tr_R, tr_tr, tr_25, tr_26, tr_27, tr_28, tr_29, tr_30, tr_31, tr_32, tr_33, tr_34, tr_35, tr_36, tr_37, tr_38, tr_39, tr_40, tr_41, tr_42, tr_43, tr_s hs, tr_s1 hs, tr_s2 hs, tr_s3 hs, tr_s4 hs, tr_s5 hs, tr_s6 hs, tr_s7 hs, tr_s8 hs, tr_s9 hs, tr_s10 hs, tr_s11 hs, kl_I, kl_J, kl_R, kl_T, kl_N, Nat.le_refl, Nat.zero_le, List.map_nil, List.map_cons, List.sum_nil, List.sum_cons, c_I, c_J, c_R, c_T, va_rf, hI_wI, hJ_wJ, hR_wR, hI_J, hI_R, hJ_I, hJ_R, hR_I, hR_J, hN_I, hN_J, hN_R, wI_I, wJ_J, upd_at, updL_at, kR_s, Option.toList, List.append_nil, List.nil_append, List.cons_append, if_true, if_false, reduceIte, Bool.false_eq_true, not_true_eq_false, not_false_eq_true, true_and, and_true, false_and, and_false, true_or, or_true,  Nat.reduceEqDiff, Nat.reduceAdd, Nat.reduceLeDiff]
      exact l)
