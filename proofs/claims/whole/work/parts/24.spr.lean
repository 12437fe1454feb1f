/-! ===== a fire spreads ===== -/
/-- is a spark taken? -/
def rlC (a : aS) (cut : Nat) (wo : Option Nat) (row : Nat → Nat) (j : Nat) : Prop := ¬ wo = some j ∧ cut.testBit (aFm a j) = false ∧ row (aFm a j) + lagN a j < row (aTo a j)
noncomputable def rlx (a : aS) (cut : Nat) (wo : Option Nat) (r : (Nat → Nat) × Bool) (j : Nat) : (Nat → Nat) × Bool :=
  haveI := Classical.propDecidable (rlC a cut wo r.1 j)
  if rlC a cut wo r.1 j then (va_up r.1 (aTo a j) (r.1 (aFm a j) + lagN a j), true) else r
/-- all sparks once, from i on -/
noncomputable def ras (a : aS) (cut : Nat) (wo : Option Nat) : Nat → Nat → (Nat → Nat) × Bool → (Nat → Nat) × Bool
  | 0, _, r => r
  | k + 1, i, r => ras a cut wo k (i + 1) (rlx a cut wo r i)
noncomputable def rnd (a : aS) (cut : Nat) (wo : Option Nat) : Nat → (Nat → Nat) × Bool → Nat → Nat
  | 0, r => r.1
  | k + 1, r => if r.2 = true then rnd a cut wo k (ras a cut wo (aSp a) 0 (r.1, false)) else r.1
/-- the first days: the own causes' -/
def row0 (a : aS) (own : Nat → Nat) : Nat → Nat := fun j => if j < aN a then own j else 1000
noncomputable def sprN (a : aS) (cut : Nat) (wo : Option Nat) (own : Nat → Nat) : Nat → Nat := rnd a cut wo 6 (row0 a own, true)
theorem rlx_t {a : aS} {cut : Nat} {wo : Option Nat} {r : (Nat → Nat) × Bool} {j : Nat} (h : rlC a cut wo r.1 j) : rlx a cut wo r j = (va_up r.1 (aTo a j) (r.1 (aFm a j) + lagN a j), true) := if_pos h
theorem rlx_f {a : aS} {cut : Nat} {wo : Option Nat} {r : (Nat → Nat) × Bool} {j : Nat} (h : ¬ rlC a cut wo r.1 j) : rlx a cut wo r j = r := if_neg h
def rk (r : Nat → Nat) : Prop := ∀ j, r j ≤ 1000
theorem rlx_k {a : aS} {cut : Nat} {wo : Option Nat} {r : (Nat → Nat) × Bool} {j : Nat} (h : rk r.1) : rk (rlx a cut wo r j).1 := by
  by_cases g : rlC a cut wo r.1 j
  · rw [rlx_t g]
    intro x
    simp only [va_up]
    split
    · have := g.2.2
      have := h (aTo a j)
      omega
    · exact h x
  · rw [rlx_f g]; exact h
theorem ras_k {a : aS} {cut : Nat} {wo : Option Nat} : ∀ (k i : Nat) {r : (Nat → Nat) × Bool}, rk r.1 → rk (ras a cut wo k i r).1
  | 0, _, _, h => h
  | k + 1, i, r, h => ras_k k (i + 1) (rlx_k h)
theorem row0_k {a : aS} {own : Nat → Nat} (h : ∀ j, j < aN a → own j ≤ 1000) : rk (row0 a own) := by
  intro j
  unfold row0
  split
  · rename_i q; exact h j q
  · exact Nat.le_refl _
theorem rnd_k {a : aS} {cut : Nat} {wo : Option Nat} : ∀ (k : Nat) {r : (Nat → Nat) × Bool}, rk r.1 → rk (rnd a cut wo k r)
  | 0, _, h => h
  | k + 1, r, h => by
    rw [rnd]
    split
    · exact rnd_k k (ras_k _ _ h)
    · exact h
/-- an int array that holds numbers -/
def nF (r : Nat → Nat) : Nat → Int32 := fun j => nI (r j)
theorem nF_up {r : Nat → Nat} {k v : Nat} : upd (nF r) k (nI v) = nF (va_up r k v) := by
  funext j
  simp only [upd_at, nF, va_up]
  split <;> rfl
theorem lag_le {a : aS} (w : aW a) {j : Nat} (hj : j < aSp a) : lagN a j ≤ 1000 := by
  have := (w.2.2.2.2.2.1 j hj).2.2.2
  unfold lagN
  split
  · omega
  · split
    · omega
    · split <;> omega
def bI (b : Bool) : Int32 := if b = true then 1 else 0
theorem l_spr1 {d : Nat} {h : qH} {s : Nat} {a : aS} {own : Nat → Nat} {y1 y2 : Int32} {o4 o5 o6 o7 o8 : Option Value} (F : Fin0 (hR h)) (hf : hR h 32 0 = some s) (w : cS h s a) (hv : ∀ j, j < aN a → hI h 33 j = nI (own j)) : ∀ (k i : Nat), i + k = 6 → ∀ Q, WP d mX0_spread (0, 0) 2 [some (.ref (32 : Nat)), some (.int y1), some (.int y2), some (.int (nI i)), o4, o5, o6, o7, o8] [] (wI h 34 (fil i (nF (row0 a own)) (hI h 34))) Q = WP d mX0_spread (0, 0) 43 [some (.ref (32 : Nat)), some (.int y1), some (.int y2), some (.int 6), o4, o5, o6, o7, o8] [] (wI h 34 (fil 6 (nF (row0 a own)) (hI h 34))) Q := by
  have hs := w.1
  have ww := w.2.1
  have w3 := w.2.2.1
  have h6 := ww.1
  intro k
  induction k with
  | zero =>
    intro i hi Q
    obtain rfl : i = 6 := by omega
    simp (implicitDefEqProofs := false) only [rX0_spread_2, rX0_spread_3, rX0_spread_5, rX0_spread_8, rX0_spread_8b, rX0_spread_9, rX0_spread_12, rX0_spread_13, rX0_spread_14, rX0_spread_14b, rX0_spread_15, rX0_spread_18, rX0_spread_21, rX0_spread_24, rX0_spread_24b, rX0_spread_25, rX0_spread_28, rX0_spread_29, rX0_spread_30, rX0_spread_33, rX0_spread_36, rX0_spread_37, rX0_spread_40, kA_32, kB_32, kA_33, kB_33, kA_34, kB_34, pCX0_spread, pSX0_spread, pOX0_spread, pLX0_spread, show nI 6 = 6 from rfl, Int32.le_refl, kl_I, kl_J, kl_R, kl_T, kl_N, Nat.le_refl, Nat.zero_le, List.map_nil, List.map_cons, List.sum_nil, List.sum_cons, c_I, c_J, c_R, c_T, va_rf, hI_wI, hJ_wJ, hR_wR, hI_J, hI_R, hJ_I, hJ_R, hR_I, hR_J, hN_I, hN_J, hN_R, wI_I, wJ_J, upd_at, updL_at, kR_s, Option.toList, List.append_nil, List.nil_append, List.cons_append, if_true, if_false, reduceIte, Bool.false_eq_true, not_true_eq_false, not_false_eq_true, true_and, Nat.reduceEqDiff, Nat.reduceAdd, Nat.reduceLeDiff]
  | succ k ih =>
    intro i hi Q
    have hlt : i < 6 := by omega
    have v6 : vp_in (nI i) 6 := nI_vp (by omega) (by decide)
    have cl : (nI i).toNatClampNeg = i := nI_cl (by omega)
    have i1 := ih (i + 1) (by omega) Q
    rw [← fil_s] at i1
    by_cases c1 : i < aN a
    · have g1 : ¬ nI (aN a) ≤ nI i := nI_ge c1 (by omega)
      have e1 : nF (row0 a own) i = nI (own i) := by simp [nF, row0, c1]
      rw [e1] at i1
      simp (implicitDefEqProofs := false) only [rX0_spread_2, rX0_spread_3, rX0_spread_5, rX0_spread_8, rX0_spread_8b, rX0_spread_9, rX0_spread_12, rX0_spread_13, rX0_spread_14, rX0_spread_14b, rX0_spread_15, rX0_spread_18, rX0_spread_21, rX0_spread_24, rX0_spread_24b, rX0_spread_25, rX0_spread_28, rX0_spread_29, rX0_spread_30, rX0_spread_33, rX0_spread_36, rX0_spread_37, kS0 hs, kS1 hs, kT1 hs, fS1 hs F, kS2 hs, kT2 hs, fS2 hs F, kS3 hs, kT3 hs, fS3 hs F, kS4 hs, kT4 hs, fS4 hs F, kS5 hs, kT5 hs, fS5 hs F, kS6 hs, kT6 hs, fS6 hs F, kS7 hs, kT7 hs, fS7 hs F, kS8 hs, kT8 hs, fS8 hs F, kS9 hs, kT9 hs, fS9 hs F, kS10 hs, kT10 hs, fS10 hs F, kS11 hs, kT11 hs, fS11 hs F, nS hs, nSs hs, fin_32_1 F, fin_32_2 F, fin_32_3 F, fin_32_4 F, kA_32, kB_32, kA_33, kB_33, kA_34, kB_34, hf, pCX0_spread, pSX0_spread, pOX0_spread, pLX0_spread, w3.2.1, nge (x := i) (k := 6) (c := 6) rfl (by omega) (by omega), show ¬ 6 ≤ i from by omega, g1, v6, cl, hv i c1, kl_I, kl_J, kl_R, kl_T, kl_N, Nat.le_refl, Nat.zero_le, List.map_nil, List.map_cons, List.sum_nil, List.sum_cons, c_I, c_J, c_R, c_T, va_rf, hI_wI, hJ_wJ, hR_wR, hI_J, hI_R, hJ_I, hJ_R, hR_I, hR_J, hN_I, hN_J, hN_R, wI_I, wJ_J, upd_at, updL_at, kR_s, Option.toList, List.append_nil, List.nil_append, List.cons_append, if_true, if_false, reduceIte, Bool.false_eq_true, not_true_eq_false, not_false_eq_true, true_and, Nat.reduceEqDiff, Nat.reduceAdd, Nat.reduceLeDiff]
      rw [rX0_spread_40, nI_1, i1]
    · have g1 : nI (aN a) ≤ nI i := nI_le (by omega) (by omega)
      have e1 : nF (row0 a own) i = 1000 := by simp [nF, row0, c1]; rfl
      rw [e1] at i1
      simp (implicitDefEqProofs := false) only [rX0_spread_2, rX0_spread_3, rX0_spread_5, rX0_spread_8, rX0_spread_8b, rX0_spread_9, rX0_spread_12, rX0_spread_13, rX0_spread_14, rX0_spread_14b, rX0_spread_15, rX0_spread_18, rX0_spread_21, rX0_spread_24, rX0_spread_24b, rX0_spread_25, rX0_spread_28, rX0_spread_29, rX0_spread_30, rX0_spread_33, rX0_spread_36, rX0_spread_37, kS0 hs, kS1 hs, kT1 hs, fS1 hs F, kS2 hs, kT2 hs, fS2 hs F, kS3 hs, kT3 hs, fS3 hs F, kS4 hs, kT4 hs, fS4 hs F, kS5 hs, kT5 hs, fS5 hs F, kS6 hs, kT6 hs, fS6 hs F, kS7 hs, kT7 hs, fS7 hs F, kS8 hs, kT8 hs, fS8 hs F, kS9 hs, kT9 hs, fS9 hs F, kS10 hs, kT10 hs, fS10 hs F, kS11 hs, kT11 hs, fS11 hs F, nS hs, nSs hs, fin_32_1 F, fin_32_2 F, fin_32_3 F, fin_32_4 F, kA_32, kB_32, kA_33, kB_33, kA_34, kB_34, hf, pCX0_spread, pSX0_spread, pOX0_spread, pLX0_spread, w3.2.1, nge (x := i) (k := 6) (c := 6) rfl (by omega) (by omega), show ¬ 6 ≤ i from by omega, g1, v6, cl, kl_I, kl_J, kl_R, kl_T, kl_N, Nat.le_refl, Nat.zero_le, List.map_nil, List.map_cons, List.sum_nil, List.sum_cons, c_I, c_J, c_R, c_T, va_rf, hI_wI, hJ_wJ, hR_wR, hI_J, hI_R, hJ_I, hJ_R, hR_I, hR_J, hN_I, hN_J, hN_R, wI_I, wJ_J, upd_at, updL_at, kR_s, Option.toList, List.append_nil, List.nil_append, List.cons_append, if_true, if_false, reduceIte, Bool.false_eq_true, not_true_eq_false, not_false_eq_true, true_and, Nat.reduceEqDiff, Nat.reduceAdd, Nat.reduceLeDiff]
      rw [rX0_spread_40, nI_1, i1]
theorem l_spr2 {d : Nat} {h : qH} {s : Nat} {a : aS} {cut : Nat} {wo : Option Nat} {g : Nat → Int32} {o4 : Int32} {Q : Option (Option Value) → qH → Prop} (F : Fin0 (hR h)) (hf : hR h 32 0 = some s) (w : cS h s a) (hc : cut < 64) (hw : ∀ x, wo = some x → x < 9) : ∀ (k i : Nat), i + k = aSp a → ∀ (r : (Nat → Nat) × Bool) (o6 o7 o8 : Option Value) (_ : rk r.1) (X : Prop), (∀ p6 p7 p8, WP d mX0_spread (0, 0) 164 [some (.ref (32 : Nat)), some (.int (nI cut)), some (.int (mI wo)), some (.int (bI (ras a cut wo k i r).2)), some (.int o4), some (.int (nI (aSp a))), p6, p7, p8] [] (wI h 34 (fil 6 (nF (ras a cut wo k i r).1) g)) Q = X) → WP d mX0_spread (0, 0) 64 [some (.ref (32 : Nat)), some (.int (nI cut)), some (.int (mI wo)), some (.int (bI r.2)), some (.int o4), some (.int (nI i)), o6, o7, o8] [] (wI h 34 (fil 6 (nF r.1) g)) Q = X := by
  have hs := w.1
  have ww := w.2.1
  have w3 := w.2.2.1
  have w5 := w.2.2.2.2.1
  have h6 := ww.1
  have h9 := ww.2.2.2.2.1
  intro k
  induction k with
  | zero =>
    intro i hi r o6 o7 o8 _ X hX
    obtain rfl : i = aSp a := by omega
    simp (implicitDefEqProofs := false) only [rX0_spread_64, rX0_spread_66, rX0_spread_66b, rX0_spread_67, rX0_spread_70, rX0_spread_73, rX0_spread_76, rX0_spread_76b, rX0_spread_77, rX0_spread_80, rX0_spread_83, rX0_spread_85, rX0_spread_86, rX0_spread_88, rX0_spread_88b, rX0_spread_89, rX0_spread_92, rX0_spread_95, rX0_spread_97, rX0_spread_98, rX0_spread_100, rX0_spread_100b, rX0_spread_101, rX0_spread_104, rX0_spread_106, rX0_spread_107, rX0_spread_107b, rX0_spread_108, rX0_spread_111, rX0_spread_114, rX0_spread_116, rX0_spread_117, rX0_spread_118, rX0_spread_120, rX0_spread_122, rX0_spread_123, rX0_spread_126, rX0_spread_127, rX0_spread_129, rX0_spread_130, rX0_spread_131, rX0_spread_132, rX0_spread_135, rX0_spread_137, rX0_spread_137b, rX0_spread_138, rX0_spread_141, rX0_spread_143, rX0_spread_144, rX0_spread_147, rX0_spread_147b, rX0_spread_148, rX0_spread_151, rX0_spread_153, rX0_spread_155, rX0_spread_156, rX0_spread_157, rX0_spread_158, kS0 hs, kS1 hs, kT1 hs, fS1 hs F, kS2 hs, kT2 hs, fS2 hs F, kS3 hs, kT3 hs, fS3 hs F, kS4 hs, kT4 hs, fS4 hs F, kS5 hs, kT5 hs, fS5 hs F, kS6 hs, kT6 hs, fS6 hs F, kS7 hs, kT7 hs, fS7 hs F, kS8 hs, kT8 hs, fS8 hs F, kS9 hs, kT9 hs, fS9 hs F, kS10 hs, kT10 hs, fS10 hs F, kS11 hs, kT11 hs, fS11 hs F, nS hs, nSs hs, kA_32, kB_32, kA_33, kB_33, kA_34, kB_34, hf, pCX0_spread, pSX0_spread, pOX0_spread, pLX0_spread, w3.2.2.2.1, Int32.le_refl, kl_I, kl_J, kl_R, kl_T, kl_N, Nat.le_refl, Nat.zero_le, List.map_nil, List.map_cons, List.sum_nil, List.sum_cons, c_I, c_J, c_R, c_T, va_rf, hI_wI, hJ_wJ, hR_wR, hI_J, hI_R, hJ_I, hJ_R, hR_I, hR_J, hN_I, hN_J, hN_R, wI_I, wJ_J, upd_at, updL_at, kR_s, Option.toList, List.append_nil, List.nil_append, List.cons_append, if_true, if_false, reduceIte, Bool.false_eq_true, not_true_eq_false, not_false_eq_true, true_and, Nat.reduceEqDiff, Nat.reduceAdd, Nat.reduceLeDiff]
    exact hX _ _ _
  | succ k ih =>
    intro i hi r o6 o7 o8 hr X hX
    have hlt : i < aSp a := by omega
    have g1 : ¬ nI (aSp a) ≤ nI i := nI_ge hlt (by omega)
    have v9 : vp_in (nI i) 9 := nI_vp (by omega) (by decide)
    have cl : (nI i).toNatClampNeg = i := nI_cl (by omega)
    obtain ⟨e1, e2, e3⟩ := w5 i hlt
    obtain ⟨k1, k2, k3, k4⟩ := ww.2.2.2.2.2.1 i hlt
    have kl1 := lag_le ww hlt
    have hr1 := hr (aFm a i)
    have hr2 := hr (aTo a i)
    have u1 : vp_in (nI (aFm a i)) 6 := nI_vp (by omega) (by decide)
    have u2 : vp_in (nI (aTo a i)) 6 := nI_vp (by omega) (by decide)
    have c1 : (nI (aFm a i)).toNatClampNeg = aFm a i := nI_cl (by omega)
    have c2 : (nI (aTo a i)).toNatClampNeg = aTo a i := nI_cl (by omega)
    have f1 : fil 6 (nF r.1) g (aFm a i) = nI (r.1 (aFm a i)) := fil_at (by omega)
    have f2 : fil 6 (nF r.1) g (aTo a i) = nI (r.1 (aTo a i)) := fil_at (by omega)
    have bt := bt_t (t := cut) (j := aFm a i) (by omega) (by omega)
    have q1 : (nI i = mI wo) = (wo = some i) := by
      cases wo with
      | none =>
        simp only [mI, nM (x := i) (by omega)]
        simp
      | some x =>
        have := hw x rfl
        simp only [mI, Option.some.injEq]
        rw [nI_eq (by omega) (by omega)]
        exact propext ⟨fun q => q.symm, fun q => q.symm⟩
    have q2 : (nI (r.1 (aTo a i)) ≤ nI (r.1 (aFm a i) + lagN a i)) = (r.1 (aTo a i) ≤ r.1 (aFm a i) + lagN a i) := propext (nI_leI (by omega) (by omega))
    have i1 := ih (i + 1) (by omega) (rlx a cut wo r i)
    simp (implicitDefEqProofs := false) only [rX0_spread_64, rX0_spread_66, rX0_spread_66b, rX0_spread_67, rX0_spread_70, rX0_spread_73, rX0_spread_76, rX0_spread_76b, rX0_spread_77, rX0_spread_80, rX0_spread_83, rX0_spread_85, rX0_spread_86, rX0_spread_88, rX0_spread_88b, rX0_spread_89, rX0_spread_92, rX0_spread_95, rX0_spread_97, rX0_spread_98, rX0_spread_100, rX0_spread_100b, rX0_spread_101, rX0_spread_104, rX0_spread_106, rX0_spread_107, rX0_spread_107b, rX0_spread_108, rX0_spread_111, rX0_spread_114, rX0_spread_116, rX0_spread_117, rX0_spread_118, rX0_spread_120, rX0_spread_122, rX0_spread_123, rX0_spread_126, rX0_spread_127, rX0_spread_129, rX0_spread_130, rX0_spread_131, rX0_spread_132, rX0_spread_135, rX0_spread_137, rX0_spread_137b, rX0_spread_138, rX0_spread_141, rX0_spread_143, rX0_spread_144, rX0_spread_147, rX0_spread_147b, rX0_spread_148, rX0_spread_151, rX0_spread_153, rX0_spread_155, rX0_spread_156, rX0_spread_157, rX0_spread_158, kS0 hs, kS1 hs, kT1 hs, fS1 hs F, kS2 hs, kT2 hs, fS2 hs F, kS3 hs, kT3 hs, fS3 hs F, kS4 hs, kT4 hs, fS4 hs F, kS5 hs, kT5 hs, fS5 hs F, kS6 hs, kT6 hs, fS6 hs F, kS7 hs, kT7 hs, fS7 hs F, kS8 hs, kT8 hs, fS8 hs F, kS9 hs, kT9 hs, fS9 hs F, kS10 hs, kT10 hs, fS10 hs F, kS11 hs, kT11 hs, fS11 hs F, nS hs, nSs hs, fin_32_1 F, fin_32_2 F, fin_32_3 F, fin_32_4 F, kA_32, kB_32, kA_33, kB_33, kA_34, kB_34, hf, pCX0_spread, pSX0_spread, pOX0_spread, pLX0_spread, w3.2.2.2.1, g1, v9, cl, e1, e2, e3, u1, u2, c1, c2, f1, f2, nI_add, bt, q1, q2, kl_I, kl_J, kl_R, kl_T, kl_N, Nat.le_refl, Nat.zero_le, List.map_nil, List.map_cons, List.sum_nil, List.sum_cons, c_I, c_J, c_R, c_T, va_rf, hI_wI, hJ_wJ, hR_wR, hI_J, hI_R, hJ_I, hJ_R, hR_I, hR_J, hN_I, hN_J, hN_R, wI_I, wJ_J, upd_at, updL_at, kR_s, Option.toList, List.append_nil, List.nil_append, List.cons_append, if_true, if_false, reduceIte, Bool.false_eq_true, not_true_eq_false, not_false_eq_true, true_and, Nat.reduceEqDiff, Nat.reduceAdd, Nat.reduceLeDiff]
    by_cases c : rlC a cut wo r.1 i
    · rw [rlx_t c] at i1
      obtain ⟨d1, d2, d3⟩ := c
      have d4 : ¬ r.1 (aTo a i) ≤ r.1 (aFm a i) + lagN a i := by omega
      simp (implicitDefEqProofs := false) only [d1, d2, d4, fil_u (f := g) (g := nF r.1) (x := nI (r.1 (aFm a i) + lagN a i)) (show aTo a i < 6 from by omega), nF_up, kl_I, kl_J, kl_R, kl_T, kl_N, Nat.le_refl, Nat.zero_le, List.map_nil, List.map_cons, List.sum_nil, List.sum_cons, c_I, c_J, c_R, c_T, va_rf, hI_wI, hJ_wJ, hR_wR, hI_J, hI_R, hJ_I, hJ_R, hR_I, hR_J, hN_I, hN_J, hN_R, wI_I, wJ_J, upd_at, updL_at, kR_s, Option.toList, List.append_nil, List.nil_append, List.cons_append, if_true, if_false, reduceIte, Bool.false_eq_true, not_true_eq_false, not_false_eq_true, true_and, Nat.reduceEqDiff, Nat.reduceAdd, Nat.reduceLeDiff]
      rw [rX0_spread_161, nI_1]
      exact i1 _ _ _ (by have := rlx_k (a := a) (cut := cut) (wo := wo) (j := i) hr; rw [rlx_t ⟨d1, d2, d3⟩] at this; exact this) X (by rw [ras, rlx_t ⟨d1, d2, d3⟩] at hX; exact hX)
    · rw [rlx_f c] at i1
      have i2 := i1 (some (.int (nI (aFm a i)))) (some (.int (nI (aTo a i)))) (some (.int (nI (r.1 (aFm a i) + lagN a i)))) hr X (by rw [ras, rlx_f c] at hX; exact hX)
      by_cases d1 : wo = some i
      · simp (implicitDefEqProofs := false) only [d1, kl_I, kl_J, kl_R, kl_T, kl_N, Nat.le_refl, Nat.zero_le, List.map_nil, List.map_cons, List.sum_nil, List.sum_cons, c_I, c_J, c_R, c_T, va_rf, hI_wI, hJ_wJ, hR_wR, hI_J, hI_R, hJ_I, hJ_R, hR_I, hR_J, hN_I, hN_J, hN_R, wI_I, wJ_J, upd_at, updL_at, kR_s, Option.toList, List.append_nil, List.nil_append, List.cons_append, if_true, if_false, reduceIte, Bool.false_eq_true, not_true_eq_false, not_false_eq_true, true_and, Nat.reduceEqDiff, Nat.reduceAdd, Nat.reduceLeDiff]
        rw [rX0_spread_161, nI_1]
        rw [d1] at i2
        exact i2
      · by_cases d2 : cut.testBit (aFm a i) = true
        · simp (implicitDefEqProofs := false) only [d1, d2, show ¬ (1 : Int32) = 0 from by decide, kl_I, kl_J, kl_R, kl_T, kl_N, Nat.le_refl, Nat.zero_le, List.map_nil, List.map_cons, List.sum_nil, List.sum_cons, c_I, c_J, c_R, c_T, va_rf, hI_wI, hJ_wJ, hR_wR, hI_J, hI_R, hJ_I, hJ_R, hR_I, hR_J, hN_I, hN_J, hN_R, wI_I, wJ_J, upd_at, updL_at, kR_s, Option.toList, List.append_nil, List.nil_append, List.cons_append, if_true, if_false, reduceIte, Bool.false_eq_true, not_true_eq_false, not_false_eq_true, true_and, Nat.reduceEqDiff, Nat.reduceAdd, Nat.reduceLeDiff]
          rw [rX0_spread_161, nI_1]
          exact i2
        · have d4 : r.1 (aTo a i) ≤ r.1 (aFm a i) + lagN a i := by
            rcases Nat.lt_or_ge (r.1 (aFm a i) + lagN a i) (r.1 (aTo a i)) with q | q
            · exact absurd ⟨d1, by simpa using d2, q⟩ c
            · exact q
          simp (implicitDefEqProofs := false) only [d1, d2, d4, kl_I, kl_J, kl_R, kl_T, kl_N, Nat.le_refl, Nat.zero_le, List.map_nil, List.map_cons, List.sum_nil, List.sum_cons, c_I, c_J, c_R, c_T, va_rf, hI_wI, hJ_wJ, hR_wR, hI_J, hI_R, hJ_I, hJ_R, hR_I, hR_J, hN_I, hN_J, hN_R, wI_I, wJ_J, upd_at, updL_at, kR_s, Option.toList, List.append_nil, List.nil_append, List.cons_append, if_true, if_false, reduceIte, Bool.false_eq_true, not_true_eq_false, not_false_eq_true, true_and, Nat.reduceEqDiff, Nat.reduceAdd, Nat.reduceLeDiff]
          rw [rX0_spread_161, nI_1]
          exact i2
theorem l_spr3 {d : Nat} {h : qH} {s : Nat} {a : aS} {cut : Nat} {wo : Option Nat} {g : Nat → Int32} {Q : Option (Option Value) → qH → Prop} (F : Fin0 (hR h)) (hf : hR h 32 0 = some s) (w : cS h s a) (hc : cut < 64) (hw : ∀ x, wo = some x → x < 9) : ∀ (k i : Nat), i + k = 6 → ∀ (r : (Nat → Nat) × Bool) (o5 o6 o7 o8 : Option Value) (_ : rk r.1), WP d mX0_spread (0, 0) 48 [some (.ref (32 : Nat)), some (.int (nI cut)), some (.int (mI wo)), some (.int (bI r.2)), some (.int (nI i)), o5, o6, o7, o8] [] (wI h 34 (fil 6 (nF r.1) g)) Q = Q (some none) (wI h 34 (fil 6 (nF (rnd a cut wo k r)) g)) := by
  intro k
  induction k with
  | zero =>
    intro i hi r o5 o6 o7 o8 hr
    obtain rfl : i = 6 := by omega
    simp (implicitDefEqProofs := false) only [rX0_spread_48, rX0_spread_50, rX0_spread_52, rX0_spread_55, rX0_spread_56, rX0_spread_170, pCX0_spread, pSX0_spread, pOX0_spread, pLX0_spread, show nI 6 = 6 from rfl, Int32.le_refl, kl_I, kl_J, kl_R, kl_T, kl_N, Nat.le_refl, Nat.zero_le, List.map_nil, List.map_cons, List.sum_nil, List.sum_cons, c_I, c_J, c_R, c_T, va_rf, hI_wI, hJ_wJ, hR_wR, hI_J, hI_R, hJ_I, hJ_R, hR_I, hR_J, hN_I, hN_J, hN_R, wI_I, wJ_J, upd_at, updL_at, kR_s, Option.toList, List.append_nil, List.nil_append, List.cons_append, if_true, if_false, reduceIte, Bool.false_eq_true, not_true_eq_false, not_false_eq_true, true_and, Nat.reduceEqDiff, Nat.reduceAdd, Nat.reduceLeDiff]
    rfl
  | succ k ih =>
    intro i hi r o5 o6 o7 o8 hr
    simp (implicitDefEqProofs := false) only [rX0_spread_48, rX0_spread_50, rX0_spread_52, rX0_spread_55, rX0_spread_56, rX0_spread_59, rX0_spread_60, rX0_spread_61, rX0_spread_62, rX0_spread_170, pCX0_spread, pSX0_spread, pOX0_spread, pLX0_spread, nge (x := i) (k := 6) (c := 6) rfl (by omega) (by omega), show ¬ 6 ≤ i from by omega, kl_I, kl_J, kl_R, kl_T, kl_N, Nat.le_refl, Nat.zero_le, List.map_nil, List.map_cons, List.sum_nil, List.sum_cons, c_I, c_J, c_R, c_T, va_rf, hI_wI, hJ_wJ, hR_wR, hI_J, hI_R, hJ_I, hJ_R, hR_I, hR_J, hN_I, hN_J, hN_R, wI_I, wJ_J, upd_at, updL_at, kR_s, Option.toList, List.append_nil, List.nil_append, List.cons_append, if_true, if_false, reduceIte, Bool.false_eq_true, not_true_eq_false, not_false_eq_true, true_and, Nat.reduceEqDiff, Nat.reduceAdd, Nat.reduceLeDiff]
    rw [rnd]
    by_cases c : r.2 = true
    · simp (implicitDefEqProofs := false) only [bI, c, show ¬ (1 : Int32) = 0 from by decide, kl_I, kl_J, kl_R, kl_T, kl_N, Nat.le_refl, Nat.zero_le, List.map_nil, List.map_cons, List.sum_nil, List.sum_cons, c_I, c_J, c_R, c_T, va_rf, hI_wI, hJ_wJ, hR_wR, hI_J, hI_R, hJ_I, hJ_R, hR_I, hR_J, hN_I, hN_J, hN_R, wI_I, wJ_J, upd_at, updL_at, kR_s, Option.toList, List.append_nil, List.nil_append, List.cons_append, if_true, if_false, reduceIte, Bool.false_eq_true, not_true_eq_false, not_false_eq_true, true_and, Nat.reduceEqDiff, Nat.reduceAdd, Nat.reduceLeDiff]
      refine l_spr2 F hf w hc hw (aSp a) 0 (by omega) (r.1, false) o6 o7 o8 hr _ (fun p6 p7 p8 => ?_)
      simp (implicitDefEqProofs := false) only [rX0_spread_164, rX0_spread_167, nI_1, kl_I, kl_J, kl_R, kl_T, kl_N, Nat.le_refl, Nat.zero_le, List.map_nil, List.map_cons, List.sum_nil, List.sum_cons, c_I, c_J, c_R, c_T, va_rf, hI_wI, hJ_wJ, hR_wR, hI_J, hI_R, hJ_I, hJ_R, hR_I, hR_J, hN_I, hN_J, hN_R, wI_I, wJ_J, upd_at, updL_at, kR_s, Option.toList, List.append_nil, List.nil_append, List.cons_append, if_true, if_false, reduceIte, Bool.false_eq_true, not_true_eq_false, not_false_eq_true, true_and, Nat.reduceEqDiff, Nat.reduceAdd, Nat.reduceLeDiff]
      exact ih (i + 1) (by omega) (ras a cut wo (aSp a) 0 (r.1, false)) _ _ _ _ (ras_k _ _ hr)
    · simp (implicitDefEqProofs := false) only [bI, c, kl_I, kl_J, kl_R, kl_T, kl_N, Nat.le_refl, Nat.zero_le, List.map_nil, List.map_cons, List.sum_nil, List.sum_cons, c_I, c_J, c_R, c_T, va_rf, hI_wI, hJ_wJ, hR_wR, hI_J, hI_R, hJ_I, hJ_R, hR_I, hR_J, hN_I, hN_J, hN_R, wI_I, wJ_J, upd_at, updL_at, kR_s, Option.toList, List.append_nil, List.nil_append, List.cons_append, if_true, if_false, reduceIte, Bool.false_eq_true, not_true_eq_false, not_false_eq_true, true_and, Nat.reduceEqDiff, Nat.reduceAdd, Nat.reduceLeDiff]
theorem c_spread {d : Nat} {h : qH} {s : Nat} {a : aS} {cut : Nat} {wo : Option Nat} {own : Nat → Nat} (F : Fin0 (hR h)) (hf : hR h 32 0 = some s) (w : cS h s a) (hc : cut < 64) (hw : ∀ x, wo = some x → x < 9) (hv : ∀ j, j < aN a → hI h 33 j = nI (own j)) (ho : ∀ j, j < aN a → own j ≤ 1000) : ∀ Q, WM d mX0_spread [.ref (32 : Nat), .int (nI cut), .int (mI wo)] h Q = Q (some none) (wI h 34 (fil 6 (nF (sprN a cut wo own)) (hI h 34))) := by
  intro Q
  simp (implicitDefEqProofs := false) only [eX0_spread, rX0_spread_0, rX0_spread_1, kl_I, kl_J, kl_R, kl_T, kl_N, Nat.le_refl, Nat.zero_le, List.map_nil, List.map_cons, List.sum_nil, List.sum_cons, c_I, c_J, c_R, c_T, va_rf, hI_wI, hJ_wJ, hR_wR, hI_J, hI_R, hJ_I, hJ_R, hR_I, hR_J, hN_I, hN_J, hN_R, wI_I, wJ_J, upd_at, updL_at, kR_s, Option.toList, List.append_nil, List.nil_append, List.cons_append, if_true, if_false, reduceIte, Bool.false_eq_true, not_true_eq_false, not_false_eq_true, true_and, Nat.reduceEqDiff, Nat.reduceAdd, Nat.reduceLeDiff]
  have e1 := l_spr1 (d := d) (y1 := nI cut) (y2 := mI wo) (o4 := none) (o5 := none) (o6 := none) (o7 := none) (o8 := none) F hf w hv 6 0 (by omega) Q
  rw [fil_0, wI_same] at e1
  rw [show (0 : Int32) = nI 0 from rfl, e1]
  simp (implicitDefEqProofs := false) only [rX0_spread_43, rX0_spread_44, rX0_spread_45, rX0_spread_46, kl_I, kl_J, kl_R, kl_T, kl_N, Nat.le_refl, Nat.zero_le, List.map_nil, List.map_cons, List.sum_nil, List.sum_cons, c_I, c_J, c_R, c_T, va_rf, hI_wI, hJ_wJ, hR_wR, hI_J, hI_R, hJ_I, hJ_R, hR_I, hR_J, hN_I, hN_J, hN_R, wI_I, wJ_J, upd_at, updL_at, kR_s, Option.toList, List.append_nil, List.nil_append, List.cons_append, if_true, if_false, reduceIte, Bool.false_eq_true, not_true_eq_false, not_false_eq_true, true_and, Nat.reduceEqDiff, Nat.reduceAdd, Nat.reduceLeDiff]
  exact l_spr3 F hf w hc hw 6 0 (by omega) (row0 a own, true) _ _ _ _ (row0_k ho)
