/-! ===== the two streets of the class, either of them ===== -/
theorem kS0 {s : Nat} (hs : s = 1 ∨ s = 13) : (kd s).1 = 4 := by rcases hs with rfl | rfl <;> rfl
theorem kS1 {s : Nat} (hs : s = 1 ∨ s = 13) : (kd (s + 1)).1 = 11 := by rcases hs with rfl | rfl <;> rfl
theorem kT1 {s : Nat} (hs : s = 1 ∨ s = 13) : (kd (s + 1)).2 = 6 := by rcases hs with rfl | rfl <;> rfl
theorem fS1 {s : Nat} {r : Nat → Nat → Option Nat} (hs : s = 1 ∨ s = 13) (F : Fin0 r) : r s 2 = some (s + 1) := by rcases hs with rfl | rfl; exact fin_1_2 F; exact fin_13_2 F
theorem kS2 {s : Nat} (hs : s = 1 ∨ s = 13) : (kd (s + 2)).1 = 11 := by rcases hs with rfl | rfl <;> rfl
theorem kT2 {s : Nat} (hs : s = 1 ∨ s = 13) : (kd (s + 2)).2 = 6 := by rcases hs with rfl | rfl <;> rfl
theorem fS2 {s : Nat} {r : Nat → Nat → Option Nat} (hs : s = 1 ∨ s = 13) (F : Fin0 r) : r s 3 = some (s + 2) := by rcases hs with rfl | rfl; exact fin_1_3 F; exact fin_13_3 F
theorem kS3 {s : Nat} (hs : s = 1 ∨ s = 13) : (kd (s + 3)).1 = 11 := by rcases hs with rfl | rfl <;> rfl
theorem kT3 {s : Nat} (hs : s = 1 ∨ s = 13) : (kd (s + 3)).2 = 6 := by rcases hs with rfl | rfl <;> rfl
theorem fS3 {s : Nat} {r : Nat → Nat → Option Nat} (hs : s = 1 ∨ s = 13) (F : Fin0 r) : r s 4 = some (s + 3) := by rcases hs with rfl | rfl; exact fin_1_4 F; exact fin_13_4 F
theorem kS4 {s : Nat} (hs : s = 1 ∨ s = 13) : (kd (s + 4)).1 = 11 := by rcases hs with rfl | rfl <;> rfl
theorem kT4 {s : Nat} (hs : s = 1 ∨ s = 13) : (kd (s + 4)).2 = 6 := by rcases hs with rfl | rfl <;> rfl
theorem fS4 {s : Nat} {r : Nat → Nat → Option Nat} (hs : s = 1 ∨ s = 13) (F : Fin0 r) : r s 5 = some (s + 4) := by rcases hs with rfl | rfl; exact fin_1_5 F; exact fin_13_5 F
theorem kS5 {s : Nat} (hs : s = 1 ∨ s = 13) : (kd (s + 5)).1 = 11 := by rcases hs with rfl | rfl <;> rfl
theorem kT5 {s : Nat} (hs : s = 1 ∨ s = 13) : (kd (s + 5)).2 = 9 := by rcases hs with rfl | rfl <;> rfl
theorem fS5 {s : Nat} {r : Nat → Nat → Option Nat} (hs : s = 1 ∨ s = 13) (F : Fin0 r) : r s 8 = some (s + 5) := by rcases hs with rfl | rfl; exact fin_1_8 F; exact fin_13_8 F
theorem kS6 {s : Nat} (hs : s = 1 ∨ s = 13) : (kd (s + 6)).1 = 11 := by rcases hs with rfl | rfl <;> rfl
theorem kT6 {s : Nat} (hs : s = 1 ∨ s = 13) : (kd (s + 6)).2 = 9 := by rcases hs with rfl | rfl <;> rfl
theorem fS6 {s : Nat} {r : Nat → Nat → Option Nat} (hs : s = 1 ∨ s = 13) (F : Fin0 r) : r s 9 = some (s + 6) := by rcases hs with rfl | rfl; exact fin_1_9 F; exact fin_13_9 F
theorem kS7 {s : Nat} (hs : s = 1 ∨ s = 13) : (kd (s + 7)).1 = 11 := by rcases hs with rfl | rfl <;> rfl
theorem kT7 {s : Nat} (hs : s = 1 ∨ s = 13) : (kd (s + 7)).2 = 9 := by rcases hs with rfl | rfl <;> rfl
theorem fS7 {s : Nat} {r : Nat → Nat → Option Nat} (hs : s = 1 ∨ s = 13) (F : Fin0 r) : r s 10 = some (s + 7) := by rcases hs with rfl | rfl; exact fin_1_10 F; exact fin_13_10 F
theorem kS8 {s : Nat} (hs : s = 1 ∨ s = 13) : (kd (s + 8)).1 = 11 := by rcases hs with rfl | rfl <;> rfl
theorem kT8 {s : Nat} (hs : s = 1 ∨ s = 13) : (kd (s + 8)).2 = 4 := by rcases hs with rfl | rfl <;> rfl
theorem fS8 {s : Nat} {r : Nat → Nat → Option Nat} (hs : s = 1 ∨ s = 13) (F : Fin0 r) : r s 12 = some (s + 8) := by rcases hs with rfl | rfl; exact fin_1_12 F; exact fin_13_12 F
theorem kS9 {s : Nat} (hs : s = 1 ∨ s = 13) : (kd (s + 9)).1 = 11 := by rcases hs with rfl | rfl <;> rfl
theorem kT9 {s : Nat} (hs : s = 1 ∨ s = 13) : (kd (s + 9)).2 = 2 := by rcases hs with rfl | rfl <;> rfl
theorem fS9 {s : Nat} {r : Nat → Nat → Option Nat} (hs : s = 1 ∨ s = 13) (F : Fin0 r) : r s 14 = some (s + 9) := by rcases hs with rfl | rfl; exact fin_1_14 F; exact fin_13_14 F
theorem kS10 {s : Nat} (hs : s = 1 ∨ s = 13) : (kd (s + 10)).1 = 11 := by rcases hs with rfl | rfl <;> rfl
theorem kT10 {s : Nat} (hs : s = 1 ∨ s = 13) : (kd (s + 10)).2 = 4 := by rcases hs with rfl | rfl <;> rfl
theorem fS10 {s : Nat} {r : Nat → Nat → Option Nat} (hs : s = 1 ∨ s = 13) (F : Fin0 r) : r s 16 = some (s + 10) := by rcases hs with rfl | rfl; exact fin_1_16 F; exact fin_13_16 F
theorem kS11 {s : Nat} (hs : s = 1 ∨ s = 13) : (kd (s + 11)).1 = 11 := by rcases hs with rfl | rfl <;> rfl
theorem kT11 {s : Nat} (hs : s = 1 ∨ s = 13) : (kd (s + 11)).2 = 4 := by rcases hs with rfl | rfl <;> rfl
theorem fS11 {s : Nat} {r : Nat → Nat → Option Nat} (hs : s = 1 ∨ s = 13) (F : Fin0 r) : r s 17 = some (s + 11) := by rcases hs with rfl | rfl; exact fin_1_17 F; exact fin_13_17 F
theorem nS {s : Nat} (hs : s = 1 ∨ s = 13) : ∀ k, ¬ k = 1 → ¬ k = 13 → (s = k) = False := fun k h1 h2 => by rcases hs with rfl | rfl <;> simp <;> omega
theorem nSs {s : Nat} (hs : s = 1 ∨ s = 13) : ∀ k, ¬ k = 1 → ¬ k = 13 → (k = s) = False := fun k h1 h2 => by rcases hs with rfl | rfl <;> simp <;> omega
theorem nq {x k : Nat} {c : Int32} (hc : nI k = c) (hx : x < 2 ^ 31) (hk : k < 2 ^ 31) : (nI x = c) = (x = k) := by subst hc; exact propext (nI_eq hx hk)
theorem nlt {x k : Nat} {c : Int32} (hc : nI k = c) (hx : x < 2 ^ 31) (hk : k < 2 ^ 31) : (nI x < c) = (x < k) := by subst hc; exact propext (nI_ltI hx hk)
theorem nle {x k : Nat} {c : Int32} (hc : nI k = c) (hx : x < 2 ^ 31) (hk : k < 2 ^ 31) : (nI x ≤ c) = (x ≤ k) := by subst hc; exact propext (nI_leI hx hk)
theorem ngt {x k : Nat} {c : Int32} (hc : nI k = c) (hx : x < 2 ^ 31) (hk : k < 2 ^ 31) : (c < nI x) = (k < x) := by subst hc; exact propext (nI_ltI hk hx)
theorem nge {x k : Nat} {c : Int32} (hc : nI k = c) (hx : x < 2 ^ 31) (hk : k < 2 ^ 31) : (c ≤ nI x) = (k ≤ x) := by subst hc; exact propext (nI_leI hk hx)
theorem nN {x k : Nat} (h : x < 2 ^ 31) : (nI x = -2) = False := by
  apply propext
  refine ⟨fun q => ?_, False.elim⟩
  have := congrArg Int32.toInt q
  rw [nI_toInt h] at this
  have e : (-2 : Int32).toInt = -2 := by decide
  omega
theorem nM {x : Nat} (h : x < 2 ^ 31) : (nI x = -1) = False := by
  apply propext
  refine ⟨fun q => ?_, False.elim⟩
  have := congrArg Int32.toInt q
  rw [nI_toInt h] at this
  have e : (-1 : Int32).toInt = -1 := by decide
  omega
theorem nneg {x : Nat} (h : x < 2 ^ 31) : (nI x < 0) = False := by
  apply propext
  exact ⟨fun q => nI_pos h q, False.elim⟩
/-- a set of those of the first n that are so -/
def bm (p : Nat → Bool) : Nat → Nat
  | 0 => 0
  | n + 1 => bm p n ||| (if p n = true then 2 ^ n else 0)
theorem bm_t {p : Nat → Bool} {n : Nat} (h : p n = true) : bm p (n + 1) = bm p n ||| 2 ^ n := by simp [bm, h]
theorem bm_f {p : Nat → Bool} {n : Nat} (h : ¬ p n = true) : bm p (n + 1) = bm p n := by simp [bm, h]
theorem bm_bit (p : Nat → Bool) : ∀ (n j : Nat), (bm p n).testBit j = (decide (j < n) && p j)
  | 0, j => by simp [bm]
  | n + 1, j => by
    rw [bm, Nat.testBit_or, bm_bit p n j]
    by_cases hp : p n = true
    · rw [if_pos hp, Nat.testBit_two_pow]
      by_cases hj : n = j
      · subst hj; simp [hp]
      · have : (decide (j < n + 1)) = decide (j < n) := by simp; omega
        simp [hj, this]
    · rw [if_neg hp, Nat.zero_testBit, Bool.or_false]
      by_cases hj : j = n
      · subst hj; simp [hp]
      · have : (decide (j < n + 1)) = decide (j < n) := by simp; omega
        rw [this]
theorem bm_lt (p : Nat → Bool) (n : Nat) : bm p n < 2 ^ n := by
  apply Nat.lt_pow_two_of_testBit
  intro i hi
  rw [bm_bit]
  simp; omega
theorem bm_cong {p q : Nat → Bool} : ∀ {n : Nat}, (∀ j, j < n → p j = q j) → bm p n = bm q n
  | 0, _ => rfl
  | n + 1, h => by rw [bm, bm, bm_cong (fun j hj => h j (by omega)), h n (by omega)]
theorem p6 {n : Nat} (h : n ≤ 6) : 2 ^ n ≤ 64 := by
  rcases (show n = 0 ∨ n = 1 ∨ n = 2 ∨ n = 3 ∨ n = 4 ∨ n = 5 ∨ n = 6 by omega) with rfl | rfl | rfl | rfl | rfl | rfl | rfl <;> decide
def popc : Nat → Nat → Nat
  | 0, _ => 0
  | n + 1, x => popc n x + (if x.testBit n = true then 1 else 0)
theorem mx1 : ∀ c, c < 61 → mxI 0 (nI c - 1) = nI (c - 1) := by decide +kernel
theorem c_causeOf {d : Nat} {h : qH} {s : Nat} {a : aS} {j t : Nat} (F : Fin0 (hR h)) (w : cS h s a) (hj : j < aN a) (ht : t < 64) : ∀ Q, WM d mX4_causeOf [.ref s, .int (nI j), .int (nI t)] h Q = Q (some (some (.int (oI (causeN a t j))))) h := by
  intro Q
  obtain ⟨hs, ww, -, w4, -⟩ := w
  have hj6 : j < 6 := by have := ww.1; omega
  have v6 : vp_in (nI j) 6 := nI_vp hj6 (by decide)
  have cl : (nI j).toNatClampNeg = j := nI_cl (by omega)
  have bt := bt_t (t := t) (j := j) (by omega) (by omega)
  obtain ⟨e1, e2, e3, e4⟩ := w4 j hj
  obtain ⟨k1, k2, k3, k4⟩ := ww.2.2.1 j hj
  simp (implicitDefEqProofs := false) only [eX4_causeOf, rX4_causeOf_0, rX4_causeOf_0b, rX4_causeOf_1, rX4_causeOf_4, rX4_causeOf_5, rX4_causeOf_6, rX4_causeOf_8, rX4_causeOf_11, rX4_causeOf_12, rX4_causeOf_13, rX4_causeOf_14, rX4_causeOf_15, rX4_causeOf_16, rX4_causeOf_19, rX4_causeOf_19b, rX4_causeOf_20, rX4_causeOf_23, rX4_causeOf_24, rX4_causeOf_25, rX4_causeOf_26, rX4_causeOf_26b, rX4_causeOf_27, rX4_causeOf_30, rX4_causeOf_31, rX4_causeOf_32, rX4_causeOf_33, rX4_causeOf_36, rX4_causeOf_38, rX4_causeOf_39, rX4_causeOf_39b, rX4_causeOf_40, rX4_causeOf_43, rX4_causeOf_44, rX4_causeOf_45, rX4_causeOf_46, rX4_causeOf_49, rX4_causeOf_50, rX4_causeOf_50b, rX4_causeOf_51, rX4_causeOf_54, rX4_causeOf_55, rX4_causeOf_56, rX4_causeOf_57, rX4_causeOf_58, rX4_causeOf_61, rX4_causeOf_64, rX4_causeOf_64b, rX4_causeOf_65, rX4_causeOf_68, rX4_causeOf_69, rX4_causeOf_70, kS0 hs, kS1 hs, kT1 hs, fS1 hs F, kS2 hs, kT2 hs, fS2 hs F, kS3 hs, kT3 hs, fS3 hs F, kS4 hs, kT4 hs, fS4 hs F, kS5 hs, kT5 hs, fS5 hs F, kS6 hs, kT6 hs, fS6 hs F, kS7 hs, kT7 hs, fS7 hs F, kS8 hs, kT8 hs, fS8 hs F, kS9 hs, kT9 hs, fS9 hs F, kS10 hs, kT10 hs, fS10 hs F, kS11 hs, kT11 hs, fS11 hs F, nS hs, nSs hs, pCX4_causeOf, pSX4_causeOf, pOX4_causeOf, pLX4_causeOf, e2, e4, cl, v6, true_and, bt, kl_I, kl_J, kl_R, kl_T, kl_N, Nat.le_refl, Nat.zero_le, List.map_nil, List.map_cons, List.sum_nil, List.sum_cons, c_I, c_J, c_R, c_T, va_rf, hI_wI, hJ_wJ, hR_wR, hI_J, hI_R, hJ_I, hJ_R, hR_I, hR_J, hN_I, hN_J, hN_R, wI_I, wJ_J, upd_at, updL_at, kR_s, Option.toList, List.append_nil, List.nil_append, List.cons_append, if_true, if_false, reduceIte, Bool.false_eq_true, not_true_eq_false, not_false_eq_true, true_and, Nat.reduceEqDiff, Nat.reduceAdd, Nat.reduceLeDiff]
  unfold causeN
  cases hc : aCs a j with
  | none => simp [oI]
  | some c =>
    have hc60 := k2 c hc
    simp only [oI, nN (x := c) (k := 0) (by omega), nq (x := aDo a j) (k := 1) (c := 1) rfl (by omega) (by omega), nq (x := aDo a j) (k := 3) (c := 3) rfl (by omega) (by omega), if_false]
    by_cases c1 : t.testBit j = true
    · by_cases c2 : aDo a j = 1
      · simp [c1, c2]
      · by_cases c3 : aDo a j = 3
        · simp [c1, c3, mx1 c (by omega)]
        · simp [c1, c2, c3]
    · simp [c1]
def cutP (a : aS) (t j : Nat) : Bool := t.testBit j && decide (aDo a j = 2)
def cutN (a : aS) (t : Nat) : Nat := bm (cutP a t) (aN a)
theorem l_cutBy {d : Nat} {h : qH} {s : Nat} {a : aS} {t : Nat} (F : Fin0 (hR h)) (w : cS h s a) (ht : t < 64) : ∀ (k i : Nat), i + k = aN a → ∀ Q, WP d mX4_cutBy (0, 0) 4 [some (.ref s), some (.int (nI t)), some (.int (nI (bm (cutP a t) i))), some (.int (nI i))] [] h Q = Q (some (some (.int (nI (cutN a t))))) h := by
  obtain ⟨hs, ww, w3, w4, -⟩ := w
  have h6 := ww.1
  intro k
  induction k with
  | zero =>
    intro i hi Q
    obtain rfl : i = aN a := by omega
    simp (implicitDefEqProofs := false) only [rX4_cutBy_0, rX4_cutBy_1, rX4_cutBy_2, rX4_cutBy_3, rX4_cutBy_4, rX4_cutBy_5, rX4_cutBy_5b, rX4_cutBy_6, rX4_cutBy_9, rX4_cutBy_12, rX4_cutBy_13, rX4_cutBy_14, rX4_cutBy_15, rX4_cutBy_16, rX4_cutBy_17, rX4_cutBy_18, rX4_cutBy_21, rX4_cutBy_21b, rX4_cutBy_22, rX4_cutBy_25, rX4_cutBy_26, rX4_cutBy_27, rX4_cutBy_28, rX4_cutBy_31, rX4_cutBy_32, rX4_cutBy_33, rX4_cutBy_34, rX4_cutBy_35, rX4_cutBy_36, rX4_cutBy_37, rX4_cutBy_43, rX4_cutBy_44, kS0 hs, kS1 hs, kT1 hs, fS1 hs F, kS2 hs, kT2 hs, fS2 hs F, kS3 hs, kT3 hs, fS3 hs F, kS4 hs, kT4 hs, fS4 hs F, kS5 hs, kT5 hs, fS5 hs F, kS6 hs, kT6 hs, fS6 hs F, kS7 hs, kT7 hs, fS7 hs F, kS8 hs, kT8 hs, fS8 hs F, kS9 hs, kT9 hs, fS9 hs F, kS10 hs, kT10 hs, fS10 hs F, kS11 hs, kT11 hs, fS11 hs F, nS hs, nSs hs, pCX4_cutBy, pSX4_cutBy, pOX4_cutBy, pLX4_cutBy, w3.2.1, Int32.le_refl, kl_I, kl_J, kl_R, kl_T, kl_N, Nat.le_refl, Nat.zero_le, List.map_nil, List.map_cons, List.sum_nil, List.sum_cons, c_I, c_J, c_R, c_T, va_rf, hI_wI, hJ_wJ, hR_wR, hI_J, hI_R, hJ_I, hJ_R, hR_I, hR_J, hN_I, hN_J, hN_R, wI_I, wJ_J, upd_at, updL_at, kR_s, Option.toList, List.append_nil, List.nil_append, List.cons_append, if_true, if_false, reduceIte, Bool.false_eq_true, not_true_eq_false, not_false_eq_true, true_and, Nat.reduceEqDiff, Nat.reduceAdd, Nat.reduceLeDiff]
    rfl
  | succ k ih =>
    intro i hi Q
    have hlt : i < aN a := by omega
    have g1 : ¬ nI (aN a) ≤ nI i := nI_ge hlt (by omega)
    have v6 : vp_in (nI i) 6 := nI_vp (by omega) (by decide)
    have cl : (nI i).toNatClampNeg = i := nI_cl (by omega)
    have bt := bt_t (t := t) (j := i) (by omega) (by omega)
    have e4 := (w4 i hlt).2.2.2
    have k4 := (ww.2.2.1 i hlt).2.2.2
    have i1 := ih (i + 1) (by omega) Q
    by_cases c1 : t.testBit i = true
    · by_cases c2 : aDo a i = 2
      · rw [bm_t (by simp [cutP, c1, c2])] at i1
        simp (implicitDefEqProofs := false) only [rX4_cutBy_0, rX4_cutBy_1, rX4_cutBy_2, rX4_cutBy_3, rX4_cutBy_4, rX4_cutBy_5, rX4_cutBy_5b, rX4_cutBy_6, rX4_cutBy_9, rX4_cutBy_12, rX4_cutBy_13, rX4_cutBy_14, rX4_cutBy_15, rX4_cutBy_16, rX4_cutBy_17, rX4_cutBy_18, rX4_cutBy_21, rX4_cutBy_21b, rX4_cutBy_22, rX4_cutBy_25, rX4_cutBy_26, rX4_cutBy_27, rX4_cutBy_28, rX4_cutBy_31, rX4_cutBy_32, rX4_cutBy_33, rX4_cutBy_34, rX4_cutBy_35, rX4_cutBy_36, rX4_cutBy_37, rX4_cutBy_43, rX4_cutBy_44, kS0 hs, kS1 hs, kT1 hs, fS1 hs F, kS2 hs, kT2 hs, fS2 hs F, kS3 hs, kT3 hs, fS3 hs F, kS4 hs, kT4 hs, fS4 hs F, kS5 hs, kT5 hs, fS5 hs F, kS6 hs, kT6 hs, fS6 hs F, kS7 hs, kT7 hs, fS7 hs F, kS8 hs, kT8 hs, fS8 hs F, kS9 hs, kT9 hs, fS9 hs F, kS10 hs, kT10 hs, fS10 hs F, kS11 hs, kT11 hs, fS11 hs F, nS hs, nSs hs, pCX4_cutBy, pSX4_cutBy, pOX4_cutBy, pLX4_cutBy, w3.2.1, g1, v6, cl, bt, e4, c1, c2, true_and, not_true_eq_false, show nI 2 = 2 from rfl, bt_shl (j := i) (by omega), bt_or, kl_I, kl_J, kl_R, kl_T, kl_N, Nat.le_refl, Nat.zero_le, List.map_nil, List.map_cons, List.sum_nil, List.sum_cons, c_I, c_J, c_R, c_T, va_rf, hI_wI, hJ_wJ, hR_wR, hI_J, hI_R, hJ_I, hJ_R, hR_I, hR_J, hN_I, hN_J, hN_R, wI_I, wJ_J, upd_at, updL_at, kR_s, Option.toList, List.append_nil, List.nil_append, List.cons_append, if_true, if_false, reduceIte, Bool.false_eq_true, not_true_eq_false, not_false_eq_true, true_and, Nat.reduceEqDiff, Nat.reduceAdd, Nat.reduceLeDiff]
        rw [rX4_cutBy_40, nI_1, i1]
      · rw [bm_f (by simp [cutP, c2])] at i1
        simp (implicitDefEqProofs := false) only [rX4_cutBy_0, rX4_cutBy_1, rX4_cutBy_2, rX4_cutBy_3, rX4_cutBy_4, rX4_cutBy_5, rX4_cutBy_5b, rX4_cutBy_6, rX4_cutBy_9, rX4_cutBy_12, rX4_cutBy_13, rX4_cutBy_14, rX4_cutBy_15, rX4_cutBy_16, rX4_cutBy_17, rX4_cutBy_18, rX4_cutBy_21, rX4_cutBy_21b, rX4_cutBy_22, rX4_cutBy_25, rX4_cutBy_26, rX4_cutBy_27, rX4_cutBy_28, rX4_cutBy_31, rX4_cutBy_32, rX4_cutBy_33, rX4_cutBy_34, rX4_cutBy_35, rX4_cutBy_36, rX4_cutBy_37, rX4_cutBy_43, rX4_cutBy_44, kS0 hs, kS1 hs, kT1 hs, fS1 hs F, kS2 hs, kT2 hs, fS2 hs F, kS3 hs, kT3 hs, fS3 hs F, kS4 hs, kT4 hs, fS4 hs F, kS5 hs, kT5 hs, fS5 hs F, kS6 hs, kT6 hs, fS6 hs F, kS7 hs, kT7 hs, fS7 hs F, kS8 hs, kT8 hs, fS8 hs F, kS9 hs, kT9 hs, fS9 hs F, kS10 hs, kT10 hs, fS10 hs F, kS11 hs, kT11 hs, fS11 hs F, nS hs, nSs hs, pCX4_cutBy, pSX4_cutBy, pOX4_cutBy, pLX4_cutBy, w3.2.1, g1, v6, cl, bt, e4, c1, nq (x := aDo a i) (k := 2) (c := 2) rfl (by omega) (by omega), c2, true_and, not_true_eq_false, not_false_eq_true, kl_I, kl_J, kl_R, kl_T, kl_N, Nat.le_refl, Nat.zero_le, List.map_nil, List.map_cons, List.sum_nil, List.sum_cons, c_I, c_J, c_R, c_T, va_rf, hI_wI, hJ_wJ, hR_wR, hI_J, hI_R, hJ_I, hJ_R, hR_I, hR_J, hN_I, hN_J, hN_R, wI_I, wJ_J, upd_at, updL_at, kR_s, Option.toList, List.append_nil, List.nil_append, List.cons_append, if_true, if_false, reduceIte, Bool.false_eq_true, not_true_eq_false, not_false_eq_true, true_and, Nat.reduceEqDiff, Nat.reduceAdd, Nat.reduceLeDiff]
        rw [rX4_cutBy_40, nI_1, i1]
    · rw [bm_f (by simp [cutP, c1])] at i1
      simp (implicitDefEqProofs := false) only [rX4_cutBy_0, rX4_cutBy_1, rX4_cutBy_2, rX4_cutBy_3, rX4_cutBy_4, rX4_cutBy_5, rX4_cutBy_5b, rX4_cutBy_6, rX4_cutBy_9, rX4_cutBy_12, rX4_cutBy_13, rX4_cutBy_14, rX4_cutBy_15, rX4_cutBy_16, rX4_cutBy_17, rX4_cutBy_18, rX4_cutBy_21, rX4_cutBy_21b, rX4_cutBy_22, rX4_cutBy_25, rX4_cutBy_26, rX4_cutBy_27, rX4_cutBy_28, rX4_cutBy_31, rX4_cutBy_32, rX4_cutBy_33, rX4_cutBy_34, rX4_cutBy_35, rX4_cutBy_36, rX4_cutBy_37, rX4_cutBy_43, rX4_cutBy_44, kS0 hs, kS1 hs, kT1 hs, fS1 hs F, kS2 hs, kT2 hs, fS2 hs F, kS3 hs, kT3 hs, fS3 hs F, kS4 hs, kT4 hs, fS4 hs F, kS5 hs, kT5 hs, fS5 hs F, kS6 hs, kT6 hs, fS6 hs F, kS7 hs, kT7 hs, fS7 hs F, kS8 hs, kT8 hs, fS8 hs F, kS9 hs, kT9 hs, fS9 hs F, kS10 hs, kT10 hs, fS10 hs F, kS11 hs, kT11 hs, fS11 hs F, nS hs, nSs hs, pCX4_cutBy, pSX4_cutBy, pOX4_cutBy, pLX4_cutBy, w3.2.1, g1, v6, cl, bt, c1, true_and, show ¬ (0 : Int32) = 1 from by decide, not_false_eq_true, kl_I, kl_J, kl_R, kl_T, kl_N, Nat.le_refl, Nat.zero_le, List.map_nil, List.map_cons, List.sum_nil, List.sum_cons, c_I, c_J, c_R, c_T, va_rf, hI_wI, hJ_wJ, hR_wR, hI_J, hI_R, hJ_I, hJ_R, hR_I, hR_J, hN_I, hN_J, hN_R, wI_I, wJ_J, upd_at, updL_at, kR_s, Option.toList, List.append_nil, List.nil_append, List.cons_append, if_true, if_false, reduceIte, Bool.false_eq_true, not_true_eq_false, not_false_eq_true, true_and, Nat.reduceEqDiff, Nat.reduceAdd, Nat.reduceLeDiff]
      rw [rX4_cutBy_40, nI_1, i1]
theorem c_cutBy {d : Nat} {h : qH} {s : Nat} {a : aS} {t : Nat} (F : Fin0 (hR h)) (w : cS h s a) (ht : t < 64) : ∀ Q, WM d mX4_cutBy [.ref s, .int (nI t)] h Q = Q (some (some (.int (nI (cutN a t))))) h := by
  intro Q
  simp (implicitDefEqProofs := false) only [eX4_cutBy, rX4_cutBy_0, rX4_cutBy_1, rX4_cutBy_2, rX4_cutBy_3, kl_I, kl_J, kl_R, kl_T, kl_N, Nat.le_refl, Nat.zero_le, List.map_nil, List.map_cons, List.sum_nil, List.sum_cons, c_I, c_J, c_R, c_T, va_rf, hI_wI, hJ_wJ, hR_wR, hI_J, hI_R, hJ_I, hJ_R, hR_I, hR_J, hN_I, hN_J, hN_R, wI_I, wJ_J, upd_at, updL_at, kR_s, Option.toList, List.append_nil, List.nil_append, List.cons_append, if_true, if_false, reduceIte, Bool.false_eq_true, not_true_eq_false, not_false_eq_true, true_and, Nat.reduceEqDiff, Nat.reduceAdd, Nat.reduceLeDiff]
  exact l_cutBy F w ht (aN a) 0 (by omega) Q
/-- the first spark from one house to another, of those from i on -/
def spkL (a : aS) (x y : Nat) : Nat → Nat → Option Nat
  | 0, _ => none
  | k + 1, i => if aFm a i = x ∧ aTo a i = y then some i else spkL a x y k (i + 1)
def spkN (a : aS) (x y : Nat) : Option Nat := spkL a x y (aSp a) 0
def mI : Option Nat → Int32
  | none => -1
  | some c => nI c
theorem l_sparkOf {d : Nat} {h : qH} {s : Nat} {a : aS} {x y : Nat} (F : Fin0 (hR h)) (w : cS h s a) (hx : x < 6) (hy : y < 6) : ∀ (k i : Nat), i + k = aSp a → ∀ Q, WP d mX4_sparkOf (0, 0) 2 [some (.ref s), some (.int (nI x)), some (.int (nI y)), some (.int (nI i))] [] h Q = Q (some (some (.int (mI (spkL a x y k i))))) h := by
  obtain ⟨hs, ww, w3, -, w5, -⟩ := w
  have h9 := ww.2.2.2.2.1
  have h6 := ww.1
  intro k
  induction k with
  | zero =>
    intro i hi Q
    obtain rfl : i = aSp a := by omega
    simp (implicitDefEqProofs := false) only [rX4_sparkOf_0, rX4_sparkOf_1, rX4_sparkOf_2, rX4_sparkOf_3, rX4_sparkOf_3b, rX4_sparkOf_4, rX4_sparkOf_7, rX4_sparkOf_10, rX4_sparkOf_10b, rX4_sparkOf_11, rX4_sparkOf_14, rX4_sparkOf_15, rX4_sparkOf_16, rX4_sparkOf_17, rX4_sparkOf_20, rX4_sparkOf_20b, rX4_sparkOf_21, rX4_sparkOf_24, rX4_sparkOf_25, rX4_sparkOf_26, rX4_sparkOf_27, rX4_sparkOf_30, rX4_sparkOf_31, rX4_sparkOf_32, rX4_sparkOf_38, rX4_sparkOf_39, kS0 hs, kS1 hs, kT1 hs, fS1 hs F, kS2 hs, kT2 hs, fS2 hs F, kS3 hs, kT3 hs, fS3 hs F, kS4 hs, kT4 hs, fS4 hs F, kS5 hs, kT5 hs, fS5 hs F, kS6 hs, kT6 hs, fS6 hs F, kS7 hs, kT7 hs, fS7 hs F, kS8 hs, kT8 hs, fS8 hs F, kS9 hs, kT9 hs, fS9 hs F, kS10 hs, kT10 hs, fS10 hs F, kS11 hs, kT11 hs, fS11 hs F, nS hs, nSs hs, pCX4_sparkOf, pSX4_sparkOf, pOX4_sparkOf, pLX4_sparkOf, w3.2.2.2.1, Int32.le_refl, kl_I, kl_J, kl_R, kl_T, kl_N, Nat.le_refl, Nat.zero_le, List.map_nil, List.map_cons, List.sum_nil, List.sum_cons, c_I, c_J, c_R, c_T, va_rf, hI_wI, hJ_wJ, hR_wR, hI_J, hI_R, hJ_I, hJ_R, hR_I, hR_J, hN_I, hN_J, hN_R, wI_I, wJ_J, upd_at, updL_at, kR_s, Option.toList, List.append_nil, List.nil_append, List.cons_append, if_true, if_false, reduceIte, Bool.false_eq_true, not_true_eq_false, not_false_eq_true, true_and, Nat.reduceEqDiff, Nat.reduceAdd, Nat.reduceLeDiff]
    rfl
  | succ k ih =>
    intro i hi Q
    have hlt : i < aSp a := by omega
    have g1 : ¬ nI (aSp a) ≤ nI i := nI_ge hlt (by omega)
    have v9 : vp_in (nI i) 9 := nI_vp (by omega) (by decide)
    have cl : (nI i).toNatClampNeg = i := nI_cl (by omega)
    obtain ⟨e1, e2, -⟩ := w5 i hlt
    obtain ⟨k1, k2, -⟩ := ww.2.2.2.2.2.1 i hlt
    have i1 := ih (i + 1) (by omega) Q
    have q1 : (nI (aFm a i) = nI x) = (aFm a i = x) := propext (nI_eq (by omega) (by omega))
    have q2 : (nI (aTo a i) = nI y) = (aTo a i = y) := propext (nI_eq (by omega) (by omega))
    simp (implicitDefEqProofs := false) only [rX4_sparkOf_0, rX4_sparkOf_1, rX4_sparkOf_2, rX4_sparkOf_3, rX4_sparkOf_3b, rX4_sparkOf_4, rX4_sparkOf_7, rX4_sparkOf_10, rX4_sparkOf_10b, rX4_sparkOf_11, rX4_sparkOf_14, rX4_sparkOf_15, rX4_sparkOf_16, rX4_sparkOf_17, rX4_sparkOf_20, rX4_sparkOf_20b, rX4_sparkOf_21, rX4_sparkOf_24, rX4_sparkOf_25, rX4_sparkOf_26, rX4_sparkOf_27, rX4_sparkOf_30, rX4_sparkOf_31, rX4_sparkOf_32, rX4_sparkOf_38, rX4_sparkOf_39, kS0 hs, kS1 hs, kT1 hs, fS1 hs F, kS2 hs, kT2 hs, fS2 hs F, kS3 hs, kT3 hs, fS3 hs F, kS4 hs, kT4 hs, fS4 hs F, kS5 hs, kT5 hs, fS5 hs F, kS6 hs, kT6 hs, fS6 hs F, kS7 hs, kT7 hs, fS7 hs F, kS8 hs, kT8 hs, fS8 hs F, kS9 hs, kT9 hs, fS9 hs F, kS10 hs, kT10 hs, fS10 hs F, kS11 hs, kT11 hs, fS11 hs F, nS hs, nSs hs, pCX4_sparkOf, pSX4_sparkOf, pOX4_sparkOf, pLX4_sparkOf, w3.2.2.2.1, g1, v9, cl, e1, e2, q1, q2, rX4_sparkOf_35, nI_1, i1, spkL, kl_I, kl_J, kl_R, kl_T, kl_N, Nat.le_refl, Nat.zero_le, List.map_nil, List.map_cons, List.sum_nil, List.sum_cons, c_I, c_J, c_R, c_T, va_rf, hI_wI, hJ_wJ, hR_wR, hI_J, hI_R, hJ_I, hJ_R, hR_I, hR_J, hN_I, hN_J, hN_R, wI_I, wJ_J, upd_at, updL_at, kR_s, Option.toList, List.append_nil, List.nil_append, List.cons_append, if_true, if_false, reduceIte, Bool.false_eq_true, not_true_eq_false, not_false_eq_true, true_and, Nat.reduceEqDiff, Nat.reduceAdd, Nat.reduceLeDiff]
    by_cases c1 : aFm a i = x
    · by_cases c2 : aTo a i = y
      · simp [c1, c2, mI]
      · simp [c1, c2]
    · simp [c1]
theorem c_sparkOf {d : Nat} {h : qH} {s : Nat} {a : aS} {x y : Nat} (F : Fin0 (hR h)) (w : cS h s a) (hx : x < 6) (hy : y < 6) : ∀ Q, WM d mX4_sparkOf [.ref s, .int (nI x), .int (nI y)] h Q = Q (some (some (.int (mI (spkN a x y))))) h := by
  intro Q
  simp (implicitDefEqProofs := false) only [eX4_sparkOf, rX4_sparkOf_0, rX4_sparkOf_1, kl_I, kl_J, kl_R, kl_T, kl_N, Nat.le_refl, Nat.zero_le, List.map_nil, List.map_cons, List.sum_nil, List.sum_cons, c_I, c_J, c_R, c_T, va_rf, hI_wI, hJ_wJ, hR_wR, hI_J, hI_R, hJ_I, hJ_R, hR_I, hR_J, hN_I, hN_J, hN_R, wI_I, wJ_J, upd_at, updL_at, kR_s, Option.toList, List.append_nil, List.nil_append, List.cons_append, if_true, if_false, reduceIte, Bool.false_eq_true, not_true_eq_false, not_false_eq_true, true_and, Nat.reduceEqDiff, Nat.reduceAdd, Nat.reduceLeDiff]
  exact l_sparkOf F w hx hy (aSp a) 0 (by omega) Q
theorem spkL_lt {a : aS} {x y : Nat} : ∀ {k i r : Nat}, spkL a x y k i = some r → i ≤ r ∧ r < i + k ∧ aFm a r = x ∧ aTo a r = y
  | 0, i, r, h => by simp [spkL] at h
  | k + 1, i, r, h => by
    rw [spkL] at h
    split at h
    · rename_i q; cases h; exact ⟨by omega, by omega, q.1, q.2⟩
    · have := spkL_lt h; exact ⟨by omega, by omega, this.2.2⟩
/-- in how many days sparks light, by those who have none any more -/
def lgN (a : aS) (x y cut : Nat) : Nat := match spkN a x y with
  | none => 1000
  | some r => if cut.testBit x = true then 1000 else lagN a r
theorem c_lagOf {d : Nat} {h : qH} {s : Nat} {a : aS} {x y cut : Nat} (F : Fin0 (hR h)) (w : cS h s a) (hx : x < 6) (hy : y < 6) (hc : cut < 64) : ∀ Q, WM (d + 1) mX4_lagOf [.ref s, .int (nI x), .int (nI y), .int (nI cut)] h Q = Q (some (some (.int (nI (lgN a x y cut))))) h := by
  intro Q
  have w0 := w
  obtain ⟨hs, ww, w3, -, w5, -⟩ := w
  have h9 := ww.2.2.2.2.1
  have bt := bt_t (t := cut) (j := x) (by omega) (by omega)
  simp (implicitDefEqProofs := false) only [eX4_lagOf, rX4_lagOf_0, rX4_lagOf_0b, rX4_lagOf_1, rX4_lagOf_2, rX4_lagOf_3, rX4_lagOf_6, rX4_lagOf_8, rX4_lagOf_10, rX4_lagOf_11, rX4_lagOf_14, rX4_lagOf_15, rX4_lagOf_16, rX4_lagOf_17, rX4_lagOf_18, rX4_lagOf_19, rX4_lagOf_20, rX4_lagOf_23, rX4_lagOf_26, rX4_lagOf_29, rX4_lagOf_29b, rX4_lagOf_30, rX4_lagOf_33, rX4_lagOf_35, rX4_lagOf_36, kS0 hs, kS1 hs, kT1 hs, fS1 hs F, kS2 hs, kT2 hs, fS2 hs F, kS3 hs, kT3 hs, fS3 hs F, kS4 hs, kT4 hs, fS4 hs F, kS5 hs, kT5 hs, fS5 hs F, kS6 hs, kT6 hs, fS6 hs F, kS7 hs, kT7 hs, fS7 hs F, kS8 hs, kT8 hs, fS8 hs F, kS9 hs, kT9 hs, fS9 hs F, kS10 hs, kT10 hs, fS10 hs F, kS11 hs, kT11 hs, fS11 hs F, nS hs, nSs hs, pCX4_lagOf, pSX4_lagOf, pOX4_lagOf, pLX4_lagOf, pCX4_sparkOf, pSX4_sparkOf, pOX4_sparkOf, pLX4_sparkOf, c_sparkOf F w0 hx hy, bt, kl_I, kl_J, kl_R, kl_T, kl_N, Nat.le_refl, Nat.zero_le, List.map_nil, List.map_cons, List.sum_nil, List.sum_cons, c_I, c_J, c_R, c_T, va_rf, hI_wI, hJ_wJ, hR_wR, hI_J, hI_R, hJ_I, hJ_R, hR_I, hR_J, hN_I, hN_J, hN_R, wI_I, wJ_J, upd_at, updL_at, kR_s, Option.toList, List.append_nil, List.nil_append, List.cons_append, if_true, if_false, reduceIte, Bool.false_eq_true, not_true_eq_false, not_false_eq_true, true_and, Nat.reduceEqDiff, Nat.reduceAdd, Nat.reduceLeDiff]
  unfold lgN
  cases hsp : spkN a x y with
  | none => simp [mI]; rfl
  | some r =>
    obtain ⟨-, hr, -⟩ := spkL_lt hsp
    simp only [mI, nM (x := r) (by omega), if_false, nI_cl (n := r) (by omega), nI_vp (i := r) (n := 9) (by omega) (by decide), (w5 r (by omega)).2.2, true_and]
    by_cases c1 : cut.testBit x = true
    · simp [c1]; rfl
    · simp [c1]
def doN (a : aS) : Nat → Nat
  | 0 => 0
  | n + 1 => doN a n + (if aDo a n = 0 then 0 else 1)
theorem l_doers {d : Nat} {h : qH} {s : Nat} {a : aS} (F : Fin0 (hR h)) (w : cS h s a) : ∀ (k i : Nat), i + k = aN a → ∀ Q, WP d mX4_doers (0, 0) 4 [some (.ref s), some (.int (nI (doN a i))), some (.int (nI i))] [] h Q = Q (some (some (.int (nI (doN a (aN a)))))) h := by
  obtain ⟨hs, ww, w3, w4, -⟩ := w
  have h6 := ww.1
  intro k
  induction k with
  | zero =>
    intro i hi Q
    obtain rfl : i = aN a := by omega
    simp (implicitDefEqProofs := false) only [rX4_doers_0, rX4_doers_1, rX4_doers_2, rX4_doers_3, rX4_doers_4, rX4_doers_5, rX4_doers_5b, rX4_doers_6, rX4_doers_9, rX4_doers_12, rX4_doers_12b, rX4_doers_13, rX4_doers_16, rX4_doers_17, rX4_doers_18, rX4_doers_21, rX4_doers_24, rX4_doers_30, rX4_doers_31, kS0 hs, kS1 hs, kT1 hs, fS1 hs F, kS2 hs, kT2 hs, fS2 hs F, kS3 hs, kT3 hs, fS3 hs F, kS4 hs, kT4 hs, fS4 hs F, kS5 hs, kT5 hs, fS5 hs F, kS6 hs, kT6 hs, fS6 hs F, kS7 hs, kT7 hs, fS7 hs F, kS8 hs, kT8 hs, fS8 hs F, kS9 hs, kT9 hs, fS9 hs F, kS10 hs, kT10 hs, fS10 hs F, kS11 hs, kT11 hs, fS11 hs F, nS hs, nSs hs, pCX4_doers, pSX4_doers, pOX4_doers, pLX4_doers, w3.2.1, Int32.le_refl, kl_I, kl_J, kl_R, kl_T, kl_N, Nat.le_refl, Nat.zero_le, List.map_nil, List.map_cons, List.sum_nil, List.sum_cons, c_I, c_J, c_R, c_T, va_rf, hI_wI, hJ_wJ, hR_wR, hI_J, hI_R, hJ_I, hJ_R, hR_I, hR_J, hN_I, hN_J, hN_R, wI_I, wJ_J, upd_at, updL_at, kR_s, Option.toList, List.append_nil, List.nil_append, List.cons_append, if_true, if_false, reduceIte, Bool.false_eq_true, not_true_eq_false, not_false_eq_true, true_and, Nat.reduceEqDiff, Nat.reduceAdd, Nat.reduceLeDiff]
  | succ k ih =>
    intro i hi Q
    have hlt : i < aN a := by omega
    have g1 : ¬ nI (aN a) ≤ nI i := nI_ge hlt (by omega)
    have v6 : vp_in (nI i) 6 := nI_vp (by omega) (by decide)
    have cl : (nI i).toNatClampNeg = i := nI_cl (by omega)
    have e4 := (w4 i hlt).2.2.2
    have k4 := (ww.2.2.1 i hlt).2.2.2
    have i1 := ih (i + 1) (by omega) Q
    rw [doN] at i1
    by_cases c2 : aDo a i = 0
    · simp (implicitDefEqProofs := false) only [rX4_doers_0, rX4_doers_1, rX4_doers_2, rX4_doers_3, rX4_doers_4, rX4_doers_5, rX4_doers_5b, rX4_doers_6, rX4_doers_9, rX4_doers_12, rX4_doers_12b, rX4_doers_13, rX4_doers_16, rX4_doers_17, rX4_doers_18, rX4_doers_21, rX4_doers_24, rX4_doers_30, rX4_doers_31, kS0 hs, kS1 hs, kT1 hs, fS1 hs F, kS2 hs, kT2 hs, fS2 hs F, kS3 hs, kT3 hs, fS3 hs F, kS4 hs, kT4 hs, fS4 hs F, kS5 hs, kT5 hs, fS5 hs F, kS6 hs, kT6 hs, fS6 hs F, kS7 hs, kT7 hs, fS7 hs F, kS8 hs, kT8 hs, fS8 hs F, kS9 hs, kT9 hs, fS9 hs F, kS10 hs, kT10 hs, fS10 hs F, kS11 hs, kT11 hs, fS11 hs F, nS hs, nSs hs, pCX4_doers, pSX4_doers, pOX4_doers, pLX4_doers, w3.2.1, g1, v6, cl, e4, c2, show nI 0 = 0 from rfl, kl_I, kl_J, kl_R, kl_T, kl_N, Nat.le_refl, Nat.zero_le, List.map_nil, List.map_cons, List.sum_nil, List.sum_cons, c_I, c_J, c_R, c_T, va_rf, hI_wI, hJ_wJ, hR_wR, hI_J, hI_R, hJ_I, hJ_R, hR_I, hR_J, hN_I, hN_J, hN_R, wI_I, wJ_J, upd_at, updL_at, kR_s, Option.toList, List.append_nil, List.nil_append, List.cons_append, if_true, if_false, reduceIte, Bool.false_eq_true, not_true_eq_false, not_false_eq_true, true_and, Nat.reduceEqDiff, Nat.reduceAdd, Nat.reduceLeDiff]
      rw [rX4_doers_27, nI_1]
      simpa [c2] using i1
    · simp (implicitDefEqProofs := false) only [rX4_doers_0, rX4_doers_1, rX4_doers_2, rX4_doers_3, rX4_doers_4, rX4_doers_5, rX4_doers_5b, rX4_doers_6, rX4_doers_9, rX4_doers_12, rX4_doers_12b, rX4_doers_13, rX4_doers_16, rX4_doers_17, rX4_doers_18, rX4_doers_21, rX4_doers_24, rX4_doers_30, rX4_doers_31, kS0 hs, kS1 hs, kT1 hs, fS1 hs F, kS2 hs, kT2 hs, fS2 hs F, kS3 hs, kT3 hs, fS3 hs F, kS4 hs, kT4 hs, fS4 hs F, kS5 hs, kT5 hs, fS5 hs F, kS6 hs, kT6 hs, fS6 hs F, kS7 hs, kT7 hs, fS7 hs F, kS8 hs, kT8 hs, fS8 hs F, kS9 hs, kT9 hs, fS9 hs F, kS10 hs, kT10 hs, fS10 hs F, kS11 hs, kT11 hs, fS11 hs F, nS hs, nSs hs, pCX4_doers, pSX4_doers, pOX4_doers, pLX4_doers, w3.2.1, g1, v6, cl, e4, nq (x := aDo a i) (k := 0) (c := 0) rfl (by omega) (by omega), c2, kl_I, kl_J, kl_R, kl_T, kl_N, Nat.le_refl, Nat.zero_le, List.map_nil, List.map_cons, List.sum_nil, List.sum_cons, c_I, c_J, c_R, c_T, va_rf, hI_wI, hJ_wJ, hR_wR, hI_J, hI_R, hJ_I, hJ_R, hR_I, hR_J, hN_I, hN_J, hN_R, wI_I, wJ_J, upd_at, updL_at, kR_s, Option.toList, List.append_nil, List.nil_append, List.cons_append, if_true, if_false, reduceIte, Bool.false_eq_true, not_true_eq_false, not_false_eq_true, true_and, Nat.reduceEqDiff, Nat.reduceAdd, Nat.reduceLeDiff]
      rw [rX4_doers_27, nI_1, nI_1]
      simpa [c2] using i1
theorem c_doers {d : Nat} {h : qH} {s : Nat} {a : aS} (F : Fin0 (hR h)) (w : cS h s a) : ∀ Q, WM d mX4_doers [.ref s] h Q = Q (some (some (.int (nI (doN a (aN a)))))) h := by
  intro Q
  simp (implicitDefEqProofs := false) only [eX4_doers, rX4_doers_0, rX4_doers_1, rX4_doers_2, rX4_doers_3, kl_I, kl_J, kl_R, kl_T, kl_N, Nat.le_refl, Nat.zero_le, List.map_nil, List.map_cons, List.sum_nil, List.sum_cons, c_I, c_J, c_R, c_T, va_rf, hI_wI, hJ_wJ, hR_wR, hI_J, hI_R, hJ_I, hJ_R, hR_I, hR_J, hN_I, hN_J, hN_R, wI_I, wJ_J, upd_at, updL_at, kR_s, Option.toList, List.append_nil, List.nil_append, List.cons_append, if_true, if_false, reduceIte, Bool.false_eq_true, not_true_eq_false, not_false_eq_true, true_and, Nat.reduceEqDiff, Nat.reduceAdd, Nat.reduceLeDiff]
  exact l_doers F w (aN a) 0 (by omega) Q
