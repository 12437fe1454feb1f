/-! ===== cells: reading what was written ===== -/
theorem WM_eq {d : Nat} {N : qM} {As : List Value} {h h' : qH} {r : Option (Option Value)} (w : WM d N As h (fun r1 h1 => r1 = r ∧ h1 = h')) : ∀ Q, WM d N As h Q = Q r h' := by
  intro Q
  obtain ⟨n, r1, h1, e, rfl, rfl⟩ := w
  apply propext
  constructor
  · rintro ⟨n2, r2, h2, e2, q⟩
    have e3 := run_le (Nat.le_max_left n n2) e
    have e4 := run_le (Nat.le_max_right n n2) e2
    rw [e3] at e4
    cases e4
    exact q
  · intro q
    exact ⟨n, r1, h1, e, q⟩
theorem hI_J {h : qH} {a : Nat} {f : Nat → Int64} : hI (wJ h a f) = hI h := rfl
theorem hI_R {h : qH} {a : Nat} {f : Nat → Option Nat} : hI (wR h a f) = hI h := rfl
theorem hJ_I {h : qH} {a : Nat} {f : Nat → Int32} : hJ (wI h a f) = hJ h := rfl
theorem hJ_R {h : qH} {a : Nat} {f : Nat → Option Nat} : hJ (wR h a f) = hJ h := rfl
theorem hR_I {h : qH} {a : Nat} {f : Nat → Int32} : hR (wI h a f) = hR h := rfl
theorem hR_J {h : qH} {a : Nat} {f : Nat → Int64} : hR (wJ h a f) = hR h := rfl
theorem hN_I {h : qH} {a : Nat} {f : Nat → Int32} : hN (wI h a f) = hN h := rfl
theorem hN_J {h : qH} {a : Nat} {f : Nat → Int64} : hN (wJ h a f) = hN h := rfl
theorem hN_R {h : qH} {a : Nat} {f : Nat → Option Nat} : hN (wR h a f) = hN h := rfl
theorem wI_I {h : qH} {a : Nat} {f g : Nat → Int32} : wI (wI h a f) a g = wI h a g := by
  simp only [wI, bx_uu]
theorem wJ_J {h : qH} {a : Nat} {f g : Nat → Int64} : wJ (wJ h a f) a g = wJ h a g := by
  simp only [wJ, bx_uu]
theorem wI_same {h : qH} {a : Nat} : wI h a (hI h a) = h := by
  have : va_up h.1 a (hI h a) = h.1 := by
    funext j
    simp only [va_up, hI]
    split
    · rename_i q; rw [q]
    · rfl
  simp only [wI, this]
theorem wI_eq {h : qH} {a : Nat} {f : Nat → Int32} (e : f = hI h a) : wI h a f = h := by rw [e, wI_same]
theorem wI_com {h : qH} {a b : Nat} {f g : Nat → Int32} (hab : a ≠ b) : wI (wI h a f) b g = wI (wI h b g) a f := by
  have : va_up (va_up h.1 a f) b g = va_up (va_up h.1 b g) a f := by
    funext j
    simp only [va_up]
    by_cases h1 : j = b
    · by_cases h2 : j = a
      · exact absurd (h2.symm.trans h1) hab
      · simp [h1, h2, Ne.symm hab]
    · by_cases h2 : j = a
      · simp [h1, h2, hab]
      · simp [h1, h2]
  simp only [wI, this]
theorem upd_at {f : Nat → Int32} {k j : Nat} {x : Int32} : upd f k x j = if j = k then x else f j := rfl
theorem updL_at {f : Nat → Int64} {k j : Nat} {x : Int64} : vp_updL f k x j = if j = k then x else f j := rfl
theorem upd_upd {f : Nat → Int32} {k : Nat} {x y : Int32} : upd (upd f k x) k y = upd f k y := by
  funext j
  simp only [upd_at]
  split <;> rfl
/-! ===== bits ===== -/
theorem sm_n : ∀ n, n < 32 → ((nI n &&& 31).toBitVec.smod 32).toNat = n := by decide +kernel
theorem bt_and1 {n : Nat} (h : n < 2 ^ 32) : nI n &&& 1 = nI (n % 2) := pk_andN h 1 (by decide)
theorem bt_t {t j : Nat} (ht : t < 2 ^ 31) (hj : j < 31) : (nI t >>> (nI j &&& 31)) &&& 1 = if t.testBit j = true then 1 else 0 := by
  rw [pk_shrN ht _ j (sm_n j (by omega)), bt_and1 (by have := Nat.div_le_self t (2 ^ j); omega), Nat.testBit_eq_decide_div_mod_eq]
  by_cases q : t / 2 ^ j % 2 = 1
  · simp [q]; rfl
  · have : t / 2 ^ j % 2 = 0 := by omega
    simp [this]; rfl
theorem bt_shl {j : Nat} (hj : j < 31) : (1 : Int32) <<< (nI j &&& 31) = nI (2 ^ j) := by
  have h1 : (1 : Int32) = nI 1 := rfl
  have h2 : 2 ^ j < 2 ^ 32 := Nat.pow_lt_pow_right (by omega) (by omega)
  rw [h1, pk_shlN _ j (sm_n j (by omega)) (by omega), Nat.one_mul]
theorem bt_or (a b : Nat) : nI a ||| nI b = nI (a ||| b) := by
  apply Int32.toBitVec_inj.mp
  simp [nI, BitVec.ofNat_or]
theorem bt_and (a b : Nat) : nI a &&& nI b = nI (a &&& b) := by
  apply Int32.toBitVec_inj.mp
  simp [nI, BitVec.ofNat_and]
theorem bt_xor (a b : Nat) : nI a ^^^ nI b = nI (a ^^^ b) := by
  apply Int32.toBitVec_inj.mp
  simp [nI, BitVec.ofNat_xor]
theorem nI_vp {i n : Nat} (h : i < n) (hn : n < 2 ^ 31) : vp_in (nI i) n := vp_in_nI h hn
theorem nI_cl {n : Nat} (h : n < 2 ^ 31) : (nI n).toNatClampNeg = n := nI_clamp h
theorem nI_mul (a b : Nat) : nI a * nI b = nI (a * b) := pk_mul a b
theorem nit1 : (1 : Int32) = nI 1 := rfl
theorem nit0 : (0 : Int32) = nI 0 := rfl
theorem nit6 : (6 : Int32) = nI 6 := rfl
