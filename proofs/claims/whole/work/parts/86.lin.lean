/-! ===== what is made at the law's begin ===== -/
def lkR : List (Nat × Nat × Nat) → Nat → Nat → Option Nat
  | [], _, _ => none
  | e :: l, a, f => if a = e.1 ∧ f = e.2.1 then some e.2.2 else lkR l a f
def lkI : List (Nat × Nat × Int32) → Nat → Nat → Int32
  | [], _, _ => 0
  | e :: l, a, f => if a = e.1 ∧ f = e.2.1 then e.2.2 else lkI l a f
theorem lkR_n {k : Nat} : ∀ {l : List (Nat × Nat × Nat)} {a f : Nat}, (∀ e ∈ l, e.1 < k) → k ≤ a → lkR l a f = none
  | [], _, _, _, _ => rfl
  | e :: l, a, f, h, ha => by
    have h1 := h e (.head _)
    rw [lkR, if_neg (by omega)]
    exact lkR_n (fun x hx => h x (.tail _ hx)) ha
theorem lkI_n {k : Nat} : ∀ {l : List (Nat × Nat × Int32)} {a f : Nat}, (∀ e ∈ l, e.1 < k) → k ≤ a → lkI l a f = 0
  | [], _, _, _, _ => rfl
  | e :: l, a, f, h, ha => by
    have h1 := h e (.head _)
    rw [lkI, if_neg (by omega)]
    exact lkI_n (fun x hx => h x (.tail _ hx)) ha
def FR (g : qH) (k : Nat) (rs : List (Nat × Nat × Nat)) (is : List (Nat × Nat × Int32)) (h : qH) : Prop := hN h = k ∧ (∀ b, k ≤ b → hI h b = hI g b) ∧ (∀ b f, b < k → hR h b f = lkR rs b f) ∧ (∀ b f, b < k → hI h b f = lkI is b f) ∧ (∀ e ∈ rs, e.1 < k) ∧ ∀ e ∈ is, e.1 < k
theorem FR_N {g h : qH} {k : Nat} {rs : List (Nat × Nat × Nat)} {is : List (Nat × Nat × Int32)} (f : FR g k rs is h) : FR g (k + 1) rs is (wN h) := by
  obtain ⟨f1, f2, f3, f4, f5, f6⟩ := f
  refine ⟨by rw [hN_w9, f1], fun b hb => ?_, fun b i hb => ?_, fun b i hb => ?_, fun e he => Nat.lt_succ_of_lt (f5 e he), fun e he => Nat.lt_succ_of_lt (f6 e he)⟩
  · rw [hI_w9, if_neg (by omega)]; exact f2 b (by omega)
  · rw [hR_w9]
    by_cases c : b = hN h
    · rw [if_pos c, lkR_n f5 (by omega)]
    · rw [if_neg c]; exact f3 b i (by omega)
  · rw [hI_w9]
    by_cases c : b = hN h
    · rw [if_pos c, lkI_n f6 (by omega)]
    · rw [if_neg c]; exact f4 b i (by omega)
theorem FR_R {g h : qH} {k a i v : Nat} {rs : List (Nat × Nat × Nat)} {is : List (Nat × Nat × Int32)} (f : FR g k rs is h) (ha : a < k) : FR g k ((a, i, v) :: rs) is (wR h a (va_up (hR h a) i (some v))) := by
  obtain ⟨f1, f2, f3, f4, f5, f6⟩ := f
  refine ⟨f1, fun b hb => f2 b hb, fun b x hb => ?_, fun b x hb => f4 b x hb, fun e he => ?_, f6⟩
  · rw [hR_wR, lkR]
    by_cases c : b = a
    · rw [if_pos c, vup_at]
      by_cases c2 : x = i
      · rw [if_pos c2, if_pos ⟨c, c2⟩]
      · rw [if_neg c2, if_neg (fun q => c2 q.2), ← c]; exact f3 b x hb
    · rw [if_neg c, if_neg (fun q => c q.1)]; exact f3 b x hb
  · cases he with
    | head => exact ha
    | tail _ he => exact f5 e he
theorem FR_I {g h : qH} {k a i : Nat} {v : Int32} {rs : List (Nat × Nat × Nat)} {is : List (Nat × Nat × Int32)} (f : FR g k rs is h) (ha : a < k) : FR g k rs ((a, i, v) :: is) (wI h a (upd (hI h a) i v)) := by
  obtain ⟨f1, f2, f3, f4, f5, f6⟩ := f
  refine ⟨f1, fun b hb => ?_, fun b x hb => f3 b x hb, fun b x hb => ?_, f5, fun e he => ?_⟩
  · rw [hI_wI, if_neg (by omega)]; exact f2 b hb
  · rw [hI_wI, lkI]
    by_cases c : b = a
    · rw [if_pos c, upd_at]
      by_cases c2 : x = i
      · rw [if_pos c2, if_pos ⟨c, c2⟩]
      · rw [if_neg c2, if_neg (fun q => c2 q.2), ← c]; exact f4 b x hb
    · rw [if_neg c, if_neg (fun q => c q.1)]; exact f4 b x hb
  · cases he with
    | head => exact ha
    | tail _ he => exact f6 e he
theorem FR_A {g h : qH} {k a i : Nat} {rs : List (Nat × Nat × Nat)} {is : List (Nat × Nat × Int32)} (f : FR g k rs is h) (ha : a < k) : FR g (k + 1) ((a, i, k) :: rs) is (nwR h a i) := by
  have := FR_R (i := i) (v := k) (FR_N f) (Nat.lt_succ_of_lt ha)
  unfold nwR
  rw [f.1]
  exact this
theorem l_inX4_1_0 {d : Nat} {H : qH} (e : hN H = 2) {Q : Option (Option Value) → qH → Prop} : WP d mX4_init (0, 0) 4 [some (.ref (1 : Nat))] [] H Q = WP d mX4_init (1, 6) 12 [some (.ref (1 : Nat))] [] (nwR H 1 2) Q := by
  have c1 : ∀ t, akd t = some 11 → akd t = some (kd (hN H)).1 ∧ ¬ (6 : Int32) < 0 ∧ (6 : Int32).toNatClampNeg = (kd (hN H)).2 ∧ (kd (hN H)).2 ≤ 60000 := fun t ht => by rw [e, kA_2, kB_2]; exact ⟨ht, by decide, by decide, by decide⟩
  have c2 := c1 .int rfl
  have c3 : (kd (hN H)).2 = 6 := by rw [e]; exact kB_2
  have c4 : (kd (hN H)).1 = 11 := by rw [e]; exact kA_2
  simp (implicitDefEqProofs := false) only [rX4_init_4, rX4_init_4b, rX4_init_5, rX4_init_7, rX4_init_9, kA_1, kB_1, c2, c3, c4, nwR, pCX4_init, pSX4_init, pOX4_init, pLX4_init, kl_I, kl_J, kl_R, kl_T, kl_N, Nat.le_refl, Nat.zero_le, List.map_nil, List.map_cons, List.sum_nil, List.sum_cons, c_I, c_J, c_R, c_T, va_rf, hI_wI, hJ_wJ, hR_wR, hI_J, hI_R, hJ_I, hJ_R, hR_I, hR_J, hN_I, hN_J, hN_R, wI_I, wJ_J, upd_at, updL_at, kR_s, Option.toList, List.append_nil, List.nil_append, List.cons_append, if_true, if_false, reduceIte, Bool.false_eq_true, not_true_eq_false, not_false_eq_true, true_and, and_true, false_and, and_false, true_or, or_true,  Nat.reduceEqDiff, Nat.reduceAdd, Nat.reduceLeDiff]
theorem l_inX4_1_1 {d : Nat} {H : qH} (e : hN H = 3) {Q : Option (Option Value) → qH → Prop} : WP d mX4_init (1, 6) 12 [some (.ref (1 : Nat))] [] H Q = WP d mX4_init (2, 12) 20 [some (.ref (1 : Nat))] [] (nwR H 1 3) Q := by
  have c1 : ∀ t, akd t = some 11 → akd t = some (kd (hN H)).1 ∧ ¬ (6 : Int32) < 0 ∧ (6 : Int32).toNatClampNeg = (kd (hN H)).2 ∧ (kd (hN H)).2 ≤ 60000 := fun t ht => by rw [e, kA_3, kB_3]; exact ⟨ht, by decide, by decide, by decide⟩
  have c2 := c1 .int rfl
  have c3 : (kd (hN H)).2 = 6 := by rw [e]; exact kB_3
  have c4 : (kd (hN H)).1 = 11 := by rw [e]; exact kA_3
  simp (implicitDefEqProofs := false) only [rX4_init_12, rX4_init_12b, rX4_init_13, rX4_init_15, rX4_init_17, kA_1, kB_1, c2, c3, c4, nwR, pCX4_init, pSX4_init, pOX4_init, pLX4_init, kl_I, kl_J, kl_R, kl_T, kl_N, Nat.le_refl, Nat.zero_le, List.map_nil, List.map_cons, List.sum_nil, List.sum_cons, c_I, c_J, c_R, c_T, va_rf, hI_wI, hJ_wJ, hR_wR, hI_J, hI_R, hJ_I, hJ_R, hR_I, hR_J, hN_I, hN_J, hN_R, wI_I, wJ_J, upd_at, updL_at, kR_s, Option.toList, List.append_nil, List.nil_append, List.cons_append, if_true, if_false, reduceIte, Bool.false_eq_true, not_true_eq_false, not_false_eq_true, true_and, and_true, false_and, and_false, true_or, or_true,  Nat.reduceEqDiff, Nat.reduceAdd, Nat.reduceLeDiff]
theorem l_inX4_1_2 {d : Nat} {H : qH} (e : hN H = 4) {Q : Option (Option Value) → qH → Prop} : WP d mX4_init (2, 12) 20 [some (.ref (1 : Nat))] [] H Q = WP d mX4_init (3, 18) 28 [some (.ref (1 : Nat))] [] (nwR H 1 4) Q := by
  have c1 : ∀ t, akd t = some 11 → akd t = some (kd (hN H)).1 ∧ ¬ (6 : Int32) < 0 ∧ (6 : Int32).toNatClampNeg = (kd (hN H)).2 ∧ (kd (hN H)).2 ≤ 60000 := fun t ht => by rw [e, kA_4, kB_4]; exact ⟨ht, by decide, by decide, by decide⟩
  have c2 := c1 .int rfl
  have c3 : (kd (hN H)).2 = 6 := by rw [e]; exact kB_4
  have c4 : (kd (hN H)).1 = 11 := by rw [e]; exact kA_4
  simp (implicitDefEqProofs := false) only [rX4_init_20, rX4_init_20b, rX4_init_21, rX4_init_23, rX4_init_25, kA_1, kB_1, c2, c3, c4, nwR, pCX4_init, pSX4_init, pOX4_init, pLX4_init, kl_I, kl_J, kl_R, kl_T, kl_N, Nat.le_refl, Nat.zero_le, List.map_nil, List.map_cons, List.sum_nil, List.sum_cons, c_I, c_J, c_R, c_T, va_rf, hI_wI, hJ_wJ, hR_wR, hI_J, hI_R, hJ_I, hJ_R, hR_I, hR_J, hN_I, hN_J, hN_R, wI_I, wJ_J, upd_at, updL_at, kR_s, Option.toList, List.append_nil, List.nil_append, List.cons_append, if_true, if_false, reduceIte, Bool.false_eq_true, not_true_eq_false, not_false_eq_true, true_and, and_true, false_and, and_false, true_or, or_true,  Nat.reduceEqDiff, Nat.reduceAdd, Nat.reduceLeDiff]
theorem l_inX4_1_3 {d : Nat} {H : qH} (e : hN H = 5) {Q : Option (Option Value) → qH → Prop} : WP d mX4_init (3, 18) 28 [some (.ref (1 : Nat))] [] H Q = WP d mX4_init (4, 24) 36 [some (.ref (1 : Nat))] [] (nwR H 1 5) Q := by
  have c1 : ∀ t, akd t = some 11 → akd t = some (kd (hN H)).1 ∧ ¬ (6 : Int32) < 0 ∧ (6 : Int32).toNatClampNeg = (kd (hN H)).2 ∧ (kd (hN H)).2 ≤ 60000 := fun t ht => by rw [e, kA_5, kB_5]; exact ⟨ht, by decide, by decide, by decide⟩
  have c2 := c1 .int rfl
  have c3 : (kd (hN H)).2 = 6 := by rw [e]; exact kB_5
  have c4 : (kd (hN H)).1 = 11 := by rw [e]; exact kA_5
  simp (implicitDefEqProofs := false) only [rX4_init_28, rX4_init_28b, rX4_init_29, rX4_init_31, rX4_init_33, kA_1, kB_1, c2, c3, c4, nwR, pCX4_init, pSX4_init, pOX4_init, pLX4_init, kl_I, kl_J, kl_R, kl_T, kl_N, Nat.le_refl, Nat.zero_le, List.map_nil, List.map_cons, List.sum_nil, List.sum_cons, c_I, c_J, c_R, c_T, va_rf, hI_wI, hJ_wJ, hR_wR, hI_J, hI_R, hJ_I, hJ_R, hR_I, hR_J, hN_I, hN_J, hN_R, wI_I, wJ_J, upd_at, updL_at, kR_s, Option.toList, List.append_nil, List.nil_append, List.cons_append, if_true, if_false, reduceIte, Bool.false_eq_true, not_true_eq_false, not_false_eq_true, true_and, and_true, false_and, and_false, true_or, or_true,  Nat.reduceEqDiff, Nat.reduceAdd, Nat.reduceLeDiff]
theorem l_inX4_1_4 {d : Nat} {H : qH} (e : hN H = 6) {Q : Option (Option Value) → qH → Prop} : WP d mX4_init (4, 24) 36 [some (.ref (1 : Nat))] [] H Q = WP d mX4_init (5, 33) 44 [some (.ref (1 : Nat))] [] (nwR H 1 8) Q := by
  have c1 : ∀ t, akd t = some 11 → akd t = some (kd (hN H)).1 ∧ ¬ (9 : Int32) < 0 ∧ (9 : Int32).toNatClampNeg = (kd (hN H)).2 ∧ (kd (hN H)).2 ≤ 60000 := fun t ht => by rw [e, kA_6, kB_6]; exact ⟨ht, by decide, by decide, by decide⟩
  have c2 := c1 .int rfl
  have c3 : (kd (hN H)).2 = 9 := by rw [e]; exact kB_6
  have c4 : (kd (hN H)).1 = 11 := by rw [e]; exact kA_6
  simp (implicitDefEqProofs := false) only [rX4_init_36, rX4_init_36b, rX4_init_37, rX4_init_39, rX4_init_41, kA_1, kB_1, c2, c3, c4, nwR, pCX4_init, pSX4_init, pOX4_init, pLX4_init, kl_I, kl_J, kl_R, kl_T, kl_N, Nat.le_refl, Nat.zero_le, List.map_nil, List.map_cons, List.sum_nil, List.sum_cons, c_I, c_J, c_R, c_T, va_rf, hI_wI, hJ_wJ, hR_wR, hI_J, hI_R, hJ_I, hJ_R, hR_I, hR_J, hN_I, hN_J, hN_R, wI_I, wJ_J, upd_at, updL_at, kR_s, Option.toList, List.append_nil, List.nil_append, List.cons_append, if_true, if_false, reduceIte, Bool.false_eq_true, not_true_eq_false, not_false_eq_true, true_and, and_true, false_and, and_false, true_or, or_true,  Nat.reduceEqDiff, Nat.reduceAdd, Nat.reduceLeDiff]
theorem l_inX4_1_5 {d : Nat} {H : qH} (e : hN H = 7) {Q : Option (Option Value) → qH → Prop} : WP d mX4_init (5, 33) 44 [some (.ref (1 : Nat))] [] H Q = WP d mX4_init (6, 42) 52 [some (.ref (1 : Nat))] [] (nwR H 1 9) Q := by
  have c1 : ∀ t, akd t = some 11 → akd t = some (kd (hN H)).1 ∧ ¬ (9 : Int32) < 0 ∧ (9 : Int32).toNatClampNeg = (kd (hN H)).2 ∧ (kd (hN H)).2 ≤ 60000 := fun t ht => by rw [e, kA_7, kB_7]; exact ⟨ht, by decide, by decide, by decide⟩
  have c2 := c1 .int rfl
  have c3 : (kd (hN H)).2 = 9 := by rw [e]; exact kB_7
  have c4 : (kd (hN H)).1 = 11 := by rw [e]; exact kA_7
  simp (implicitDefEqProofs := false) only [rX4_init_44, rX4_init_44b, rX4_init_45, rX4_init_47, rX4_init_49, kA_1, kB_1, c2, c3, c4, nwR, pCX4_init, pSX4_init, pOX4_init, pLX4_init, kl_I, kl_J, kl_R, kl_T, kl_N, Nat.le_refl, Nat.zero_le, List.map_nil, List.map_cons, List.sum_nil, List.sum_cons, c_I, c_J, c_R, c_T, va_rf, hI_wI, hJ_wJ, hR_wR, hI_J, hI_R, hJ_I, hJ_R, hR_I, hR_J, hN_I, hN_J, hN_R, wI_I, wJ_J, upd_at, updL_at, kR_s, Option.toList, List.append_nil, List.nil_append, List.cons_append, if_true, if_false, reduceIte, Bool.false_eq_true, not_true_eq_false, not_false_eq_true, true_and, and_true, false_and, and_false, true_or, or_true,  Nat.reduceEqDiff, Nat.reduceAdd, Nat.reduceLeDiff]
theorem l_inX4_1_6 {d : Nat} {H : qH} (e : hN H = 8) {Q : Option (Option Value) → qH → Prop} : WP d mX4_init (6, 42) 52 [some (.ref (1 : Nat))] [] H Q = WP d mX4_init (7, 51) 60 [some (.ref (1 : Nat))] [] (nwR H 1 10) Q := by
  have c1 : ∀ t, akd t = some 11 → akd t = some (kd (hN H)).1 ∧ ¬ (9 : Int32) < 0 ∧ (9 : Int32).toNatClampNeg = (kd (hN H)).2 ∧ (kd (hN H)).2 ≤ 60000 := fun t ht => by rw [e, kA_8, kB_8]; exact ⟨ht, by decide, by decide, by decide⟩
  have c2 := c1 .int rfl
  have c3 : (kd (hN H)).2 = 9 := by rw [e]; exact kB_8
  have c4 : (kd (hN H)).1 = 11 := by rw [e]; exact kA_8
  simp (implicitDefEqProofs := false) only [rX4_init_52, rX4_init_52b, rX4_init_53, rX4_init_55, rX4_init_57, kA_1, kB_1, c2, c3, c4, nwR, pCX4_init, pSX4_init, pOX4_init, pLX4_init, kl_I, kl_J, kl_R, kl_T, kl_N, Nat.le_refl, Nat.zero_le, List.map_nil, List.map_cons, List.sum_nil, List.sum_cons, c_I, c_J, c_R, c_T, va_rf, hI_wI, hJ_wJ, hR_wR, hI_J, hI_R, hJ_I, hJ_R, hR_I, hR_J, hN_I, hN_J, hN_R, wI_I, wJ_J, upd_at, updL_at, kR_s, Option.toList, List.append_nil, List.nil_append, List.cons_append, if_true, if_false, reduceIte, Bool.false_eq_true, not_true_eq_false, not_false_eq_true, true_and, and_true, false_and, and_false, true_or, or_true,  Nat.reduceEqDiff, Nat.reduceAdd, Nat.reduceLeDiff]
theorem l_inX4_1_7 {d : Nat} {H : qH} (e : hN H = 9) {Q : Option (Option Value) → qH → Prop} : WP d mX4_init (7, 51) 60 [some (.ref (1 : Nat))] [] H Q = WP d mX4_init (8, 55) 67 [some (.ref (1 : Nat))] [] (nwR H 1 12) Q := by
  have c1 : ∀ t, akd t = some 11 → akd t = some (kd (hN H)).1 ∧ ¬ (4 : Int32) < 0 ∧ (4 : Int32).toNatClampNeg = (kd (hN H)).2 ∧ (kd (hN H)).2 ≤ 60000 := fun t ht => by rw [e, kA_9, kB_9]; exact ⟨ht, by decide, by decide, by decide⟩
  have c2 := c1 .int rfl
  have c3 : (kd (hN H)).2 = 4 := by rw [e]; exact kB_9
  have c4 : (kd (hN H)).1 = 11 := by rw [e]; exact kA_9
  simp (implicitDefEqProofs := false) only [rX4_init_60, rX4_init_60b, rX4_init_61, rX4_init_62, rX4_init_64, kA_1, kB_1, c2, c3, c4, nwR, pCX4_init, pSX4_init, pOX4_init, pLX4_init, kl_I, kl_J, kl_R, kl_T, kl_N, Nat.le_refl, Nat.zero_le, List.map_nil, List.map_cons, List.sum_nil, List.sum_cons, c_I, c_J, c_R, c_T, va_rf, hI_wI, hJ_wJ, hR_wR, hI_J, hI_R, hJ_I, hJ_R, hR_I, hR_J, hN_I, hN_J, hN_R, wI_I, wJ_J, upd_at, updL_at, kR_s, Option.toList, List.append_nil, List.nil_append, List.cons_append, if_true, if_false, reduceIte, Bool.false_eq_true, not_true_eq_false, not_false_eq_true, true_and, and_true, false_and, and_false, true_or, or_true,  Nat.reduceEqDiff, Nat.reduceAdd, Nat.reduceLeDiff]
theorem l_inX4_1_8 {d : Nat} {H : qH} (e : hN H = 10) {Q : Option (Option Value) → qH → Prop} : WP d mX4_init (8, 55) 67 [some (.ref (1 : Nat))] [] H Q = WP d mX4_init (9, 57) 74 [some (.ref (1 : Nat))] [] (nwR H 1 14) Q := by
  have c1 : ∀ t, akd t = some 11 → akd t = some (kd (hN H)).1 ∧ ¬ (2 : Int32) < 0 ∧ (2 : Int32).toNatClampNeg = (kd (hN H)).2 ∧ (kd (hN H)).2 ≤ 60000 := fun t ht => by rw [e, kA_10, kB_10]; exact ⟨ht, by decide, by decide, by decide⟩
  have c2 := c1 .int rfl
  have c3 : (kd (hN H)).2 = 2 := by rw [e]; exact kB_10
  have c4 : (kd (hN H)).1 = 11 := by rw [e]; exact kA_10
  simp (implicitDefEqProofs := false) only [rX4_init_67, rX4_init_67b, rX4_init_68, rX4_init_69, rX4_init_71, kA_1, kB_1, c2, c3, c4, nwR, pCX4_init, pSX4_init, pOX4_init, pLX4_init, kl_I, kl_J, kl_R, kl_T, kl_N, Nat.le_refl, Nat.zero_le, List.map_nil, List.map_cons, List.sum_nil, List.sum_cons, c_I, c_J, c_R, c_T, va_rf, hI_wI, hJ_wJ, hR_wR, hI_J, hI_R, hJ_I, hJ_R, hR_I, hR_J, hN_I, hN_J, hN_R, wI_I, wJ_J, upd_at, updL_at, kR_s, Option.toList, List.append_nil, List.nil_append, List.cons_append, if_true, if_false, reduceIte, Bool.false_eq_true, not_true_eq_false, not_false_eq_true, true_and, and_true, false_and, and_false, true_or, or_true,  Nat.reduceEqDiff, Nat.reduceAdd, Nat.reduceLeDiff]
theorem l_inX4_1_9 {d : Nat} {H : qH} (e : hN H = 11) {Q : Option (Option Value) → qH → Prop} : WP d mX4_init (9, 57) 74 [some (.ref (1 : Nat))] [] H Q = WP d mX4_init (10, 61) 81 [some (.ref (1 : Nat))] [] (nwR H 1 16) Q := by
  have c1 : ∀ t, akd t = some 11 → akd t = some (kd (hN H)).1 ∧ ¬ (4 : Int32) < 0 ∧ (4 : Int32).toNatClampNeg = (kd (hN H)).2 ∧ (kd (hN H)).2 ≤ 60000 := fun t ht => by rw [e, kA_11, kB_11]; exact ⟨ht, by decide, by decide, by decide⟩
  have c2 := c1 .int rfl
  have c3 : (kd (hN H)).2 = 4 := by rw [e]; exact kB_11
  have c4 : (kd (hN H)).1 = 11 := by rw [e]; exact kA_11
  simp (implicitDefEqProofs := false) only [rX4_init_74, rX4_init_74b, rX4_init_75, rX4_init_76, rX4_init_78, kA_1, kB_1, c2, c3, c4, nwR, pCX4_init, pSX4_init, pOX4_init, pLX4_init, kl_I, kl_J, kl_R, kl_T, kl_N, Nat.le_refl, Nat.zero_le, List.map_nil, List.map_cons, List.sum_nil, List.sum_cons, c_I, c_J, c_R, c_T, va_rf, hI_wI, hJ_wJ, hR_wR, hI_J, hI_R, hJ_I, hJ_R, hR_I, hR_J, hN_I, hN_J, hN_R, wI_I, wJ_J, upd_at, updL_at, kR_s, Option.toList, List.append_nil, List.nil_append, List.cons_append, if_true, if_false, reduceIte, Bool.false_eq_true, not_true_eq_false, not_false_eq_true, true_and, and_true, false_and, and_false, true_or, or_true,  Nat.reduceEqDiff, Nat.reduceAdd, Nat.reduceLeDiff]
theorem l_inX4_1_10 {d : Nat} {H : qH} (e : hN H = 12) {Q : Option (Option Value) → qH → Prop} : WP d mX4_init (10, 61) 81 [some (.ref (1 : Nat))] [] H Q = WP d mX4_init (11, 65) 88 [some (.ref (1 : Nat))] [] (nwR H 1 17) Q := by
  have c1 : ∀ t, akd t = some 11 → akd t = some (kd (hN H)).1 ∧ ¬ (4 : Int32) < 0 ∧ (4 : Int32).toNatClampNeg = (kd (hN H)).2 ∧ (kd (hN H)).2 ≤ 60000 := fun t ht => by rw [e, kA_12, kB_12]; exact ⟨ht, by decide, by decide, by decide⟩
  have c2 := c1 .int rfl
  have c3 : (kd (hN H)).2 = 4 := by rw [e]; exact kB_12
  have c4 : (kd (hN H)).1 = 11 := by rw [e]; exact kA_12
  simp (implicitDefEqProofs := false) only [rX4_init_81, rX4_init_81b, rX4_init_82, rX4_init_83, rX4_init_85, kA_1, kB_1, c2, c3, c4, nwR, pCX4_init, pSX4_init, pOX4_init, pLX4_init, kl_I, kl_J, kl_R, kl_T, kl_N, Nat.le_refl, Nat.zero_le, List.map_nil, List.map_cons, List.sum_nil, List.sum_cons, c_I, c_J, c_R, c_T, va_rf, hI_wI, hJ_wJ, hR_wR, hI_J, hI_R, hJ_I, hJ_R, hR_I, hR_J, hN_I, hN_J, hN_R, wI_I, wJ_J, upd_at, updL_at, kR_s, Option.toList, List.append_nil, List.nil_append, List.cons_append, if_true, if_false, reduceIte, Bool.false_eq_true, not_true_eq_false, not_false_eq_true, true_and, and_true, false_and, and_false, true_or, or_true,  Nat.reduceEqDiff, Nat.reduceAdd, Nat.reduceLeDiff]
theorem i_X4_1 {d : Nat} {g h : qH} {rs : List (Nat × Nat × Nat)} {is : List (Nat × Nat × Int32)} (f0 : FR g 2 rs is h) : ∃ h', (∀ Q, WM d mX4_init [.ref (1 : Nat)] h Q = Q (some none) h') ∧ FR g 13 ((1, 17, 12) :: (1, 16, 11) :: (1, 14, 10) :: (1, 12, 9) :: (1, 10, 8) :: (1, 9, 7) :: (1, 8, 6) :: (1, 5, 5) :: (1, 4, 4) :: (1, 3, 3) :: (1, 2, 2) :: rs) (is) h' := by
  have f1 := FR_A (i := 2) f0 (a := 1) (by decide)
  have f2 := FR_A (i := 3) f1 (a := 1) (by decide)
  have f3 := FR_A (i := 4) f2 (a := 1) (by decide)
  have f4 := FR_A (i := 5) f3 (a := 1) (by decide)
  have f5 := FR_A (i := 8) f4 (a := 1) (by decide)
  have f6 := FR_A (i := 9) f5 (a := 1) (by decide)
  have f7 := FR_A (i := 10) f6 (a := 1) (by decide)
  have f8 := FR_A (i := 12) f7 (a := 1) (by decide)
  have f9 := FR_A (i := 14) f8 (a := 1) (by decide)
  have f10 := FR_A (i := 16) f9 (a := 1) (by decide)
  have f11 := FR_A (i := 17) f10 (a := 1) (by decide)
  refine ⟨_, fun Q => ?_, f11⟩
  simp (implicitDefEqProofs := false) only [eX4_init, rX4_init_0, rX4_init_0b, rX4_init_1, kA_1, kB_1, pCX4_init, pSX4_init, pOX4_init, pLX4_init, kl_I, kl_J, kl_R, kl_T, kl_N, Nat.le_refl, Nat.zero_le, List.map_nil, List.map_cons, List.sum_nil, List.sum_cons, c_I, c_J, c_R, c_T, va_rf, hI_wI, hJ_wJ, hR_wR, hI_J, hI_R, hJ_I, hJ_R, hR_I, hR_J, hN_I, hN_J, hN_R, wI_I, wJ_J, upd_at, updL_at, kR_s, Option.toList, List.append_nil, List.nil_append, List.cons_append, if_true, if_false, reduceIte, Bool.false_eq_true, not_true_eq_false, not_false_eq_true, true_and, and_true, false_and, and_false, true_or, or_true,  Nat.reduceEqDiff, Nat.reduceAdd, Nat.reduceLeDiff]
  rw [l_inX4_1_0 f0.1]
  rw [l_inX4_1_1 f1.1]
  rw [l_inX4_1_2 f2.1]
  rw [l_inX4_1_3 f3.1]
  rw [l_inX4_1_4 f4.1]
  rw [l_inX4_1_5 f5.1]
  rw [l_inX4_1_6 f6.1]
  rw [l_inX4_1_7 f7.1]
  rw [l_inX4_1_8 f8.1]
  rw [l_inX4_1_9 f9.1]
  rw [l_inX4_1_10 f10.1]
  simp (implicitDefEqProofs := false) only [rX4_init_88, pCX4_init, pSX4_init, pOX4_init, pLX4_init, kl_I, kl_J, kl_R, kl_T, kl_N, Nat.le_refl, Nat.zero_le, List.map_nil, List.map_cons, List.sum_nil, List.sum_cons, c_I, c_J, c_R, c_T, va_rf, hI_wI, hJ_wJ, hR_wR, hI_J, hI_R, hJ_I, hJ_R, hR_I, hR_J, hN_I, hN_J, hN_R, wI_I, wJ_J, upd_at, updL_at, kR_s, Option.toList, List.append_nil, List.nil_append, List.cons_append, if_true, if_false, reduceIte, Bool.false_eq_true, not_true_eq_false, not_false_eq_true, true_and, and_true, false_and, and_false, true_or, or_true,  Nat.reduceEqDiff, Nat.reduceAdd, Nat.reduceLeDiff]
theorem l_inX4_13_0 {d : Nat} {H : qH} (e : hN H = 14) {Q : Option (Option Value) → qH → Prop} : WP d mX4_init (0, 0) 4 [some (.ref (13 : Nat))] [] H Q = WP d mX4_init (1, 6) 12 [some (.ref (13 : Nat))] [] (nwR H 13 2) Q := by
  have c1 : ∀ t, akd t = some 11 → akd t = some (kd (hN H)).1 ∧ ¬ (6 : Int32) < 0 ∧ (6 : Int32).toNatClampNeg = (kd (hN H)).2 ∧ (kd (hN H)).2 ≤ 60000 := fun t ht => by rw [e, kA_14, kB_14]; exact ⟨ht, by decide, by decide, by decide⟩
  have c2 := c1 .int rfl
  have c3 : (kd (hN H)).2 = 6 := by rw [e]; exact kB_14
  have c4 : (kd (hN H)).1 = 11 := by rw [e]; exact kA_14
  simp (implicitDefEqProofs := false) only [rX4_init_4, rX4_init_4b, rX4_init_5, rX4_init_7, rX4_init_9, kA_13, kB_13, c2, c3, c4, nwR, pCX4_init, pSX4_init, pOX4_init, pLX4_init, kl_I, kl_J, kl_R, kl_T, kl_N, Nat.le_refl, Nat.zero_le, List.map_nil, List.map_cons, List.sum_nil, List.sum_cons, c_I, c_J, c_R, c_T, va_rf, hI_wI, hJ_wJ, hR_wR, hI_J, hI_R, hJ_I, hJ_R, hR_I, hR_J, hN_I, hN_J, hN_R, wI_I, wJ_J, upd_at, updL_at, kR_s, Option.toList, List.append_nil, List.nil_append, List.cons_append, if_true, if_false, reduceIte, Bool.false_eq_true, not_true_eq_false, not_false_eq_true, true_and, and_true, false_and, and_false, true_or, or_true,  Nat.reduceEqDiff, Nat.reduceAdd, Nat.reduceLeDiff]
theorem l_inX4_13_1 {d : Nat} {H : qH} (e : hN H = 15) {Q : Option (Option Value) → qH → Prop} : WP d mX4_init (1, 6) 12 [some (.ref (13 : Nat))] [] H Q = WP d mX4_init (2, 12) 20 [some (.ref (13 : Nat))] [] (nwR H 13 3) Q := by
  have c1 : ∀ t, akd t = some 11 → akd t = some (kd (hN H)).1 ∧ ¬ (6 : Int32) < 0 ∧ (6 : Int32).toNatClampNeg = (kd (hN H)).2 ∧ (kd (hN H)).2 ≤ 60000 := fun t ht => by rw [e, kA_15, kB_15]; exact ⟨ht, by decide, by decide, by decide⟩
  have c2 := c1 .int rfl
  have c3 : (kd (hN H)).2 = 6 := by rw [e]; exact kB_15
  have c4 : (kd (hN H)).1 = 11 := by rw [e]; exact kA_15
  simp (implicitDefEqProofs := false) only [rX4_init_12, rX4_init_12b, rX4_init_13, rX4_init_15, rX4_init_17, kA_13, kB_13, c2, c3, c4, nwR, pCX4_init, pSX4_init, pOX4_init, pLX4_init, kl_I, kl_J, kl_R, kl_T, kl_N, Nat.le_refl, Nat.zero_le, List.map_nil, List.map_cons, List.sum_nil, List.sum_cons, c_I, c_J, c_R, c_T, va_rf, hI_wI, hJ_wJ, hR_wR, hI_J, hI_R, hJ_I, hJ_R, hR_I, hR_J, hN_I, hN_J, hN_R, wI_I, wJ_J, upd_at, updL_at, kR_s, Option.toList, List.append_nil, List.nil_append, List.cons_append, if_true, if_false, reduceIte, Bool.false_eq_true, not_true_eq_false, not_false_eq_true, true_and, and_true, false_and, and_false, true_or, or_true,  Nat.reduceEqDiff, Nat.reduceAdd, Nat.reduceLeDiff]
theorem l_inX4_13_2 {d : Nat} {H : qH} (e : hN H = 16) {Q : Option (Option Value) → qH → Prop} : WP d mX4_init (2, 12) 20 [some (.ref (13 : Nat))] [] H Q = WP d mX4_init (3, 18) 28 [some (.ref (13 : Nat))] [] (nwR H 13 4) Q := by
  have c1 : ∀ t, akd t = some 11 → akd t = some (kd (hN H)).1 ∧ ¬ (6 : Int32) < 0 ∧ (6 : Int32).toNatClampNeg = (kd (hN H)).2 ∧ (kd (hN H)).2 ≤ 60000 := fun t ht => by rw [e, kA_16, kB_16]; exact ⟨ht, by decide, by decide, by decide⟩
  have c2 := c1 .int rfl
  have c3 : (kd (hN H)).2 = 6 := by rw [e]; exact kB_16
  have c4 : (kd (hN H)).1 = 11 := by rw [e]; exact kA_16
  simp (implicitDefEqProofs := false) only [rX4_init_20, rX4_init_20b, rX4_init_21, rX4_init_23, rX4_init_25, kA_13, kB_13, c2, c3, c4, nwR, pCX4_init, pSX4_init, pOX4_init, pLX4_init, kl_I, kl_J, kl_R, kl_T, kl_N, Nat.le_refl, Nat.zero_le, List.map_nil, List.map_cons, List.sum_nil, List.sum_cons, c_I, c_J, c_R, c_T, va_rf, hI_wI, hJ_wJ, hR_wR, hI_J, hI_R, hJ_I, hJ_R, hR_I, hR_J, hN_I, hN_J, hN_R, wI_I, wJ_J, upd_at, updL_at, kR_s, Option.toList, List.append_nil, List.nil_append, List.cons_append, if_true, if_false, reduceIte, Bool.false_eq_true, not_true_eq_false, not_false_eq_true, true_and, and_true, false_and, and_false, true_or, or_true,  Nat.reduceEqDiff, Nat.reduceAdd, Nat.reduceLeDiff]
theorem l_inX4_13_3 {d : Nat} {H : qH} (e : hN H = 17) {Q : Option (Option Value) → qH → Prop} : WP d mX4_init (3, 18) 28 [some (.ref (13 : Nat))] [] H Q = WP d mX4_init (4, 24) 36 [some (.ref (13 : Nat))] [] (nwR H 13 5) Q := by
  have c1 : ∀ t, akd t = some 11 → akd t = some (kd (hN H)).1 ∧ ¬ (6 : Int32) < 0 ∧ (6 : Int32).toNatClampNeg = (kd (hN H)).2 ∧ (kd (hN H)).2 ≤ 60000 := fun t ht => by rw [e, kA_17, kB_17]; exact ⟨ht, by decide, by decide, by decide⟩
  have c2 := c1 .int rfl
  have c3 : (kd (hN H)).2 = 6 := by rw [e]; exact kB_17
  have c4 : (kd (hN H)).1 = 11 := by rw [e]; exact kA_17
  simp (implicitDefEqProofs := false) only [rX4_init_28, rX4_init_28b, rX4_init_29, rX4_init_31, rX4_init_33, kA_13, kB_13, c2, c3, c4, nwR, pCX4_init, pSX4_init, pOX4_init, pLX4_init, kl_I, kl_J, kl_R, kl_T, kl_N, Nat.le_refl, Nat.zero_le, List.map_nil, List.map_cons, List.sum_nil, List.sum_cons, c_I, c_J, c_R, c_T, va_rf, hI_wI, hJ_wJ, hR_wR, hI_J, hI_R, hJ_I, hJ_R, hR_I, hR_J, hN_I, hN_J, hN_R, wI_I, wJ_J, upd_at, updL_at, kR_s, Option.toList, List.append_nil, List.nil_append, List.cons_append, if_true, if_false, reduceIte, Bool.false_eq_true, not_true_eq_false, not_false_eq_true, true_and, and_true, false_and, and_false, true_or, or_true,  Nat.reduceEqDiff, Nat.reduceAdd, Nat.reduceLeDiff]
theorem l_inX4_13_4 {d : Nat} {H : qH} (e : hN H = 18) {Q : Option (Option Value) → qH → Prop} : WP d mX4_init (4, 24) 36 [some (.ref (13 : Nat))] [] H Q = WP d mX4_init (5, 33) 44 [some (.ref (13 : Nat))] [] (nwR H 13 8) Q := by
  have c1 : ∀ t, akd t = some 11 → akd t = some (kd (hN H)).1 ∧ ¬ (9 : Int32) < 0 ∧ (9 : Int32).toNatClampNeg = (kd (hN H)).2 ∧ (kd (hN H)).2 ≤ 60000 := fun t ht => by rw [e, kA_18, kB_18]; exact ⟨ht, by decide, by decide, by decide⟩
  have c2 := c1 .int rfl
  have c3 : (kd (hN H)).2 = 9 := by rw [e]; exact kB_18
  have c4 : (kd (hN H)).1 = 11 := by rw [e]; exact kA_18
  simp (implicitDefEqProofs := false) only [rX4_init_36, rX4_init_36b, rX4_init_37, rX4_init_39, rX4_init_41, kA_13, kB_13, c2, c3, c4, nwR, pCX4_init, pSX4_init, pOX4_init, pLX4_init, kl_I, kl_J, kl_R, kl_T, kl_N, Nat.le_refl, Nat.zero_le, List.map_nil, List.map_cons, List.sum_nil, List.sum_cons, c_I, c_J, c_R, c_T, va_rf, hI_wI, hJ_wJ, hR_wR, hI_J, hI_R, hJ_I, hJ_R, hR_I, hR_J, hN_I, hN_J, hN_R, wI_I, wJ_J, upd_at, updL_at, kR_s, Option.toList, List.append_nil, List.nil_append, List.cons_append, if_true, if_false, reduceIte, Bool.false_eq_true, not_true_eq_false, not_false_eq_true, true_and, and_true, false_and, and_false, true_or, or_true,  Nat.reduceEqDiff, Nat.reduceAdd, Nat.reduceLeDiff]
theorem l_inX4_13_5 {d : Nat} {H : qH} (e : hN H = 19) {Q : Option (Option Value) → qH → Prop} : WP d mX4_init (5, 33) 44 [some (.ref (13 : Nat))] [] H Q = WP d mX4_init (6, 42) 52 [some (.ref (13 : Nat))] [] (nwR H 13 9) Q := by
  have c1 : ∀ t, akd t = some 11 → akd t = some (kd (hN H)).1 ∧ ¬ (9 : Int32) < 0 ∧ (9 : Int32).toNatClampNeg = (kd (hN H)).2 ∧ (kd (hN H)).2 ≤ 60000 := fun t ht => by rw [e, kA_19, kB_19]; exact ⟨ht, by decide, by decide, by decide⟩
  have c2 := c1 .int rfl
  have c3 : (kd (hN H)).2 = 9 := by rw [e]; exact kB_19
  have c4 : (kd (hN H)).1 = 11 := by rw [e]; exact kA_19
  simp (implicitDefEqProofs := false) only [rX4_init_44, rX4_init_44b, rX4_init_45, rX4_init_47, rX4_init_49, kA_13, kB_13, c2, c3, c4, nwR, pCX4_init, pSX4_init, pOX4_init, pLX4_init, kl_I, kl_J, kl_R, kl_T, kl_N, Nat.le_refl, Nat.zero_le, List.map_nil, List.map_cons, List.sum_nil, List.sum_cons, c_I, c_J, c_R, c_T, va_rf, hI_wI, hJ_wJ, hR_wR, hI_J, hI_R, hJ_I, hJ_R, hR_I, hR_J, hN_I, hN_J, hN_R, wI_I, wJ_J, upd_at, updL_at, kR_s, Option.toList, List.append_nil, List.nil_append, List.cons_append, if_true, if_false, reduceIte, Bool.false_eq_true, not_true_eq_false, not_false_eq_true, true_and, and_true, false_and, and_false, true_or, or_true,  Nat.reduceEqDiff, Nat.reduceAdd, Nat.reduceLeDiff]
theorem l_inX4_13_6 {d : Nat} {H : qH} (e : hN H = 20) {Q : Option (Option Value) → qH → Prop} : WP d mX4_init (6, 42) 52 [some (.ref (13 : Nat))] [] H Q = WP d mX4_init (7, 51) 60 [some (.ref (13 : Nat))] [] (nwR H 13 10) Q := by
  have c1 : ∀ t, akd t = some 11 → akd t = some (kd (hN H)).1 ∧ ¬ (9 : Int32) < 0 ∧ (9 : Int32).toNatClampNeg = (kd (hN H)).2 ∧ (kd (hN H)).2 ≤ 60000 := fun t ht => by rw [e, kA_20, kB_20]; exact ⟨ht, by decide, by decide, by decide⟩
  have c2 := c1 .int rfl
  have c3 : (kd (hN H)).2 = 9 := by rw [e]; exact kB_20
  have c4 : (kd (hN H)).1 = 11 := by rw [e]; exact kA_20
  simp (implicitDefEqProofs := false) only [rX4_init_52, rX4_init_52b, rX4_init_53, rX4_init_55, rX4_init_57, kA_13, kB_13, c2, c3, c4, nwR, pCX4_init, pSX4_init, pOX4_init, pLX4_init, kl_I, kl_J, kl_R, kl_T, kl_N, Nat.le_refl, Nat.zero_le, List.map_nil, List.map_cons, List.sum_nil, List.sum_cons, c_I, c_J, c_R, c_T, va_rf, hI_wI, hJ_wJ, hR_wR, hI_J, hI_R, hJ_I, hJ_R, hR_I, hR_J, hN_I, hN_J, hN_R, wI_I, wJ_J, upd_at, updL_at, kR_s, Option.toList, List.append_nil, List.nil_append, List.cons_append, if_true, if_false, reduceIte, Bool.false_eq_true, not_true_eq_false, not_false_eq_true, true_and, and_true, false_and, and_false, true_or, or_true,  Nat.reduceEqDiff, Nat.reduceAdd, Nat.reduceLeDiff]
theorem l_inX4_13_7 {d : Nat} {H : qH} (e : hN H = 21) {Q : Option (Option Value) → qH → Prop} : WP d mX4_init (7, 51) 60 [some (.ref (13 : Nat))] [] H Q = WP d mX4_init (8, 55) 67 [some (.ref (13 : Nat))] [] (nwR H 13 12) Q := by
  have c1 : ∀ t, akd t = some 11 → akd t = some (kd (hN H)).1 ∧ ¬ (4 : Int32) < 0 ∧ (4 : Int32).toNatClampNeg = (kd (hN H)).2 ∧ (kd (hN H)).2 ≤ 60000 := fun t ht => by rw [e, kA_21, kB_21]; exact ⟨ht, by decide, by decide, by decide⟩
  have c2 := c1 .int rfl
  have c3 : (kd (hN H)).2 = 4 := by rw [e]; exact kB_21
  have c4 : (kd (hN H)).1 = 11 := by rw [e]; exact kA_21
  simp (implicitDefEqProofs := false) only [rX4_init_60, rX4_init_60b, rX4_init_61, rX4_init_62, rX4_init_64, kA_13, kB_13, c2, c3, c4, nwR, pCX4_init, pSX4_init, pOX4_init, pLX4_init, kl_I, kl_J, kl_R, kl_T, kl_N, Nat.le_refl, Nat.zero_le, List.map_nil, List.map_cons, List.sum_nil, List.sum_cons, c_I, c_J, c_R, c_T, va_rf, hI_wI, hJ_wJ, hR_wR, hI_J, hI_R, hJ_I, hJ_R, hR_I, hR_J, hN_I, hN_J, hN_R, wI_I, wJ_J, upd_at, updL_at, kR_s, Option.toList, List.append_nil, List.nil_append, List.cons_append, if_true, if_false, reduceIte, Bool.false_eq_true, not_true_eq_false, not_false_eq_true, true_and, and_true, false_and, and_false, true_or, or_true,  Nat.reduceEqDiff, Nat.reduceAdd, Nat.reduceLeDiff]
theorem l_inX4_13_8 {d : Nat} {H : qH} (e : hN H = 22) {Q : Option (Option Value) → qH → Prop} : WP d mX4_init (8, 55) 67 [some (.ref (13 : Nat))] [] H Q = WP d mX4_init (9, 57) 74 [some (.ref (13 : Nat))] [] (nwR H 13 14) Q := by
  have c1 : ∀ t, akd t = some 11 → akd t = some (kd (hN H)).1 ∧ ¬ (2 : Int32) < 0 ∧ (2 : Int32).toNatClampNeg = (kd (hN H)).2 ∧ (kd (hN H)).2 ≤ 60000 := fun t ht => by rw [e, kA_22, kB_22]; exact ⟨ht, by decide, by decide, by decide⟩
  have c2 := c1 .int rfl
  have c3 : (kd (hN H)).2 = 2 := by rw [e]; exact kB_22
  have c4 : (kd (hN H)).1 = 11 := by rw [e]; exact kA_22
  simp (implicitDefEqProofs := false) only [rX4_init_67, rX4_init_67b, rX4_init_68, rX4_init_69, rX4_init_71, kA_13, kB_13, c2, c3, c4, nwR, pCX4_init, pSX4_init, pOX4_init, pLX4_init, kl_I, kl_J, kl_R, kl_T, kl_N, Nat.le_refl, Nat.zero_le, List.map_nil, List.map_cons, List.sum_nil, List.sum_cons, c_I, c_J, c_R, c_T, va_rf, hI_wI, hJ_wJ, hR_wR, hI_J, hI_R, hJ_I, hJ_R, hR_I, hR_J, hN_I, hN_J, hN_R, wI_I, wJ_J, upd_at, updL_at, kR_s, Option.toList, List.append_nil, List.nil_append, List.cons_append, if_true, if_false, reduceIte, Bool.false_eq_true, not_true_eq_false, not_false_eq_true, true_and, and_true, false_and, and_false, true_or, or_true,  Nat.reduceEqDiff, Nat.reduceAdd, Nat.reduceLeDiff]
theorem l_inX4_13_9 {d : Nat} {H : qH} (e : hN H = 23) {Q : Option (Option Value) → qH → Prop} : WP d mX4_init (9, 57) 74 [some (.ref (13 : Nat))] [] H Q = WP d mX4_init (10, 61) 81 [some (.ref (13 : Nat))] [] (nwR H 13 16) Q := by
  have c1 : ∀ t, akd t = some 11 → akd t = some (kd (hN H)).1 ∧ ¬ (4 : Int32) < 0 ∧ (4 : Int32).toNatClampNeg = (kd (hN H)).2 ∧ (kd (hN H)).2 ≤ 60000 := fun t ht => by rw [e, kA_23, kB_23]; exact ⟨ht, by decide, by decide, by decide⟩
  have c2 := c1 .int rfl
  have c3 : (kd (hN H)).2 = 4 := by rw [e]; exact kB_23
  have c4 : (kd (hN H)).1 = 11 := by rw [e]; exact kA_23
  simp (implicitDefEqProofs := false) only [rX4_init_74, rX4_init_74b, rX4_init_75, rX4_init_76, rX4_init_78, kA_13, kB_13, c2, c3, c4, nwR, pCX4_init, pSX4_init, pOX4_init, pLX4_init, kl_I, kl_J, kl_R, kl_T, kl_N, Nat.le_refl, Nat.zero_le, List.map_nil, List.map_cons, List.sum_nil, List.sum_cons, c_I, c_J, c_R, c_T, va_rf, hI_wI, hJ_wJ, hR_wR, hI_J, hI_R, hJ_I, hJ_R, hR_I, hR_J, hN_I, hN_J, hN_R, wI_I, wJ_J, upd_at, updL_at, kR_s, Option.toList, List.append_nil, List.nil_append, List.cons_append, if_true, if_false, reduceIte, Bool.false_eq_true, not_true_eq_false, not_false_eq_true, true_and, and_true, false_and, and_false, true_or, or_true,  Nat.reduceEqDiff, Nat.reduceAdd, Nat.reduceLeDiff]
theorem l_inX4_13_10 {d : Nat} {H : qH} (e : hN H = 24) {Q : Option (Option Value) → qH → Prop} : WP d mX4_init (10, 61) 81 [some (.ref (13 : Nat))] [] H Q = WP d mX4_init (11, 65) 88 [some (.ref (13 : Nat))] [] (nwR H 13 17) Q := by
  have c1 : ∀ t, akd t = some 11 → akd t = some (kd (hN H)).1 ∧ ¬ (4 : Int32) < 0 ∧ (4 : Int32).toNatClampNeg = (kd (hN H)).2 ∧ (kd (hN H)).2 ≤ 60000 := fun t ht => by rw [e, kA_24, kB_24]; exact ⟨ht, by decide, by decide, by decide⟩
  have c2 := c1 .int rfl
  have c3 : (kd (hN H)).2 = 4 := by rw [e]; exact kB_24
  have c4 : (kd (hN H)).1 = 11 := by rw [e]; exact kA_24
  simp (implicitDefEqProofs := false) only [rX4_init_81, rX4_init_81b, rX4_init_82, rX4_init_83, rX4_init_85, kA_13, kB_13, c2, c3, c4, nwR, pCX4_init, pSX4_init, pOX4_init, pLX4_init, kl_I, kl_J, kl_R, kl_T, kl_N, Nat.le_refl, Nat.zero_le, List.map_nil, List.map_cons, List.sum_nil, List.sum_cons, c_I, c_J, c_R, c_T, va_rf, hI_wI, hJ_wJ, hR_wR, hI_J, hI_R, hJ_I, hJ_R, hR_I, hR_J, hN_I, hN_J, hN_R, wI_I, wJ_J, upd_at, updL_at, kR_s, Option.toList, List.append_nil, List.nil_append, List.cons_append, if_true, if_false, reduceIte, Bool.false_eq_true, not_true_eq_false, not_false_eq_true, true_and, and_true, false_and, and_false, true_or, or_true,  Nat.reduceEqDiff, Nat.reduceAdd, Nat.reduceLeDiff]
theorem i_X4_13 {d : Nat} {g h : qH} {rs : List (Nat × Nat × Nat)} {is : List (Nat × Nat × Int32)} (f0 : FR g 14 rs is h) : ∃ h', (∀ Q, WM d mX4_init [.ref (13 : Nat)] h Q = Q (some none) h') ∧ FR g 25 ((13, 17, 24) :: (13, 16, 23) :: (13, 14, 22) :: (13, 12, 21) :: (13, 10, 20) :: (13, 9, 19) :: (13, 8, 18) :: (13, 5, 17) :: (13, 4, 16) :: (13, 3, 15) :: (13, 2, 14) :: rs) (is) h' := by
  have f1 := FR_A (i := 2) f0 (a := 13) (by decide)
  have f2 := FR_A (i := 3) f1 (a := 13) (by decide)
  have f3 := FR_A (i := 4) f2 (a := 13) (by decide)
  have f4 := FR_A (i := 5) f3 (a := 13) (by decide)
  have f5 := FR_A (i := 8) f4 (a := 13) (by decide)
  have f6 := FR_A (i := 9) f5 (a := 13) (by decide)
  have f7 := FR_A (i := 10) f6 (a := 13) (by decide)
  have f8 := FR_A (i := 12) f7 (a := 13) (by decide)
  have f9 := FR_A (i := 14) f8 (a := 13) (by decide)
  have f10 := FR_A (i := 16) f9 (a := 13) (by decide)
  have f11 := FR_A (i := 17) f10 (a := 13) (by decide)
  refine ⟨_, fun Q => ?_, f11⟩
  simp (implicitDefEqProofs := false) only [eX4_init, rX4_init_0, rX4_init_0b, rX4_init_1, kA_13, kB_13, pCX4_init, pSX4_init, pOX4_init, pLX4_init, kl_I, kl_J, kl_R, kl_T, kl_N, Nat.le_refl, Nat.zero_le, List.map_nil, List.map_cons, List.sum_nil, List.sum_cons, c_I, c_J, c_R, c_T, va_rf, hI_wI, hJ_wJ, hR_wR, hI_J, hI_R, hJ_I, hJ_R, hR_I, hR_J, hN_I, hN_J, hN_R, wI_I, wJ_J, upd_at, updL_at, kR_s, Option.toList, List.append_nil, List.nil_append, List.cons_append, if_true, if_false, reduceIte, Bool.false_eq_true, not_true_eq_false, not_false_eq_true, true_and, and_true, false_and, and_false, true_or, or_true,  Nat.reduceEqDiff, Nat.reduceAdd, Nat.reduceLeDiff]
  rw [l_inX4_13_0 f0.1]
  rw [l_inX4_13_1 f1.1]
  rw [l_inX4_13_2 f2.1]
  rw [l_inX4_13_3 f3.1]
  rw [l_inX4_13_4 f4.1]
  rw [l_inX4_13_5 f5.1]
  rw [l_inX4_13_6 f6.1]
  rw [l_inX4_13_7 f7.1]
  rw [l_inX4_13_8 f8.1]
  rw [l_inX4_13_9 f9.1]
  rw [l_inX4_13_10 f10.1]
  simp (implicitDefEqProofs := false) only [rX4_init_88, pCX4_init, pSX4_init, pOX4_init, pLX4_init, kl_I, kl_J, kl_R, kl_T, kl_N, Nat.le_refl, Nat.zero_le, List.map_nil, List.map_cons, List.sum_nil, List.sum_cons, c_I, c_J, c_R, c_T, va_rf, hI_wI, hJ_wJ, hR_wR, hI_J, hI_R, hJ_I, hJ_R, hR_I, hR_J, hN_I, hN_J, hN_R, wI_I, wJ_J, upd_at, updL_at, kR_s, Option.toList, List.append_nil, List.nil_append, List.cons_append, if_true, if_false, reduceIte, Bool.false_eq_true, not_true_eq_false, not_false_eq_true, true_and, and_true, false_and, and_false, true_or, or_true,  Nat.reduceEqDiff, Nat.reduceAdd, Nat.reduceLeDiff]
theorem l_inX5_25_0 {d : Nat} {H : qH} (e : hN H = 26) {Q : Option (Option Value) → qH → Prop} : WP d mX5_init (0, 0) 4 [some (.ref (25 : Nat))] [] H Q = WP d mX5_init (1, 900) 13 [some (.ref (25 : Nat))] [] (nwR H 25 0) Q := by
  have c1 : ∀ t, akd t = some 10 → akd t = some (kd (hN H)).1 ∧ ¬ (900 : Int32) < 0 ∧ (900 : Int32).toNatClampNeg = (kd (hN H)).2 ∧ (kd (hN H)).2 ≤ 60000 := fun t ht => by rw [e, kA_26, kB_26]; exact ⟨ht, by decide, by decide, by decide⟩
  have c2 := c1 .byte rfl
  have c3 : (kd (hN H)).2 = 900 := by rw [e]; exact kB_26
  have c4 : (kd (hN H)).1 = 10 := by rw [e]; exact kA_26
  simp (implicitDefEqProofs := false) only [rX5_init_4, rX5_init_4b, rX5_init_5, rX5_init_8, rX5_init_10, kA_25, kB_25, c2, c3, c4, nwR, pCX5_init, pSX5_init, pOX5_init, pLX5_init, kl_I, kl_J, kl_R, kl_T, kl_N, Nat.le_refl, Nat.zero_le, List.map_nil, List.map_cons, List.sum_nil, List.sum_cons, c_I, c_J, c_R, c_T, va_rf, hI_wI, hJ_wJ, hR_wR, hI_J, hI_R, hJ_I, hJ_R, hR_I, hR_J, hN_I, hN_J, hN_R, wI_I, wJ_J, upd_at, updL_at, kR_s, Option.toList, List.append_nil, List.nil_append, List.cons_append, if_true, if_false, reduceIte, Bool.false_eq_true, not_true_eq_false, not_false_eq_true, true_and, and_true, false_and, and_false, true_or, or_true,  Nat.reduceEqDiff, Nat.reduceAdd, Nat.reduceLeDiff]
theorem i_X5_25 {d : Nat} {g h : qH} {rs : List (Nat × Nat × Nat)} {is : List (Nat × Nat × Int32)} (f0 : FR g 26 rs is h) : ∃ h', (∀ Q, WM d mX5_init [.ref (25 : Nat)] h Q = Q (some none) h') ∧ FR g 27 ((25, 0, 26) :: rs) (is) h' := by
  have f1 := FR_A (i := 0) f0 (a := 25) (by decide)
  refine ⟨_, fun Q => ?_, f1⟩
  simp (implicitDefEqProofs := false) only [eX5_init, rX5_init_0, rX5_init_0b, rX5_init_1, kA_25, kB_25, pCX5_init, pSX5_init, pOX5_init, pLX5_init, kl_I, kl_J, kl_R, kl_T, kl_N, Nat.le_refl, Nat.zero_le, List.map_nil, List.map_cons, List.sum_nil, List.sum_cons, c_I, c_J, c_R, c_T, va_rf, hI_wI, hJ_wJ, hR_wR, hI_J, hI_R, hJ_I, hJ_R, hR_I, hR_J, hN_I, hN_J, hN_R, wI_I, wJ_J, upd_at, updL_at, kR_s, Option.toList, List.append_nil, List.nil_append, List.cons_append, if_true, if_false, reduceIte, Bool.false_eq_true, not_true_eq_false, not_false_eq_true, true_and, and_true, false_and, and_false, true_or, or_true,  Nat.reduceEqDiff, Nat.reduceAdd, Nat.reduceLeDiff]
  rw [l_inX5_25_0 f0.1]
  simp (implicitDefEqProofs := false) only [rX5_init_13, pCX5_init, pSX5_init, pOX5_init, pLX5_init, kl_I, kl_J, kl_R, kl_T, kl_N, Nat.le_refl, Nat.zero_le, List.map_nil, List.map_cons, List.sum_nil, List.sum_cons, c_I, c_J, c_R, c_T, va_rf, hI_wI, hJ_wJ, hR_wR, hI_J, hI_R, hJ_I, hJ_R, hR_I, hR_J, hN_I, hN_J, hN_R, wI_I, wJ_J, upd_at, updL_at, kR_s, Option.toList, List.append_nil, List.nil_append, List.cons_append, if_true, if_false, reduceIte, Bool.false_eq_true, not_true_eq_false, not_false_eq_true, true_and, and_true, false_and, and_false, true_or, or_true,  Nat.reduceEqDiff, Nat.reduceAdd, Nat.reduceLeDiff]
theorem l_inX2_27_0 {d : Nat} {H : qH} (e : hN H = 28) {Q : Option (Option Value) → qH → Prop} : WP d mX2_init (0, 0) 4 [some (.ref (27 : Nat)), some (.ref (25 : Nat)), some (.ref (13 : Nat))] [] H Q = WP d mX2_init (1, 6) 12 [some (.ref (27 : Nat)), some (.ref (25 : Nat)), some (.ref (13 : Nat))] [] (nwR H 27 1) Q := by
  have c1 : ∀ t, akd t = some 12 → akd t = some (kd (hN H)).1 ∧ ¬ (6 : Int32) < 0 ∧ (6 : Int32).toNatClampNeg = (kd (hN H)).2 ∧ (kd (hN H)).2 ≤ 60000 := fun t ht => by rw [e, kA_28, kB_28]; exact ⟨ht, by decide, by decide, by decide⟩
  have c2 := c1 .long rfl
  have c3 : (kd (hN H)).2 = 6 := by rw [e]; exact kB_28
  have c4 : (kd (hN H)).1 = 12 := by rw [e]; exact kA_28
  simp (implicitDefEqProofs := false) only [rX2_init_4, rX2_init_4b, rX2_init_5, rX2_init_7, rX2_init_9, kA_27, kB_27, c2, c3, c4, nwR, pCX2_init, pSX2_init, pOX2_init, pLX2_init, kl_I, kl_J, kl_R, kl_T, kl_N, Nat.le_refl, Nat.zero_le, List.map_nil, List.map_cons, List.sum_nil, List.sum_cons, c_I, c_J, c_R, c_T, va_rf, hI_wI, hJ_wJ, hR_wR, hI_J, hI_R, hJ_I, hJ_R, hR_I, hR_J, hN_I, hN_J, hN_R, wI_I, wJ_J, upd_at, updL_at, kR_s, Option.toList, List.append_nil, List.nil_append, List.cons_append, if_true, if_false, reduceIte, Bool.false_eq_true, not_true_eq_false, not_false_eq_true, true_and, and_true, false_and, and_false, true_or, or_true,  Nat.reduceEqDiff, Nat.reduceAdd, Nat.reduceLeDiff]
theorem l_inX2_27_1 {d : Nat} {H : qH} {Q : Option (Option Value) → qH → Prop} : WP d mX2_init (1, 6) 12 [some (.ref (27 : Nat)), some (.ref (25 : Nat)), some (.ref (13 : Nat))] [] H Q = WP d mX2_init (1, 6) 17 [some (.ref (27 : Nat)), some (.ref (25 : Nat)), some (.ref (13 : Nat))] [] (wR H 27 (va_up (hR H 27) 0 (some 25))) Q := by
  simp (implicitDefEqProofs := false) only [rX2_init_12, rX2_init_12b, rX2_init_13, rX2_init_13b, rX2_init_14, kA_27, kB_27, pCX2_init, pSX2_init, pOX2_init, pLX2_init, kl_I, kl_J, kl_R, kl_T, kl_N, Nat.le_refl, Nat.zero_le, List.map_nil, List.map_cons, List.sum_nil, List.sum_cons, c_I, c_J, c_R, c_T, va_rf, hI_wI, hJ_wJ, hR_wR, hI_J, hI_R, hJ_I, hJ_R, hR_I, hR_J, hN_I, hN_J, hN_R, wI_I, wJ_J, upd_at, updL_at, kR_s, Option.toList, List.append_nil, List.nil_append, List.cons_append, if_true, if_false, reduceIte, Bool.false_eq_true, not_true_eq_false, not_false_eq_true, true_and, and_true, false_and, and_false, true_or, or_true,  Nat.reduceEqDiff, Nat.reduceAdd, Nat.reduceLeDiff]
theorem l_inX2_27_2 {d : Nat} {H : qH} {Q : Option (Option Value) → qH → Prop} : WP d mX2_init (1, 6) 17 [some (.ref (27 : Nat)), some (.ref (25 : Nat)), some (.ref (13 : Nat))] [] H Q = WP d mX2_init (1, 6) 22 [some (.ref (27 : Nat)), some (.ref (25 : Nat)), some (.ref (13 : Nat))] [] (wR H 27 (va_up (hR H 27) 2 (some 13))) Q := by
  simp (implicitDefEqProofs := false) only [rX2_init_17, rX2_init_17b, rX2_init_18, rX2_init_18b, rX2_init_19, kA_27, kB_27, pCX2_init, pSX2_init, pOX2_init, pLX2_init, kl_I, kl_J, kl_R, kl_T, kl_N, Nat.le_refl, Nat.zero_le, List.map_nil, List.map_cons, List.sum_nil, List.sum_cons, c_I, c_J, c_R, c_T, va_rf, hI_wI, hJ_wJ, hR_wR, hI_J, hI_R, hJ_I, hJ_R, hR_I, hR_J, hN_I, hN_J, hN_R, wI_I, wJ_J, upd_at, updL_at, kR_s, Option.toList, List.append_nil, List.nil_append, List.cons_append, if_true, if_false, reduceIte, Bool.false_eq_true, not_true_eq_false, not_false_eq_true, true_and, and_true, false_and, and_false, true_or, or_true,  Nat.reduceEqDiff, Nat.reduceAdd, Nat.reduceLeDiff]
theorem i_X2_27 {d : Nat} {g h : qH} {rs : List (Nat × Nat × Nat)} {is : List (Nat × Nat × Int32)} (f0 : FR g 28 rs is h) : ∃ h', (∀ Q, WM d mX2_init [.ref (27 : Nat), .ref (25 : Nat), .ref (13 : Nat)] h Q = Q (some none) h') ∧ FR g 29 ((27, 2, 13) :: (27, 0, 25) :: (27, 1, 28) :: rs) (is) h' := by
  have f1 := FR_A (i := 1) f0 (a := 27) (by decide)
  have f2 := FR_R (i := 0) (v := 25) f1 (a := 27) (by decide)
  have f3 := FR_R (i := 2) (v := 13) f2 (a := 27) (by decide)
  refine ⟨_, fun Q => ?_, f3⟩
  simp (implicitDefEqProofs := false) only [eX2_init, rX2_init_0, rX2_init_0b, rX2_init_1, kA_27, kB_27, pCX2_init, pSX2_init, pOX2_init, pLX2_init, kl_I, kl_J, kl_R, kl_T, kl_N, Nat.le_refl, Nat.zero_le, List.map_nil, List.map_cons, List.sum_nil, List.sum_cons, c_I, c_J, c_R, c_T, va_rf, hI_wI, hJ_wJ, hR_wR, hI_J, hI_R, hJ_I, hJ_R, hR_I, hR_J, hN_I, hN_J, hN_R, wI_I, wJ_J, upd_at, updL_at, kR_s, Option.toList, List.append_nil, List.nil_append, List.cons_append, if_true, if_false, reduceIte, Bool.false_eq_true, not_true_eq_false, not_false_eq_true, true_and, and_true, false_and, and_false, true_or, or_true,  Nat.reduceEqDiff, Nat.reduceAdd, Nat.reduceLeDiff]
  rw [l_inX2_27_0 f0.1]
  rw [l_inX2_27_1]
  rw [l_inX2_27_2]
  simp (implicitDefEqProofs := false) only [rX2_init_22, pCX2_init, pSX2_init, pOX2_init, pLX2_init, kl_I, kl_J, kl_R, kl_T, kl_N, Nat.le_refl, Nat.zero_le, List.map_nil, List.map_cons, List.sum_nil, List.sum_cons, c_I, c_J, c_R, c_T, va_rf, hI_wI, hJ_wJ, hR_wR, hI_J, hI_R, hJ_I, hJ_R, hR_I, hR_J, hN_I, hN_J, hN_R, wI_I, wJ_J, upd_at, updL_at, kR_s, Option.toList, List.append_nil, List.nil_append, List.cons_append, if_true, if_false, reduceIte, Bool.false_eq_true, not_true_eq_false, not_false_eq_true, true_and, and_true, false_and, and_false, true_or, or_true,  Nat.reduceEqDiff, Nat.reduceAdd, Nat.reduceLeDiff]
theorem l_inX3_29_0 {d : Nat} {H : qH} (e : hN H = 30) {Q : Option (Option Value) → qH → Prop} : WP d mX3_init (0, 0) 4 [some (.ref (29 : Nat))] [] H Q = WP d mX3_init (1, 16) 12 [some (.ref (29 : Nat))] [] (nwR H 29 3) Q := by
  have c1 : ∀ t, akd t = some 11 → akd t = some (kd (hN H)).1 ∧ ¬ (16 : Int32) < 0 ∧ (16 : Int32).toNatClampNeg = (kd (hN H)).2 ∧ (kd (hN H)).2 ≤ 60000 := fun t ht => by rw [e, kA_30, kB_30]; exact ⟨ht, by decide, by decide, by decide⟩
  have c2 := c1 .int rfl
  have c3 : (kd (hN H)).2 = 16 := by rw [e]; exact kB_30
  have c4 : (kd (hN H)).1 = 11 := by rw [e]; exact kA_30
  simp (implicitDefEqProofs := false) only [rX3_init_4, rX3_init_4b, rX3_init_5, rX3_init_7, rX3_init_9, kA_29, kB_29, c2, c3, c4, nwR, pCX3_init, pSX3_init, pOX3_init, pLX3_init, kl_I, kl_J, kl_R, kl_T, kl_N, Nat.le_refl, Nat.zero_le, List.map_nil, List.map_cons, List.sum_nil, List.sum_cons, c_I, c_J, c_R, c_T, va_rf, hI_wI, hJ_wJ, hR_wR, hI_J, hI_R, hJ_I, hJ_R, hR_I, hR_J, hN_I, hN_J, hN_R, wI_I, wJ_J, upd_at, updL_at, kR_s, Option.toList, List.append_nil, List.nil_append, List.cons_append, if_true, if_false, reduceIte, Bool.false_eq_true, not_true_eq_false, not_false_eq_true, true_and, and_true, false_and, and_false, true_or, or_true,  Nat.reduceEqDiff, Nat.reduceAdd, Nat.reduceLeDiff]
theorem l_inX3_29_1 {d : Nat} {H : qH} (e : hN H = 31) {Q : Option (Option Value) → qH → Prop} : WP d mX3_init (1, 16) 12 [some (.ref (29 : Nat))] [] H Q = WP d mX3_init (2, 19) 19 [some (.ref (29 : Nat))] [] (nwR H 29 6) Q := by
  have c1 : ∀ t, akd t = some 11 → akd t = some (kd (hN H)).1 ∧ ¬ (3 : Int32) < 0 ∧ (3 : Int32).toNatClampNeg = (kd (hN H)).2 ∧ (kd (hN H)).2 ≤ 60000 := fun t ht => by rw [e, kA_31, kB_31]; exact ⟨ht, by decide, by decide, by decide⟩
  have c2 := c1 .int rfl
  have c3 : (kd (hN H)).2 = 3 := by rw [e]; exact kB_31
  have c4 : (kd (hN H)).1 = 11 := by rw [e]; exact kA_31
  simp (implicitDefEqProofs := false) only [rX3_init_12, rX3_init_12b, rX3_init_13, rX3_init_14, rX3_init_16, kA_29, kB_29, c2, c3, c4, nwR, pCX3_init, pSX3_init, pOX3_init, pLX3_init, kl_I, kl_J, kl_R, kl_T, kl_N, Nat.le_refl, Nat.zero_le, List.map_nil, List.map_cons, List.sum_nil, List.sum_cons, c_I, c_J, c_R, c_T, va_rf, hI_wI, hJ_wJ, hR_wR, hI_J, hI_R, hJ_I, hJ_R, hR_I, hR_J, hN_I, hN_J, hN_R, wI_I, wJ_J, upd_at, updL_at, kR_s, Option.toList, List.append_nil, List.nil_append, List.cons_append, if_true, if_false, reduceIte, Bool.false_eq_true, not_true_eq_false, not_false_eq_true, true_and, and_true, false_and, and_false, true_or, or_true,  Nat.reduceEqDiff, Nat.reduceAdd, Nat.reduceLeDiff]
theorem i_X3_29 {d : Nat} {g h : qH} {rs : List (Nat × Nat × Nat)} {is : List (Nat × Nat × Int32)} (f0 : FR g 30 rs is h) : ∃ h', (∀ Q, WM d mX3_init [.ref (29 : Nat)] h Q = Q (some none) h') ∧ FR g 32 ((29, 6, 31) :: (29, 3, 30) :: rs) (is) h' := by
  have f1 := FR_A (i := 3) f0 (a := 29) (by decide)
  have f2 := FR_A (i := 6) f1 (a := 29) (by decide)
  refine ⟨_, fun Q => ?_, f2⟩
  simp (implicitDefEqProofs := false) only [eX3_init, rX3_init_0, rX3_init_0b, rX3_init_1, kA_29, kB_29, pCX3_init, pSX3_init, pOX3_init, pLX3_init, kl_I, kl_J, kl_R, kl_T, kl_N, Nat.le_refl, Nat.zero_le, List.map_nil, List.map_cons, List.sum_nil, List.sum_cons, c_I, c_J, c_R, c_T, va_rf, hI_wI, hJ_wJ, hR_wR, hI_J, hI_R, hJ_I, hJ_R, hR_I, hR_J, hN_I, hN_J, hN_R, wI_I, wJ_J, upd_at, updL_at, kR_s, Option.toList, List.append_nil, List.nil_append, List.cons_append, if_true, if_false, reduceIte, Bool.false_eq_true, not_true_eq_false, not_false_eq_true, true_and, and_true, false_and, and_false, true_or, or_true,  Nat.reduceEqDiff, Nat.reduceAdd, Nat.reduceLeDiff]
  rw [l_inX3_29_0 f0.1]
  rw [l_inX3_29_1 f1.1]
  simp (implicitDefEqProofs := false) only [rX3_init_19, pCX3_init, pSX3_init, pOX3_init, pLX3_init, kl_I, kl_J, kl_R, kl_T, kl_N, Nat.le_refl, Nat.zero_le, List.map_nil, List.map_cons, List.sum_nil, List.sum_cons, c_I, c_J, c_R, c_T, va_rf, hI_wI, hJ_wJ, hR_wR, hI_J, hI_R, hJ_I, hJ_R, hR_I, hR_J, hN_I, hN_J, hN_R, wI_I, wJ_J, upd_at, updL_at, kR_s, Option.toList, List.append_nil, List.nil_append, List.cons_append, if_true, if_false, reduceIte, Bool.false_eq_true, not_true_eq_false, not_false_eq_true, true_and, and_true, false_and, and_false, true_or, or_true,  Nat.reduceEqDiff, Nat.reduceAdd, Nat.reduceLeDiff]
theorem l_inX0_32_0 {d : Nat} {H : qH} (e : hN H = 33) {Q : Option (Option Value) → qH → Prop} : WP d mX0_init (0, 0) 4 [some (.ref (32 : Nat)), some (.ref (1 : Nat))] [] H Q = WP d mX0_init (1, 6) 12 [some (.ref (32 : Nat)), some (.ref (1 : Nat))] [] (nwR H 32 1) Q := by
  have c1 : ∀ t, akd t = some 11 → akd t = some (kd (hN H)).1 ∧ ¬ (6 : Int32) < 0 ∧ (6 : Int32).toNatClampNeg = (kd (hN H)).2 ∧ (kd (hN H)).2 ≤ 60000 := fun t ht => by rw [e, kA_33, kB_33]; exact ⟨ht, by decide, by decide, by decide⟩
  have c2 := c1 .int rfl
  have c3 : (kd (hN H)).2 = 6 := by rw [e]; exact kB_33
  have c4 : (kd (hN H)).1 = 11 := by rw [e]; exact kA_33
  simp (implicitDefEqProofs := false) only [rX0_init_4, rX0_init_4b, rX0_init_5, rX0_init_7, rX0_init_9, kA_32, kB_32, c2, c3, c4, nwR, pCX0_init, pSX0_init, pOX0_init, pLX0_init, kl_I, kl_J, kl_R, kl_T, kl_N, Nat.le_refl, Nat.zero_le, List.map_nil, List.map_cons, List.sum_nil, List.sum_cons, c_I, c_J, c_R, c_T, va_rf, hI_wI, hJ_wJ, hR_wR, hI_J, hI_R, hJ_I, hJ_R, hR_I, hR_J, hN_I, hN_J, hN_R, wI_I, wJ_J, upd_at, updL_at, kR_s, Option.toList, List.append_nil, List.nil_append, List.cons_append, if_true, if_false, reduceIte, Bool.false_eq_true, not_true_eq_false, not_false_eq_true, true_and, and_true, false_and, and_false, true_or, or_true,  Nat.reduceEqDiff, Nat.reduceAdd, Nat.reduceLeDiff]
theorem l_inX0_32_1 {d : Nat} {H : qH} (e : hN H = 34) {Q : Option (Option Value) → qH → Prop} : WP d mX0_init (1, 6) 12 [some (.ref (32 : Nat)), some (.ref (1 : Nat))] [] H Q = WP d mX0_init (2, 12) 20 [some (.ref (32 : Nat)), some (.ref (1 : Nat))] [] (nwR H 32 2) Q := by
  have c1 : ∀ t, akd t = some 11 → akd t = some (kd (hN H)).1 ∧ ¬ (6 : Int32) < 0 ∧ (6 : Int32).toNatClampNeg = (kd (hN H)).2 ∧ (kd (hN H)).2 ≤ 60000 := fun t ht => by rw [e, kA_34, kB_34]; exact ⟨ht, by decide, by decide, by decide⟩
  have c2 := c1 .int rfl
  have c3 : (kd (hN H)).2 = 6 := by rw [e]; exact kB_34
  have c4 : (kd (hN H)).1 = 11 := by rw [e]; exact kA_34
  simp (implicitDefEqProofs := false) only [rX0_init_12, rX0_init_12b, rX0_init_13, rX0_init_15, rX0_init_17, kA_32, kB_32, c2, c3, c4, nwR, pCX0_init, pSX0_init, pOX0_init, pLX0_init, kl_I, kl_J, kl_R, kl_T, kl_N, Nat.le_refl, Nat.zero_le, List.map_nil, List.map_cons, List.sum_nil, List.sum_cons, c_I, c_J, c_R, c_T, va_rf, hI_wI, hJ_wJ, hR_wR, hI_J, hI_R, hJ_I, hJ_R, hR_I, hR_J, hN_I, hN_J, hN_R, wI_I, wJ_J, upd_at, updL_at, kR_s, Option.toList, List.append_nil, List.nil_append, List.cons_append, if_true, if_false, reduceIte, Bool.false_eq_true, not_true_eq_false, not_false_eq_true, true_and, and_true, false_and, and_false, true_or, or_true,  Nat.reduceEqDiff, Nat.reduceAdd, Nat.reduceLeDiff]
theorem l_inX0_32_2 {d : Nat} {H : qH} (e : hN H = 35) {Q : Option (Option Value) → qH → Prop} : WP d mX0_init (2, 12) 20 [some (.ref (32 : Nat)), some (.ref (1 : Nat))] [] H Q = WP d mX0_init (3, 396) 29 [some (.ref (32 : Nat)), some (.ref (1 : Nat))] [] (nwR H 32 3) Q := by
  have c1 : ∀ t, akd t = some 11 → akd t = some (kd (hN H)).1 ∧ ¬ (384 : Int32) < 0 ∧ (384 : Int32).toNatClampNeg = (kd (hN H)).2 ∧ (kd (hN H)).2 ≤ 60000 := fun t ht => by rw [e, kA_35, kB_35]; exact ⟨ht, by decide, by decide, by decide⟩
  have c2 := c1 .int rfl
  have c3 : (kd (hN H)).2 = 384 := by rw [e]; exact kB_35
  have c4 : (kd (hN H)).1 = 11 := by rw [e]; exact kA_35
  simp (implicitDefEqProofs := false) only [rX0_init_20, rX0_init_20b, rX0_init_21, rX0_init_24, rX0_init_26, kA_32, kB_32, c2, c3, c4, nwR, pCX0_init, pSX0_init, pOX0_init, pLX0_init, kl_I, kl_J, kl_R, kl_T, kl_N, Nat.le_refl, Nat.zero_le, List.map_nil, List.map_cons, List.sum_nil, List.sum_cons, c_I, c_J, c_R, c_T, va_rf, hI_wI, hJ_wJ, hR_wR, hI_J, hI_R, hJ_I, hJ_R, hR_I, hR_J, hN_I, hN_J, hN_R, wI_I, wJ_J, upd_at, updL_at, kR_s, Option.toList, List.append_nil, List.nil_append, List.cons_append, if_true, if_false, reduceIte, Bool.false_eq_true, not_true_eq_false, not_false_eq_true, true_and, and_true, false_and, and_false, true_or, or_true,  Nat.reduceEqDiff, Nat.reduceAdd, Nat.reduceLeDiff]
theorem l_inX0_32_3 {d : Nat} {H : qH} (e : hN H = 36) {Q : Option (Option Value) → qH → Prop} : WP d mX0_init (3, 396) 29 [some (.ref (32 : Nat)), some (.ref (1 : Nat))] [] H Q = WP d mX0_init (4, 780) 38 [some (.ref (32 : Nat)), some (.ref (1 : Nat))] [] (nwR H 32 4) Q := by
  have c1 : ∀ t, akd t = some 11 → akd t = some (kd (hN H)).1 ∧ ¬ (384 : Int32) < 0 ∧ (384 : Int32).toNatClampNeg = (kd (hN H)).2 ∧ (kd (hN H)).2 ≤ 60000 := fun t ht => by rw [e, kA_36, kB_36]; exact ⟨ht, by decide, by decide, by decide⟩
  have c2 := c1 .int rfl
  have c3 : (kd (hN H)).2 = 384 := by rw [e]; exact kB_36
  have c4 : (kd (hN H)).1 = 11 := by rw [e]; exact kA_36
  simp (implicitDefEqProofs := false) only [rX0_init_29, rX0_init_29b, rX0_init_30, rX0_init_33, rX0_init_35, kA_32, kB_32, c2, c3, c4, nwR, pCX0_init, pSX0_init, pOX0_init, pLX0_init, kl_I, kl_J, kl_R, kl_T, kl_N, Nat.le_refl, Nat.zero_le, List.map_nil, List.map_cons, List.sum_nil, List.sum_cons, c_I, c_J, c_R, c_T, va_rf, hI_wI, hJ_wJ, hR_wR, hI_J, hI_R, hJ_I, hJ_R, hR_I, hR_J, hN_I, hN_J, hN_R, wI_I, wJ_J, upd_at, updL_at, kR_s, Option.toList, List.append_nil, List.nil_append, List.cons_append, if_true, if_false, reduceIte, Bool.false_eq_true, not_true_eq_false, not_false_eq_true, true_and, and_true, false_and, and_false, true_or, or_true,  Nat.reduceEqDiff, Nat.reduceAdd, Nat.reduceLeDiff]
theorem l_inX0_32_4 {d : Nat} {H : qH} {Q : Option (Option Value) → qH → Prop} : WP d mX0_init (4, 780) 38 [some (.ref (32 : Nat)), some (.ref (1 : Nat))] [] H Q = WP d mX0_init (4, 780) 43 [some (.ref (32 : Nat)), some (.ref (1 : Nat))] [] (wR H 32 (va_up (hR H 32) 0 (some 1))) Q := by
  simp (implicitDefEqProofs := false) only [rX0_init_38, rX0_init_38b, rX0_init_39, rX0_init_39b, rX0_init_40, kA_32, kB_32, pCX0_init, pSX0_init, pOX0_init, pLX0_init, kl_I, kl_J, kl_R, kl_T, kl_N, Nat.le_refl, Nat.zero_le, List.map_nil, List.map_cons, List.sum_nil, List.sum_cons, c_I, c_J, c_R, c_T, va_rf, hI_wI, hJ_wJ, hR_wR, hI_J, hI_R, hJ_I, hJ_R, hR_I, hR_J, hN_I, hN_J, hN_R, wI_I, wJ_J, upd_at, updL_at, kR_s, Option.toList, List.append_nil, List.nil_append, List.cons_append, if_true, if_false, reduceIte, Bool.false_eq_true, not_true_eq_false, not_false_eq_true, true_and, and_true, false_and, and_false, true_or, or_true,  Nat.reduceEqDiff, Nat.reduceAdd, Nat.reduceLeDiff]
theorem i_X0_32 {d : Nat} {g h : qH} {rs : List (Nat × Nat × Nat)} {is : List (Nat × Nat × Int32)} (f0 : FR g 33 rs is h) : ∃ h', (∀ Q, WM d mX0_init [.ref (32 : Nat), .ref (1 : Nat)] h Q = Q (some none) h') ∧ FR g 37 ((32, 0, 1) :: (32, 4, 36) :: (32, 3, 35) :: (32, 2, 34) :: (32, 1, 33) :: rs) (is) h' := by
  have f1 := FR_A (i := 1) f0 (a := 32) (by decide)
  have f2 := FR_A (i := 2) f1 (a := 32) (by decide)
  have f3 := FR_A (i := 3) f2 (a := 32) (by decide)
  have f4 := FR_A (i := 4) f3 (a := 32) (by decide)
  have f5 := FR_R (i := 0) (v := 1) f4 (a := 32) (by decide)
  refine ⟨_, fun Q => ?_, f5⟩
  simp (implicitDefEqProofs := false) only [eX0_init, rX0_init_0, rX0_init_0b, rX0_init_1, kA_32, kB_32, pCX0_init, pSX0_init, pOX0_init, pLX0_init, kl_I, kl_J, kl_R, kl_T, kl_N, Nat.le_refl, Nat.zero_le, List.map_nil, List.map_cons, List.sum_nil, List.sum_cons, c_I, c_J, c_R, c_T, va_rf, hI_wI, hJ_wJ, hR_wR, hI_J, hI_R, hJ_I, hJ_R, hR_I, hR_J, hN_I, hN_J, hN_R, wI_I, wJ_J, upd_at, updL_at, kR_s, Option.toList, List.append_nil, List.nil_append, List.cons_append, if_true, if_false, reduceIte, Bool.false_eq_true, not_true_eq_false, not_false_eq_true, true_and, and_true, false_and, and_false, true_or, or_true,  Nat.reduceEqDiff, Nat.reduceAdd, Nat.reduceLeDiff]
  rw [l_inX0_32_0 f0.1]
  rw [l_inX0_32_1 f1.1]
  rw [l_inX0_32_2 f2.1]
  rw [l_inX0_32_3 f3.1]
  rw [l_inX0_32_4]
  simp (implicitDefEqProofs := false) only [rX0_init_43, pCX0_init, pSX0_init, pOX0_init, pLX0_init, kl_I, kl_J, kl_R, kl_T, kl_N, Nat.le_refl, Nat.zero_le, List.map_nil, List.map_cons, List.sum_nil, List.sum_cons, c_I, c_J, c_R, c_T, va_rf, hI_wI, hJ_wJ, hR_wR, hI_J, hI_R, hJ_I, hJ_R, hR_I, hR_J, hN_I, hN_J, hN_R, wI_I, wJ_J, upd_at, updL_at, kR_s, Option.toList, List.append_nil, List.nil_append, List.cons_append, if_true, if_false, reduceIte, Bool.false_eq_true, not_true_eq_false, not_false_eq_true, true_and, and_true, false_and, and_false, true_or, or_true,  Nat.reduceEqDiff, Nat.reduceAdd, Nat.reduceLeDiff]
theorem l_inX6_37_0 {d : Nat} {H : qH} (e : hN H = 38) {Q : Option (Option Value) → qH → Prop} : WP d mX6_init (0, 0) 4 [some (.ref (37 : Nat)), some (.ref (32 : Nat))] [] H Q = WP d mX6_init (1, 1296) 13 [some (.ref (37 : Nat)), some (.ref (32 : Nat))] [] (nwR H 37 1) Q := by
  have c1 : ∀ t, akd t = some 11 → akd t = some (kd (hN H)).1 ∧ ¬ (1296 : Int32) < 0 ∧ (1296 : Int32).toNatClampNeg = (kd (hN H)).2 ∧ (kd (hN H)).2 ≤ 60000 := fun t ht => by rw [e, kA_38, kB_38]; exact ⟨ht, by decide, by decide, by decide⟩
  have c2 := c1 .int rfl
  have c3 : (kd (hN H)).2 = 1296 := by rw [e]; exact kB_38
  have c4 : (kd (hN H)).1 = 11 := by rw [e]; exact kA_38
  simp (implicitDefEqProofs := false) only [rX6_init_4, rX6_init_4b, rX6_init_5, rX6_init_8, rX6_init_10, kA_37, kB_37, c2, c3, c4, nwR, pCX6_init, pSX6_init, pOX6_init, pLX6_init, kl_I, kl_J, kl_R, kl_T, kl_N, Nat.le_refl, Nat.zero_le, List.map_nil, List.map_cons, List.sum_nil, List.sum_cons, c_I, c_J, c_R, c_T, va_rf, hI_wI, hJ_wJ, hR_wR, hI_J, hI_R, hJ_I, hJ_R, hR_I, hR_J, hN_I, hN_J, hN_R, wI_I, wJ_J, upd_at, updL_at, kR_s, Option.toList, List.append_nil, List.nil_append, List.cons_append, if_true, if_false, reduceIte, Bool.false_eq_true, not_true_eq_false, not_false_eq_true, true_and, and_true, false_and, and_false, true_or, or_true,  Nat.reduceEqDiff, Nat.reduceAdd, Nat.reduceLeDiff]
theorem l_inX6_37_1 {d : Nat} {H : qH} {Q : Option (Option Value) → qH → Prop} : WP d mX6_init (1, 1296) 13 [some (.ref (37 : Nat)), some (.ref (32 : Nat))] [] H Q = WP d mX6_init (1, 1296) 18 [some (.ref (37 : Nat)), some (.ref (32 : Nat))] [] (wR H 37 (va_up (hR H 37) 0 (some 32))) Q := by
  simp (implicitDefEqProofs := false) only [rX6_init_13, rX6_init_13b, rX6_init_14, rX6_init_14b, rX6_init_15, kA_37, kB_37, pCX6_init, pSX6_init, pOX6_init, pLX6_init, kl_I, kl_J, kl_R, kl_T, kl_N, Nat.le_refl, Nat.zero_le, List.map_nil, List.map_cons, List.sum_nil, List.sum_cons, c_I, c_J, c_R, c_T, va_rf, hI_wI, hJ_wJ, hR_wR, hI_J, hI_R, hJ_I, hJ_R, hR_I, hR_J, hN_I, hN_J, hN_R, wI_I, wJ_J, upd_at, updL_at, kR_s, Option.toList, List.append_nil, List.nil_append, List.cons_append, if_true, if_false, reduceIte, Bool.false_eq_true, not_true_eq_false, not_false_eq_true, true_and, and_true, false_and, and_false, true_or, or_true,  Nat.reduceEqDiff, Nat.reduceAdd, Nat.reduceLeDiff]
theorem i_X6_37 {d : Nat} {g h : qH} {rs : List (Nat × Nat × Nat)} {is : List (Nat × Nat × Int32)} (f0 : FR g 38 rs is h) : ∃ h', (∀ Q, WM d mX6_init [.ref (37 : Nat), .ref (32 : Nat)] h Q = Q (some none) h') ∧ FR g 39 ((37, 0, 32) :: (37, 1, 38) :: rs) (is) h' := by
  have f1 := FR_A (i := 1) f0 (a := 37) (by decide)
  have f2 := FR_R (i := 0) (v := 32) f1 (a := 37) (by decide)
  refine ⟨_, fun Q => ?_, f2⟩
  simp (implicitDefEqProofs := false) only [eX6_init, rX6_init_0, rX6_init_0b, rX6_init_1, kA_37, kB_37, pCX6_init, pSX6_init, pOX6_init, pLX6_init, kl_I, kl_J, kl_R, kl_T, kl_N, Nat.le_refl, Nat.zero_le, List.map_nil, List.map_cons, List.sum_nil, List.sum_cons, c_I, c_J, c_R, c_T, va_rf, hI_wI, hJ_wJ, hR_wR, hI_J, hI_R, hJ_I, hJ_R, hR_I, hR_J, hN_I, hN_J, hN_R, wI_I, wJ_J, upd_at, updL_at, kR_s, Option.toList, List.append_nil, List.nil_append, List.cons_append, if_true, if_false, reduceIte, Bool.false_eq_true, not_true_eq_false, not_false_eq_true, true_and, and_true, false_and, and_false, true_or, or_true,  Nat.reduceEqDiff, Nat.reduceAdd, Nat.reduceLeDiff]
  rw [l_inX6_37_0 f0.1]
  rw [l_inX6_37_1]
  simp (implicitDefEqProofs := false) only [rX6_init_18, pCX6_init, pSX6_init, pOX6_init, pLX6_init, kl_I, kl_J, kl_R, kl_T, kl_N, Nat.le_refl, Nat.zero_le, List.map_nil, List.map_cons, List.sum_nil, List.sum_cons, c_I, c_J, c_R, c_T, va_rf, hI_wI, hJ_wJ, hR_wR, hI_J, hI_R, hJ_I, hJ_R, hR_I, hR_J, hN_I, hN_J, hN_R, wI_I, wJ_J, upd_at, updL_at, kR_s, Option.toList, List.append_nil, List.nil_append, List.cons_append, if_true, if_false, reduceIte, Bool.false_eq_true, not_true_eq_false, not_false_eq_true, true_and, and_true, false_and, and_false, true_or, or_true,  Nat.reduceEqDiff, Nat.reduceAdd, Nat.reduceLeDiff]
theorem l_inX1_39_0 {d : Nat} {H : qH} (e : hN H = 40) {Q : Option (Option Value) → qH → Prop} : WP d mX1_init (0, 0) 4 [some (.ref (39 : Nat)), some (.ref (32 : Nat))] [] H Q = WP d mX1_init (1, 2) 11 [some (.ref (39 : Nat)), some (.ref (32 : Nat))] [] (nwR H 39 1) Q := by
  have c1 : ∀ t, akd t = some 11 → akd t = some (kd (hN H)).1 ∧ ¬ (2 : Int32) < 0 ∧ (2 : Int32).toNatClampNeg = (kd (hN H)).2 ∧ (kd (hN H)).2 ≤ 60000 := fun t ht => by rw [e, kA_40, kB_40]; exact ⟨ht, by decide, by decide, by decide⟩
  have c2 := c1 .int rfl
  have c3 : (kd (hN H)).2 = 2 := by rw [e]; exact kB_40
  have c4 : (kd (hN H)).1 = 11 := by rw [e]; exact kA_40
  simp (implicitDefEqProofs := false) only [rX1_init_4, rX1_init_4b, rX1_init_5, rX1_init_6, rX1_init_8, kA_39, kB_39, c2, c3, c4, nwR, pCX1_init, pSX1_init, pOX1_init, pLX1_init, kl_I, kl_J, kl_R, kl_T, kl_N, Nat.le_refl, Nat.zero_le, List.map_nil, List.map_cons, List.sum_nil, List.sum_cons, c_I, c_J, c_R, c_T, va_rf, hI_wI, hJ_wJ, hR_wR, hI_J, hI_R, hJ_I, hJ_R, hR_I, hR_J, hN_I, hN_J, hN_R, wI_I, wJ_J, upd_at, updL_at, kR_s, Option.toList, List.append_nil, List.nil_append, List.cons_append, if_true, if_false, reduceIte, Bool.false_eq_true, not_true_eq_false, not_false_eq_true, true_and, and_true, false_and, and_false, true_or, or_true,  Nat.reduceEqDiff, Nat.reduceAdd, Nat.reduceLeDiff]
theorem l_inX1_39_1 {d : Nat} {H : qH} (e : hN H = 41) {Q : Option (Option Value) → qH → Prop} : WP d mX1_init (1, 2) 11 [some (.ref (39 : Nat)), some (.ref (32 : Nat))] [] H Q = WP d mX1_init (2, 9) 19 [some (.ref (39 : Nat)), some (.ref (32 : Nat))] [] (nwR H 39 2) Q := by
  have c1 : ∀ t, akd t = some 11 → akd t = some (kd (hN H)).1 ∧ ¬ (7 : Int32) < 0 ∧ (7 : Int32).toNatClampNeg = (kd (hN H)).2 ∧ (kd (hN H)).2 ≤ 60000 := fun t ht => by rw [e, kA_41, kB_41]; exact ⟨ht, by decide, by decide, by decide⟩
  have c2 := c1 .int rfl
  have c3 : (kd (hN H)).2 = 7 := by rw [e]; exact kB_41
  have c4 : (kd (hN H)).1 = 11 := by rw [e]; exact kA_41
  simp (implicitDefEqProofs := false) only [rX1_init_11, rX1_init_11b, rX1_init_12, rX1_init_14, rX1_init_16, kA_39, kB_39, c2, c3, c4, nwR, pCX1_init, pSX1_init, pOX1_init, pLX1_init, kl_I, kl_J, kl_R, kl_T, kl_N, Nat.le_refl, Nat.zero_le, List.map_nil, List.map_cons, List.sum_nil, List.sum_cons, c_I, c_J, c_R, c_T, va_rf, hI_wI, hJ_wJ, hR_wR, hI_J, hI_R, hJ_I, hJ_R, hR_I, hR_J, hN_I, hN_J, hN_R, wI_I, wJ_J, upd_at, updL_at, kR_s, Option.toList, List.append_nil, List.nil_append, List.cons_append, if_true, if_false, reduceIte, Bool.false_eq_true, not_true_eq_false, not_false_eq_true, true_and, and_true, false_and, and_false, true_or, or_true,  Nat.reduceEqDiff, Nat.reduceAdd, Nat.reduceLeDiff]
theorem l_inX1_39_2 {d : Nat} {H : qH} (e : hN H = 42) {Q : Option (Option Value) → qH → Prop} : WP d mX1_init (2, 9) 19 [some (.ref (39 : Nat)), some (.ref (32 : Nat))] [] H Q = WP d mX1_init (3, 735) 28 [some (.ref (39 : Nat)), some (.ref (32 : Nat))] [] (nwR H 39 3) Q := by
  have c1 : ∀ t, akd t = some 11 → akd t = some (kd (hN H)).1 ∧ ¬ (726 : Int32) < 0 ∧ (726 : Int32).toNatClampNeg = (kd (hN H)).2 ∧ (kd (hN H)).2 ≤ 60000 := fun t ht => by rw [e, kA_42, kB_42]; exact ⟨ht, by decide, by decide, by decide⟩
  have c2 := c1 .int rfl
  have c3 : (kd (hN H)).2 = 726 := by rw [e]; exact kB_42
  have c4 : (kd (hN H)).1 = 11 := by rw [e]; exact kA_42
  simp (implicitDefEqProofs := false) only [rX1_init_19, rX1_init_19b, rX1_init_20, rX1_init_23, rX1_init_25, kA_39, kB_39, c2, c3, c4, nwR, pCX1_init, pSX1_init, pOX1_init, pLX1_init, kl_I, kl_J, kl_R, kl_T, kl_N, Nat.le_refl, Nat.zero_le, List.map_nil, List.map_cons, List.sum_nil, List.sum_cons, c_I, c_J, c_R, c_T, va_rf, hI_wI, hJ_wJ, hR_wR, hI_J, hI_R, hJ_I, hJ_R, hR_I, hR_J, hN_I, hN_J, hN_R, wI_I, wJ_J, upd_at, updL_at, kR_s, Option.toList, List.append_nil, List.nil_append, List.cons_append, if_true, if_false, reduceIte, Bool.false_eq_true, not_true_eq_false, not_false_eq_true, true_and, and_true, false_and, and_false, true_or, or_true,  Nat.reduceEqDiff, Nat.reduceAdd, Nat.reduceLeDiff]
theorem l_inX1_39_3 {d : Nat} {H : qH} (e : hN H = 43) {Q : Option (Option Value) → qH → Prop} : WP d mX1_init (3, 735) 28 [some (.ref (39 : Nat)), some (.ref (32 : Nat))] [] H Q = WP d mX1_init (4, 856) 36 [some (.ref (39 : Nat)), some (.ref (32 : Nat))] [] (nwR H 39 4) Q := by
  have c1 : ∀ t, akd t = some 11 → akd t = some (kd (hN H)).1 ∧ ¬ (121 : Int32) < 0 ∧ (121 : Int32).toNatClampNeg = (kd (hN H)).2 ∧ (kd (hN H)).2 ≤ 60000 := fun t ht => by rw [e, kA_43, kB_43]; exact ⟨ht, by decide, by decide, by decide⟩
  have c2 := c1 .int rfl
  have c3 : (kd (hN H)).2 = 121 := by rw [e]; exact kB_43
  have c4 : (kd (hN H)).1 = 11 := by rw [e]; exact kA_43
  simp (implicitDefEqProofs := false) only [rX1_init_28, rX1_init_28b, rX1_init_29, rX1_init_31, rX1_init_33, kA_39, kB_39, c2, c3, c4, nwR, pCX1_init, pSX1_init, pOX1_init, pLX1_init, kl_I, kl_J, kl_R, kl_T, kl_N, Nat.le_refl, Nat.zero_le, List.map_nil, List.map_cons, List.sum_nil, List.sum_cons, c_I, c_J, c_R, c_T, va_rf, hI_wI, hJ_wJ, hR_wR, hI_J, hI_R, hJ_I, hJ_R, hR_I, hR_J, hN_I, hN_J, hN_R, wI_I, wJ_J, upd_at, updL_at, kR_s, Option.toList, List.append_nil, List.nil_append, List.cons_append, if_true, if_false, reduceIte, Bool.false_eq_true, not_true_eq_false, not_false_eq_true, true_and, and_true, false_and, and_false, true_or, or_true,  Nat.reduceEqDiff, Nat.reduceAdd, Nat.reduceLeDiff]
theorem l_inX1_39_4 {d : Nat} {H : qH} {Q : Option (Option Value) → qH → Prop} : WP d mX1_init (4, 856) 36 [some (.ref (39 : Nat)), some (.ref (32 : Nat))] [] H Q = WP d mX1_init (4, 856) 41 [some (.ref (39 : Nat)), some (.ref (32 : Nat))] [] (wR H 39 (va_up (hR H 39) 0 (some 32))) Q := by
  simp (implicitDefEqProofs := false) only [rX1_init_36, rX1_init_36b, rX1_init_37, rX1_init_37b, rX1_init_38, kA_39, kB_39, pCX1_init, pSX1_init, pOX1_init, pLX1_init, kl_I, kl_J, kl_R, kl_T, kl_N, Nat.le_refl, Nat.zero_le, List.map_nil, List.map_cons, List.sum_nil, List.sum_cons, c_I, c_J, c_R, c_T, va_rf, hI_wI, hJ_wJ, hR_wR, hI_J, hI_R, hJ_I, hJ_R, hR_I, hR_J, hN_I, hN_J, hN_R, wI_I, wJ_J, upd_at, updL_at, kR_s, Option.toList, List.append_nil, List.nil_append, List.cons_append, if_true, if_false, reduceIte, Bool.false_eq_true, not_true_eq_false, not_false_eq_true, true_and, and_true, false_and, and_false, true_or, or_true,  Nat.reduceEqDiff, Nat.reduceAdd, Nat.reduceLeDiff]
theorem i_X1_39 {d : Nat} {g h : qH} {rs : List (Nat × Nat × Nat)} {is : List (Nat × Nat × Int32)} (f0 : FR g 40 rs is h) : ∃ h', (∀ Q, WM d mX1_init [.ref (39 : Nat), .ref (32 : Nat)] h Q = Q (some none) h') ∧ FR g 44 ((39, 0, 32) :: (39, 4, 43) :: (39, 3, 42) :: (39, 2, 41) :: (39, 1, 40) :: rs) (is) h' := by
  have f1 := FR_A (i := 1) f0 (a := 39) (by decide)
  have f2 := FR_A (i := 2) f1 (a := 39) (by decide)
  have f3 := FR_A (i := 3) f2 (a := 39) (by decide)
  have f4 := FR_A (i := 4) f3 (a := 39) (by decide)
  have f5 := FR_R (i := 0) (v := 32) f4 (a := 39) (by decide)
  refine ⟨_, fun Q => ?_, f5⟩
  simp (implicitDefEqProofs := false) only [eX1_init, rX1_init_0, rX1_init_0b, rX1_init_1, kA_39, kB_39, pCX1_init, pSX1_init, pOX1_init, pLX1_init, kl_I, kl_J, kl_R, kl_T, kl_N, Nat.le_refl, Nat.zero_le, List.map_nil, List.map_cons, List.sum_nil, List.sum_cons, c_I, c_J, c_R, c_T, va_rf, hI_wI, hJ_wJ, hR_wR, hI_J, hI_R, hJ_I, hJ_R, hR_I, hR_J, hN_I, hN_J, hN_R, wI_I, wJ_J, upd_at, updL_at, kR_s, Option.toList, List.append_nil, List.nil_append, List.cons_append, if_true, if_false, reduceIte, Bool.false_eq_true, not_true_eq_false, not_false_eq_true, true_and, and_true, false_and, and_false, true_or, or_true,  Nat.reduceEqDiff, Nat.reduceAdd, Nat.reduceLeDiff]
  rw [l_inX1_39_0 f0.1]
  rw [l_inX1_39_1 f1.1]
  rw [l_inX1_39_2 f2.1]
  rw [l_inX1_39_3 f3.1]
  rw [l_inX1_39_4]
  simp (implicitDefEqProofs := false) only [rX1_init_41, pCX1_init, pSX1_init, pOX1_init, pLX1_init, kl_I, kl_J, kl_R, kl_T, kl_N, Nat.le_refl, Nat.zero_le, List.map_nil, List.map_cons, List.sum_nil, List.sum_cons, c_I, c_J, c_R, c_T, va_rf, hI_wI, hJ_wJ, hR_wR, hI_J, hI_R, hJ_I, hJ_R, hR_I, hR_J, hN_I, hN_J, hN_R, wI_I, wJ_J, upd_at, updL_at, kR_s, Option.toList, List.append_nil, List.nil_append, List.cons_append, if_true, if_false, reduceIte, Bool.false_eq_true, not_true_eq_false, not_false_eq_true, true_and, and_true, false_and, and_false, true_or, or_true,  Nat.reduceEqDiff, Nat.reduceAdd, Nat.reduceLeDiff]
theorem l_inX9_44_0 {d : Nat} {H : qH} {Q : Option (Option Value) → qH → Prop} : WP d mX9_init (0, 0) 4 [some (.ref (44 : Nat))] [] H Q = WP d mX9_init (0, 0) 9 [some (.ref (44 : Nat))] [] (wI H 44 (upd (hI H 44) 2 (-1))) Q := by
  simp (implicitDefEqProofs := false) only [rX9_init_4, rX9_init_4b, rX9_init_5, rX9_init_6, kA_44, kB_44, pCX9_init, pSX9_init, pOX9_init, pLX9_init, kl_I, kl_J, kl_R, kl_T, kl_N, Nat.le_refl, Nat.zero_le, List.map_nil, List.map_cons, List.sum_nil, List.sum_cons, c_I, c_J, c_R, c_T, va_rf, hI_wI, hJ_wJ, hR_wR, hI_J, hI_R, hJ_I, hJ_R, hR_I, hR_J, hN_I, hN_J, hN_R, wI_I, wJ_J, upd_at, updL_at, kR_s, Option.toList, List.append_nil, List.nil_append, List.cons_append, if_true, if_false, reduceIte, Bool.false_eq_true, not_true_eq_false, not_false_eq_true, true_and, and_true, false_and, and_false, true_or, or_true,  Nat.reduceEqDiff, Nat.reduceAdd, Nat.reduceLeDiff]
theorem l_inX9_44_1 {d : Nat} {H : qH} (e : hN H = 45) {Q : Option (Option Value) → qH → Prop} : WP d mX9_init (0, 0) 9 [some (.ref (44 : Nat))] [] H Q = WP d mX9_init (1, 900) 18 [some (.ref (44 : Nat))] [] (nwR H 44 5) Q := by
  have c1 : ∀ t, akd t = some 10 → akd t = some (kd (hN H)).1 ∧ ¬ (900 : Int32) < 0 ∧ (900 : Int32).toNatClampNeg = (kd (hN H)).2 ∧ (kd (hN H)).2 ≤ 60000 := fun t ht => by rw [e, kA_45, kB_45]; exact ⟨ht, by decide, by decide, by decide⟩
  have c2 := c1 .byte rfl
  have c3 : (kd (hN H)).2 = 900 := by rw [e]; exact kB_45
  have c4 : (kd (hN H)).1 = 10 := by rw [e]; exact kA_45
  simp (implicitDefEqProofs := false) only [rX9_init_9, rX9_init_9b, rX9_init_10, rX9_init_13, rX9_init_15, kA_44, kB_44, c2, c3, c4, nwR, pCX9_init, pSX9_init, pOX9_init, pLX9_init, kl_I, kl_J, kl_R, kl_T, kl_N, Nat.le_refl, Nat.zero_le, List.map_nil, List.map_cons, List.sum_nil, List.sum_cons, c_I, c_J, c_R, c_T, va_rf, hI_wI, hJ_wJ, hR_wR, hI_J, hI_R, hJ_I, hJ_R, hR_I, hR_J, hN_I, hN_J, hN_R, wI_I, wJ_J, upd_at, updL_at, kR_s, Option.toList, List.append_nil, List.nil_append, List.cons_append, if_true, if_false, reduceIte, Bool.false_eq_true, not_true_eq_false, not_false_eq_true, true_and, and_true, false_and, and_false, true_or, or_true,  Nat.reduceEqDiff, Nat.reduceAdd, Nat.reduceLeDiff]
theorem l_inX9_44_2 {d : Nat} {H : qH} (e : hN H = 46) {Q : Option (Option Value) → qH → Prop} : WP d mX9_init (1, 900) 18 [some (.ref (44 : Nat))] [] H Q = WP d mX9_init (2, 910) 26 [some (.ref (44 : Nat))] [] (nwR H 44 15) Q := by
  have c1 : ∀ t, akd t = some 11 → akd t = some (kd (hN H)).1 ∧ ¬ (10 : Int32) < 0 ∧ (10 : Int32).toNatClampNeg = (kd (hN H)).2 ∧ (kd (hN H)).2 ≤ 60000 := fun t ht => by rw [e, kA_46, kB_46]; exact ⟨ht, by decide, by decide, by decide⟩
  have c2 := c1 .int rfl
  have c3 : (kd (hN H)).2 = 10 := by rw [e]; exact kB_46
  have c4 : (kd (hN H)).1 = 11 := by rw [e]; exact kA_46
  simp (implicitDefEqProofs := false) only [rX9_init_18, rX9_init_18b, rX9_init_19, rX9_init_21, rX9_init_23, kA_44, kB_44, c2, c3, c4, nwR, pCX9_init, pSX9_init, pOX9_init, pLX9_init, kl_I, kl_J, kl_R, kl_T, kl_N, Nat.le_refl, Nat.zero_le, List.map_nil, List.map_cons, List.sum_nil, List.sum_cons, c_I, c_J, c_R, c_T, va_rf, hI_wI, hJ_wJ, hR_wR, hI_J, hI_R, hJ_I, hJ_R, hR_I, hR_J, hN_I, hN_J, hN_R, wI_I, wJ_J, upd_at, updL_at, kR_s, Option.toList, List.append_nil, List.nil_append, List.cons_append, if_true, if_false, reduceIte, Bool.false_eq_true, not_true_eq_false, not_false_eq_true, true_and, and_true, false_and, and_false, true_or, or_true,  Nat.reduceEqDiff, Nat.reduceAdd, Nat.reduceLeDiff]
theorem l_inX9_44_3 {d : Nat} {H : qH} (e : hN H = 47) {Q : Option (Option Value) → qH → Prop} : WP d mX9_init (2, 910) 26 [some (.ref (44 : Nat))] [] H Q = WP d mX9_init (3, 920) 34 [some (.ref (44 : Nat))] [] (nwR H 44 16) Q := by
  have c1 : ∀ t, akd t = some 11 → akd t = some (kd (hN H)).1 ∧ ¬ (10 : Int32) < 0 ∧ (10 : Int32).toNatClampNeg = (kd (hN H)).2 ∧ (kd (hN H)).2 ≤ 60000 := fun t ht => by rw [e, kA_47, kB_47]; exact ⟨ht, by decide, by decide, by decide⟩
  have c2 := c1 .int rfl
  have c3 : (kd (hN H)).2 = 10 := by rw [e]; exact kB_47
  have c4 : (kd (hN H)).1 = 11 := by rw [e]; exact kA_47
  simp (implicitDefEqProofs := false) only [rX9_init_26, rX9_init_26b, rX9_init_27, rX9_init_29, rX9_init_31, kA_44, kB_44, c2, c3, c4, nwR, pCX9_init, pSX9_init, pOX9_init, pLX9_init, kl_I, kl_J, kl_R, kl_T, kl_N, Nat.le_refl, Nat.zero_le, List.map_nil, List.map_cons, List.sum_nil, List.sum_cons, c_I, c_J, c_R, c_T, va_rf, hI_wI, hJ_wJ, hR_wR, hI_J, hI_R, hJ_I, hJ_R, hR_I, hR_J, hN_I, hN_J, hN_R, wI_I, wJ_J, upd_at, updL_at, kR_s, Option.toList, List.append_nil, List.nil_append, List.cons_append, if_true, if_false, reduceIte, Bool.false_eq_true, not_true_eq_false, not_false_eq_true, true_and, and_true, false_and, and_false, true_or, or_true,  Nat.reduceEqDiff, Nat.reduceAdd, Nat.reduceLeDiff]
theorem l_inX9_44_4 {d : Nat} {H : qH} (e : hN H = 48) {Q : Option (Option Value) → qH → Prop} : WP d mX9_init (3, 920) 34 [some (.ref (44 : Nat))] [] H Q = WP d mX9_init (4, 1080) 43 [some (.ref (44 : Nat))] [] (nwR H 44 17) Q := by
  have c1 : ∀ t, akd t = some 11 → akd t = some (kd (hN H)).1 ∧ ¬ (160 : Int32) < 0 ∧ (160 : Int32).toNatClampNeg = (kd (hN H)).2 ∧ (kd (hN H)).2 ≤ 60000 := fun t ht => by rw [e, kA_48, kB_48]; exact ⟨ht, by decide, by decide, by decide⟩
  have c2 := c1 .int rfl
  have c3 : (kd (hN H)).2 = 160 := by rw [e]; exact kB_48
  have c4 : (kd (hN H)).1 = 11 := by rw [e]; exact kA_48
  simp (implicitDefEqProofs := false) only [rX9_init_34, rX9_init_34b, rX9_init_35, rX9_init_38, rX9_init_40, kA_44, kB_44, c2, c3, c4, nwR, pCX9_init, pSX9_init, pOX9_init, pLX9_init, kl_I, kl_J, kl_R, kl_T, kl_N, Nat.le_refl, Nat.zero_le, List.map_nil, List.map_cons, List.sum_nil, List.sum_cons, c_I, c_J, c_R, c_T, va_rf, hI_wI, hJ_wJ, hR_wR, hI_J, hI_R, hJ_I, hJ_R, hR_I, hR_J, hN_I, hN_J, hN_R, wI_I, wJ_J, upd_at, updL_at, kR_s, Option.toList, List.append_nil, List.nil_append, List.cons_append, if_true, if_false, reduceIte, Bool.false_eq_true, not_true_eq_false, not_false_eq_true, true_and, and_true, false_and, and_false, true_or, or_true,  Nat.reduceEqDiff, Nat.reduceAdd, Nat.reduceLeDiff]
theorem l_inX9_44_5 {d : Nat} {H : qH} (e : hN H = 49) {Q : Option (Option Value) → qH → Prop} : WP d mX9_init (4, 1080) 43 [some (.ref (44 : Nat))] [] H Q = WP d mX9_init (5, 1110) 51 [some (.ref (44 : Nat))] [] (nwR H 44 18) Q := by
  have c1 : ∀ t, akd t = some 11 → akd t = some (kd (hN H)).1 ∧ ¬ (30 : Int32) < 0 ∧ (30 : Int32).toNatClampNeg = (kd (hN H)).2 ∧ (kd (hN H)).2 ≤ 60000 := fun t ht => by rw [e, kA_49, kB_49]; exact ⟨ht, by decide, by decide, by decide⟩
  have c2 := c1 .int rfl
  have c3 : (kd (hN H)).2 = 30 := by rw [e]; exact kB_49
  have c4 : (kd (hN H)).1 = 11 := by rw [e]; exact kA_49
  simp (implicitDefEqProofs := false) only [rX9_init_43, rX9_init_43b, rX9_init_44, rX9_init_46, rX9_init_48, kA_44, kB_44, c2, c3, c4, nwR, pCX9_init, pSX9_init, pOX9_init, pLX9_init, kl_I, kl_J, kl_R, kl_T, kl_N, Nat.le_refl, Nat.zero_le, List.map_nil, List.map_cons, List.sum_nil, List.sum_cons, c_I, c_J, c_R, c_T, va_rf, hI_wI, hJ_wJ, hR_wR, hI_J, hI_R, hJ_I, hJ_R, hR_I, hR_J, hN_I, hN_J, hN_R, wI_I, wJ_J, upd_at, updL_at, kR_s, Option.toList, List.append_nil, List.nil_append, List.cons_append, if_true, if_false, reduceIte, Bool.false_eq_true, not_true_eq_false, not_false_eq_true, true_and, and_true, false_and, and_false, true_or, or_true,  Nat.reduceEqDiff, Nat.reduceAdd, Nat.reduceLeDiff]
theorem l_inX9_44_6 {d : Nat} {H : qH} (e : hN H = 50) {Q : Option (Option Value) → qH → Prop} : WP d mX9_init (5, 1110) 51 [some (.ref (44 : Nat))] [] H Q = WP d mX9_init (6, 1116) 59 [some (.ref (44 : Nat))] [] (nwR H 44 21) Q := by
  have c1 : ∀ t, akd t = some 11 → akd t = some (kd (hN H)).1 ∧ ¬ (6 : Int32) < 0 ∧ (6 : Int32).toNatClampNeg = (kd (hN H)).2 ∧ (kd (hN H)).2 ≤ 60000 := fun t ht => by rw [e, kA_50, kB_50]; exact ⟨ht, by decide, by decide, by decide⟩
  have c2 := c1 .int rfl
  have c3 : (kd (hN H)).2 = 6 := by rw [e]; exact kB_50
  have c4 : (kd (hN H)).1 = 11 := by rw [e]; exact kA_50
  simp (implicitDefEqProofs := false) only [rX9_init_51, rX9_init_51b, rX9_init_52, rX9_init_54, rX9_init_56, kA_44, kB_44, c2, c3, c4, nwR, pCX9_init, pSX9_init, pOX9_init, pLX9_init, kl_I, kl_J, kl_R, kl_T, kl_N, Nat.le_refl, Nat.zero_le, List.map_nil, List.map_cons, List.sum_nil, List.sum_cons, c_I, c_J, c_R, c_T, va_rf, hI_wI, hJ_wJ, hR_wR, hI_J, hI_R, hJ_I, hJ_R, hR_I, hR_J, hN_I, hN_J, hN_R, wI_I, wJ_J, upd_at, updL_at, kR_s, Option.toList, List.append_nil, List.nil_append, List.cons_append, if_true, if_false, reduceIte, Bool.false_eq_true, not_true_eq_false, not_false_eq_true, true_and, and_true, false_and, and_false, true_or, or_true,  Nat.reduceEqDiff, Nat.reduceAdd, Nat.reduceLeDiff]
theorem l_inX9_44_7 {d : Nat} {H : qH} {Q : Option (Option Value) → qH → Prop} : WP d mX9_init (6, 1116) 59 [some (.ref (44 : Nat))] [] H Q = WP d mX9_init (6, 1116) 64 [some (.ref (44 : Nat))] [] (wI H 44 (upd (hI H 44) 22 (-1))) Q := by
  simp (implicitDefEqProofs := false) only [rX9_init_59, rX9_init_59b, rX9_init_60, rX9_init_61, kA_44, kB_44, pCX9_init, pSX9_init, pOX9_init, pLX9_init, kl_I, kl_J, kl_R, kl_T, kl_N, Nat.le_refl, Nat.zero_le, List.map_nil, List.map_cons, List.sum_nil, List.sum_cons, c_I, c_J, c_R, c_T, va_rf, hI_wI, hJ_wJ, hR_wR, hI_J, hI_R, hJ_I, hJ_R, hR_I, hR_J, hN_I, hN_J, hN_R, wI_I, wJ_J, upd_at, updL_at, kR_s, Option.toList, List.append_nil, List.nil_append, List.cons_append, if_true, if_false, reduceIte, Bool.false_eq_true, not_true_eq_false, not_false_eq_true, true_and, and_true, false_and, and_false, true_or, or_true,  Nat.reduceEqDiff, Nat.reduceAdd, Nat.reduceLeDiff]
theorem l_inX9_44_8 {d : Nat} {H : qH} (e : hN H = 51) {Q : Option (Option Value) → qH → Prop} : WP d mX9_init (6, 1116) 64 [some (.ref (44 : Nat))] [] H Q = WP d mX9_init (7, 1126) 72 [some (.ref (44 : Nat))] [] (nwR H 44 23) Q := by
  have c1 : ∀ t, akd t = some 11 → akd t = some (kd (hN H)).1 ∧ ¬ (10 : Int32) < 0 ∧ (10 : Int32).toNatClampNeg = (kd (hN H)).2 ∧ (kd (hN H)).2 ≤ 60000 := fun t ht => by rw [e, kA_51, kB_51]; exact ⟨ht, by decide, by decide, by decide⟩
  have c2 := c1 .int rfl
  have c3 : (kd (hN H)).2 = 10 := by rw [e]; exact kB_51
  have c4 : (kd (hN H)).1 = 11 := by rw [e]; exact kA_51
  simp (implicitDefEqProofs := false) only [rX9_init_64, rX9_init_64b, rX9_init_65, rX9_init_67, rX9_init_69, kA_44, kB_44, c2, c3, c4, nwR, pCX9_init, pSX9_init, pOX9_init, pLX9_init, kl_I, kl_J, kl_R, kl_T, kl_N, Nat.le_refl, Nat.zero_le, List.map_nil, List.map_cons, List.sum_nil, List.sum_cons, c_I, c_J, c_R, c_T, va_rf, hI_wI, hJ_wJ, hR_wR, hI_J, hI_R, hJ_I, hJ_R, hR_I, hR_J, hN_I, hN_J, hN_R, wI_I, wJ_J, upd_at, updL_at, kR_s, Option.toList, List.append_nil, List.nil_append, List.cons_append, if_true, if_false, reduceIte, Bool.false_eq_true, not_true_eq_false, not_false_eq_true, true_and, and_true, false_and, and_false, true_or, or_true,  Nat.reduceEqDiff, Nat.reduceAdd, Nat.reduceLeDiff]
theorem l_inX9_44_9 {d : Nat} {H : qH} (e : hN H = 52) {Q : Option (Option Value) → qH → Prop} : WP d mX9_init (7, 1126) 72 [some (.ref (44 : Nat))] [] H Q = WP d mX9_init (8, 1130) 79 [some (.ref (44 : Nat))] [] (nwR H 44 24) Q := by
  have c1 : ∀ t, akd t = some 11 → akd t = some (kd (hN H)).1 ∧ ¬ (4 : Int32) < 0 ∧ (4 : Int32).toNatClampNeg = (kd (hN H)).2 ∧ (kd (hN H)).2 ≤ 60000 := fun t ht => by rw [e, kA_52, kB_52]; exact ⟨ht, by decide, by decide, by decide⟩
  have c2 := c1 .int rfl
  have c3 : (kd (hN H)).2 = 4 := by rw [e]; exact kB_52
  have c4 : (kd (hN H)).1 = 11 := by rw [e]; exact kA_52
  simp (implicitDefEqProofs := false) only [rX9_init_72, rX9_init_72b, rX9_init_73, rX9_init_74, rX9_init_76, kA_44, kB_44, c2, c3, c4, nwR, pCX9_init, pSX9_init, pOX9_init, pLX9_init, kl_I, kl_J, kl_R, kl_T, kl_N, Nat.le_refl, Nat.zero_le, List.map_nil, List.map_cons, List.sum_nil, List.sum_cons, c_I, c_J, c_R, c_T, va_rf, hI_wI, hJ_wJ, hR_wR, hI_J, hI_R, hJ_I, hJ_R, hR_I, hR_J, hN_I, hN_J, hN_R, wI_I, wJ_J, upd_at, updL_at, kR_s, Option.toList, List.append_nil, List.nil_append, List.cons_append, if_true, if_false, reduceIte, Bool.false_eq_true, not_true_eq_false, not_false_eq_true, true_and, and_true, false_and, and_false, true_or, or_true,  Nat.reduceEqDiff, Nat.reduceAdd, Nat.reduceLeDiff]
theorem l_inX9_44_10 {d : Nat} {H : qH} (e : hN H = 53) {Q : Option (Option Value) → qH → Prop} : WP d mX9_init (8, 1130) 79 [some (.ref (44 : Nat))] [] H Q = WP d mX9_init (9, 1767) 88 [some (.ref (44 : Nat))] [] (nwR H 44 25) Q := by
  have c1 : ∀ t, akd t = some 11 → akd t = some (kd (hN H)).1 ∧ ¬ (637 : Int32) < 0 ∧ (637 : Int32).toNatClampNeg = (kd (hN H)).2 ∧ (kd (hN H)).2 ≤ 60000 := fun t ht => by rw [e, kA_53, kB_53]; exact ⟨ht, by decide, by decide, by decide⟩
  have c2 := c1 .int rfl
  have c3 : (kd (hN H)).2 = 637 := by rw [e]; exact kB_53
  have c4 : (kd (hN H)).1 = 11 := by rw [e]; exact kA_53
  simp (implicitDefEqProofs := false) only [rX9_init_79, rX9_init_79b, rX9_init_80, rX9_init_83, rX9_init_85, kA_44, kB_44, c2, c3, c4, nwR, pCX9_init, pSX9_init, pOX9_init, pLX9_init, kl_I, kl_J, kl_R, kl_T, kl_N, Nat.le_refl, Nat.zero_le, List.map_nil, List.map_cons, List.sum_nil, List.sum_cons, c_I, c_J, c_R, c_T, va_rf, hI_wI, hJ_wJ, hR_wR, hI_J, hI_R, hJ_I, hJ_R, hR_I, hR_J, hN_I, hN_J, hN_R, wI_I, wJ_J, upd_at, updL_at, kR_s, Option.toList, List.append_nil, List.nil_append, List.cons_append, if_true, if_false, reduceIte, Bool.false_eq_true, not_true_eq_false, not_false_eq_true, true_and, and_true, false_and, and_false, true_or, or_true,  Nat.reduceEqDiff, Nat.reduceAdd, Nat.reduceLeDiff]
theorem l_inX9_44_11 {d : Nat} {H : qH} (e : hN H = 54) {Q : Option (Option Value) → qH → Prop} : WP d mX9_init (9, 1767) 88 [some (.ref (44 : Nat))] [] H Q = WP d mX9_init (10, 1773) 96 [some (.ref (44 : Nat))] [] (nwR H 44 29) Q := by
  have c1 : ∀ t, akd t = some 12 → akd t = some (kd (hN H)).1 ∧ ¬ (6 : Int32) < 0 ∧ (6 : Int32).toNatClampNeg = (kd (hN H)).2 ∧ (kd (hN H)).2 ≤ 60000 := fun t ht => by rw [e, kA_54, kB_54]; exact ⟨ht, by decide, by decide, by decide⟩
  have c2 := c1 .long rfl
  have c3 : (kd (hN H)).2 = 6 := by rw [e]; exact kB_54
  have c4 : (kd (hN H)).1 = 12 := by rw [e]; exact kA_54
  simp (implicitDefEqProofs := false) only [rX9_init_88, rX9_init_88b, rX9_init_89, rX9_init_91, rX9_init_93, kA_44, kB_44, c2, c3, c4, nwR, pCX9_init, pSX9_init, pOX9_init, pLX9_init, kl_I, kl_J, kl_R, kl_T, kl_N, Nat.le_refl, Nat.zero_le, List.map_nil, List.map_cons, List.sum_nil, List.sum_cons, c_I, c_J, c_R, c_T, va_rf, hI_wI, hJ_wJ, hR_wR, hI_J, hI_R, hJ_I, hJ_R, hR_I, hR_J, hN_I, hN_J, hN_R, wI_I, wJ_J, upd_at, updL_at, kR_s, Option.toList, List.append_nil, List.nil_append, List.cons_append, if_true, if_false, reduceIte, Bool.false_eq_true, not_true_eq_false, not_false_eq_true, true_and, and_true, false_and, and_false, true_or, or_true,  Nat.reduceEqDiff, Nat.reduceAdd, Nat.reduceLeDiff]
theorem l_inX9_44_12 {d : Nat} {H : qH} (e : hN H = 55) {Q : Option (Option Value) → qH → Prop} : WP d mX9_init (10, 1773) 96 [some (.ref (44 : Nat))] [] H Q = WP d mX9_init (11, 1779) 104 [some (.ref (44 : Nat))] [] (nwR H 44 33) Q := by
  have c1 : ∀ t, akd t = some 11 → akd t = some (kd (hN H)).1 ∧ ¬ (6 : Int32) < 0 ∧ (6 : Int32).toNatClampNeg = (kd (hN H)).2 ∧ (kd (hN H)).2 ≤ 60000 := fun t ht => by rw [e, kA_55, kB_55]; exact ⟨ht, by decide, by decide, by decide⟩
  have c2 := c1 .int rfl
  have c3 : (kd (hN H)).2 = 6 := by rw [e]; exact kB_55
  have c4 : (kd (hN H)).1 = 11 := by rw [e]; exact kA_55
  simp (implicitDefEqProofs := false) only [rX9_init_96, rX9_init_96b, rX9_init_97, rX9_init_99, rX9_init_101, kA_44, kB_44, c2, c3, c4, nwR, pCX9_init, pSX9_init, pOX9_init, pLX9_init, kl_I, kl_J, kl_R, kl_T, kl_N, Nat.le_refl, Nat.zero_le, List.map_nil, List.map_cons, List.sum_nil, List.sum_cons, c_I, c_J, c_R, c_T, va_rf, hI_wI, hJ_wJ, hR_wR, hI_J, hI_R, hJ_I, hJ_R, hR_I, hR_J, hN_I, hN_J, hN_R, wI_I, wJ_J, upd_at, updL_at, kR_s, Option.toList, List.append_nil, List.nil_append, List.cons_append, if_true, if_false, reduceIte, Bool.false_eq_true, not_true_eq_false, not_false_eq_true, true_and, and_true, false_and, and_false, true_or, or_true,  Nat.reduceEqDiff, Nat.reduceAdd, Nat.reduceLeDiff]
theorem i_X9_44 {d : Nat} {g h : qH} {rs : List (Nat × Nat × Nat)} {is : List (Nat × Nat × Int32)} (f0 : FR g 45 rs is h) : ∃ h', (∀ Q, WM d mX9_init [.ref (44 : Nat)] h Q = Q (some none) h') ∧ FR g 56 ((44, 33, 55) :: (44, 29, 54) :: (44, 25, 53) :: (44, 24, 52) :: (44, 23, 51) :: (44, 21, 50) :: (44, 18, 49) :: (44, 17, 48) :: (44, 16, 47) :: (44, 15, 46) :: (44, 5, 45) :: rs) ((44, 22, -1) :: (44, 2, -1) :: is) h' := by
  have f1 := FR_I (i := 2) (v := -1) f0 (a := 44) (by decide)
  have f2 := FR_A (i := 5) f1 (a := 44) (by decide)
  have f3 := FR_A (i := 15) f2 (a := 44) (by decide)
  have f4 := FR_A (i := 16) f3 (a := 44) (by decide)
  have f5 := FR_A (i := 17) f4 (a := 44) (by decide)
  have f6 := FR_A (i := 18) f5 (a := 44) (by decide)
  have f7 := FR_A (i := 21) f6 (a := 44) (by decide)
  have f8 := FR_I (i := 22) (v := -1) f7 (a := 44) (by decide)
  have f9 := FR_A (i := 23) f8 (a := 44) (by decide)
  have f10 := FR_A (i := 24) f9 (a := 44) (by decide)
  have f11 := FR_A (i := 25) f10 (a := 44) (by decide)
  have f12 := FR_A (i := 29) f11 (a := 44) (by decide)
  have f13 := FR_A (i := 33) f12 (a := 44) (by decide)
  refine ⟨_, fun Q => ?_, f13⟩
  simp (implicitDefEqProofs := false) only [eX9_init, rX9_init_0, rX9_init_0b, rX9_init_1, kA_44, kB_44, pCX9_init, pSX9_init, pOX9_init, pLX9_init, kl_I, kl_J, kl_R, kl_T, kl_N, Nat.le_refl, Nat.zero_le, List.map_nil, List.map_cons, List.sum_nil, List.sum_cons, c_I, c_J, c_R, c_T, va_rf, hI_wI, hJ_wJ, hR_wR, hI_J, hI_R, hJ_I, hJ_R, hR_I, hR_J, hN_I, hN_J, hN_R, wI_I, wJ_J, upd_at, updL_at, kR_s, Option.toList, List.append_nil, List.nil_append, List.cons_append, if_true, if_false, reduceIte, Bool.false_eq_true, not_true_eq_false, not_false_eq_true, true_and, and_true, false_and, and_false, true_or, or_true,  Nat.reduceEqDiff, Nat.reduceAdd, Nat.reduceLeDiff]
  rw [l_inX9_44_0]
  rw [l_inX9_44_1 f1.1]
  rw [l_inX9_44_2 f2.1]
  rw [l_inX9_44_3 f3.1]
  rw [l_inX9_44_4 f4.1]
  rw [l_inX9_44_5 f5.1]
  rw [l_inX9_44_6 f6.1]
  rw [l_inX9_44_7]
  rw [l_inX9_44_8 f8.1]
  rw [l_inX9_44_9 f9.1]
  rw [l_inX9_44_10 f10.1]
  rw [l_inX9_44_11 f11.1]
  rw [l_inX9_44_12 f12.1]
  simp (implicitDefEqProofs := false) only [rX9_init_104, pCX9_init, pSX9_init, pOX9_init, pLX9_init, kl_I, kl_J, kl_R, kl_T, kl_N, Nat.le_refl, Nat.zero_le, List.map_nil, List.map_cons, List.sum_nil, List.sum_cons, c_I, c_J, c_R, c_T, va_rf, hI_wI, hJ_wJ, hR_wR, hI_J, hI_R, hJ_I, hJ_R, hR_I, hR_J, hN_I, hN_J, hN_R, wI_I, wJ_J, upd_at, updL_at, kR_s, Option.toList, List.append_nil, List.nil_append, List.cons_append, if_true, if_false, reduceIte, Bool.false_eq_true, not_true_eq_false, not_false_eq_true, true_and, and_true, false_and, and_false, true_or, or_true,  Nat.reduceEqDiff, Nat.reduceAdd, Nat.reduceLeDiff]
