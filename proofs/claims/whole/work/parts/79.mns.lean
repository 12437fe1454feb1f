/-! ===== the model: a new street ===== -/
theorem hN_w9 {h : qH} : hN (wN h) = hN h + 1 := rfl
theorem hI_w9 {h : qH} {b : Nat} : hI (wN h) b = if b = hN h then (fun _ => 0) else hI h b := rfl
theorem hJ_w9 {h : qH} {b : Nat} : hJ (wN h) b = if b = hN h then (fun _ => 0) else hJ h b := rfl
theorem hR_w9 {h : qH} {b : Nat} : hR (wN h) b = if b = hN h then (fun _ => none) else hR h b := rfl
def nwR (H : qH) (s f : Nat) : qH := wR (wN H) s (va_up (hR (wN H) s) f (some (hN H)))
/-- a street, made in part -/
def NSt (h : qH) (s k : Nat) (H : qH) : Prop := hN H = s + 1 + k ∧ (∀ b, (b < s ∨ s + 1 + k ≤ b) → hI H b = hI h b ∧ hJ H b = hJ h b ∧ hR H b = hR h b) ∧ (∀ j, hI H s j = if j = 0 then -1 else 0) ∧ (∀ i, 1 ≤ i → i ≤ k → hI H (s + i) = fun _ => 0) ∧ ∀ i, i < k → hR H s (8 + i) = some (s + (i + 1))
theorem NSt_s {h H : qH} {s k : Nat} (n : NSt h s k H) : NSt h s (k + 1) (nwR H s (8 + k)) := by
  obtain ⟨n1, n2, n3, n4, n5⟩ := n
  refine ⟨by show hN H + 1 = _; omega, fun b hb => ?_, fun j => ?_, fun i h1 h2 => ?_, fun i hi => ?_⟩
  · unfold nwR
    rw [hI_R, hJ_R, hR_wR, if_neg (by omega), hI_w9, if_neg (by omega), hJ_w9, if_neg (by omega), hR_w9, if_neg (by omega)]
    exact n2 b (by omega)
  · unfold nwR
    rw [hI_R, hI_w9, if_neg (by omega)]
    exact n3 j
  · unfold nwR
    rw [hI_R, hI_w9]
    by_cases c : i = k + 1
    · rw [if_pos (by omega)]
    · rw [if_neg (by omega)]; exact n4 i h1 (by omega)
  · unfold nwR
    rw [hR_wR, if_pos rfl, vup_at]
    by_cases c : i = k
    · rw [if_pos (by omega), n1, c]; congr 1; omega
    · rw [if_neg (by omega), hR_w9, if_neg (by omega)]; exact n5 i (by omega)
theorem l_ni0 {d : Nat} {H : qH} {s : Nat} (hs : mst s) (e : hN H = s + 1) {Q : Option (Option Value) → qH → Prop} : WP d mX8_init (0, 0) 9 [some (.ref s)] [] H Q = WP d mX8_init (1, 6) 17 [some (.ref s)] [] (nwR H s 8) Q := by
  have k0 := kU0 hs
  have k1 := kU1 hs
  have k2 := kV1 hs
  have c1 : ∀ t, akd t = some 11 → akd t = some (kd (hN H)).1 ∧ ¬ (6 : Int32) < 0 ∧ (6 : Int32).toNatClampNeg = (kd (hN H)).2 ∧ (kd (hN H)).2 ≤ 60000 := fun t ht => by rw [e, k1, k2]; exact ⟨ht, by decide, by decide, by decide⟩
  have c2 := c1 .int rfl
  have c3 : (kd (hN H)).2 = 6 := by rw [e]; exact k2
  have c4 : (kd (hN H)).1 = 11 := by rw [e]; exact k1
  simp (implicitDefEqProofs := false) only [rX8_init_9, rX8_init_9b, rX8_init_10, rX8_init_12, rX8_init_14, k0, c2, c3, c4, nwR, pCX8_init, pSX8_init, pOX8_init, pLX8_init, kl_I, kl_J, kl_R, kl_T, kl_N, Nat.le_refl, Nat.zero_le, List.map_nil, List.map_cons, List.sum_nil, List.sum_cons, c_I, c_J, c_R, c_T, va_rf, hI_wI, hJ_wJ, hR_wR, hI_J, hI_R, hJ_I, hJ_R, hR_I, hR_J, hN_I, hN_J, hN_R, wI_I, wJ_J, upd_at, updL_at, kR_s, Option.toList, List.append_nil, List.nil_append, List.cons_append, if_true, if_false, reduceIte, Bool.false_eq_true, not_true_eq_false, not_false_eq_true, true_and, and_true, false_and, and_false, true_or, or_true,  Nat.reduceEqDiff, Nat.reduceAdd, Nat.reduceLeDiff]
theorem l_ni1 {d : Nat} {H : qH} {s : Nat} (hs : mst s) (e : hN H = s + 2) {Q : Option (Option Value) → qH → Prop} : WP d mX8_init (1, 6) 17 [some (.ref s)] [] H Q = WP d mX8_init (2, 12) 25 [some (.ref s)] [] (nwR H s 9) Q := by
  have k0 := kU0 hs
  have k1 := kU2 hs
  have k2 := kV2 hs
  have c1 : ∀ t, akd t = some 11 → akd t = some (kd (hN H)).1 ∧ ¬ (6 : Int32) < 0 ∧ (6 : Int32).toNatClampNeg = (kd (hN H)).2 ∧ (kd (hN H)).2 ≤ 60000 := fun t ht => by rw [e, k1, k2]; exact ⟨ht, by decide, by decide, by decide⟩
  have c2 := c1 .int rfl
  have c3 : (kd (hN H)).2 = 6 := by rw [e]; exact k2
  have c4 : (kd (hN H)).1 = 11 := by rw [e]; exact k1
  simp (implicitDefEqProofs := false) only [rX8_init_17, rX8_init_17b, rX8_init_18, rX8_init_20, rX8_init_22, k0, c2, c3, c4, nwR, pCX8_init, pSX8_init, pOX8_init, pLX8_init, kl_I, kl_J, kl_R, kl_T, kl_N, Nat.le_refl, Nat.zero_le, List.map_nil, List.map_cons, List.sum_nil, List.sum_cons, c_I, c_J, c_R, c_T, va_rf, hI_wI, hJ_wJ, hR_wR, hI_J, hI_R, hJ_I, hJ_R, hR_I, hR_J, hN_I, hN_J, hN_R, wI_I, wJ_J, upd_at, updL_at, kR_s, Option.toList, List.append_nil, List.nil_append, List.cons_append, if_true, if_false, reduceIte, Bool.false_eq_true, not_true_eq_false, not_false_eq_true, true_and, and_true, false_and, and_false, true_or, or_true,  Nat.reduceEqDiff, Nat.reduceAdd, Nat.reduceLeDiff]
theorem l_ni2 {d : Nat} {H : qH} {s : Nat} (hs : mst s) (e : hN H = s + 3) {Q : Option (Option Value) → qH → Prop} : WP d mX8_init (2, 12) 25 [some (.ref s)] [] H Q = WP d mX8_init (3, 18) 33 [some (.ref s)] [] (nwR H s 10) Q := by
  have k0 := kU0 hs
  have k1 := kU3 hs
  have k2 := kV3 hs
  have c1 : ∀ t, akd t = some 11 → akd t = some (kd (hN H)).1 ∧ ¬ (6 : Int32) < 0 ∧ (6 : Int32).toNatClampNeg = (kd (hN H)).2 ∧ (kd (hN H)).2 ≤ 60000 := fun t ht => by rw [e, k1, k2]; exact ⟨ht, by decide, by decide, by decide⟩
  have c2 := c1 .int rfl
  have c3 : (kd (hN H)).2 = 6 := by rw [e]; exact k2
  have c4 : (kd (hN H)).1 = 11 := by rw [e]; exact k1
  simp (implicitDefEqProofs := false) only [rX8_init_25, rX8_init_25b, rX8_init_26, rX8_init_28, rX8_init_30, k0, c2, c3, c4, nwR, pCX8_init, pSX8_init, pOX8_init, pLX8_init, kl_I, kl_J, kl_R, kl_T, kl_N, Nat.le_refl, Nat.zero_le, List.map_nil, List.map_cons, List.sum_nil, List.sum_cons, c_I, c_J, c_R, c_T, va_rf, hI_wI, hJ_wJ, hR_wR, hI_J, hI_R, hJ_I, hJ_R, hR_I, hR_J, hN_I, hN_J, hN_R, wI_I, wJ_J, upd_at, updL_at, kR_s, Option.toList, List.append_nil, List.nil_append, List.cons_append, if_true, if_false, reduceIte, Bool.false_eq_true, not_true_eq_false, not_false_eq_true, true_and, and_true, false_and, and_false, true_or, or_true,  Nat.reduceEqDiff, Nat.reduceAdd, Nat.reduceLeDiff]
theorem l_ni3 {d : Nat} {H : qH} {s : Nat} (hs : mst s) (e : hN H = s + 4) {Q : Option (Option Value) → qH → Prop} : WP d mX8_init (3, 18) 33 [some (.ref s)] [] H Q = WP d mX8_init (4, 24) 41 [some (.ref s)] [] (nwR H s 11) Q := by
  have k0 := kU0 hs
  have k1 := kU4 hs
  have k2 := kV4 hs
  have c1 : ∀ t, akd t = some 11 → akd t = some (kd (hN H)).1 ∧ ¬ (6 : Int32) < 0 ∧ (6 : Int32).toNatClampNeg = (kd (hN H)).2 ∧ (kd (hN H)).2 ≤ 60000 := fun t ht => by rw [e, k1, k2]; exact ⟨ht, by decide, by decide, by decide⟩
  have c2 := c1 .int rfl
  have c3 : (kd (hN H)).2 = 6 := by rw [e]; exact k2
  have c4 : (kd (hN H)).1 = 11 := by rw [e]; exact k1
  simp (implicitDefEqProofs := false) only [rX8_init_33, rX8_init_33b, rX8_init_34, rX8_init_36, rX8_init_38, k0, c2, c3, c4, nwR, pCX8_init, pSX8_init, pOX8_init, pLX8_init, kl_I, kl_J, kl_R, kl_T, kl_N, Nat.le_refl, Nat.zero_le, List.map_nil, List.map_cons, List.sum_nil, List.sum_cons, c_I, c_J, c_R, c_T, va_rf, hI_wI, hJ_wJ, hR_wR, hI_J, hI_R, hJ_I, hJ_R, hR_I, hR_J, hN_I, hN_J, hN_R, wI_I, wJ_J, upd_at, updL_at, kR_s, Option.toList, List.append_nil, List.nil_append, List.cons_append, if_true, if_false, reduceIte, Bool.false_eq_true, not_true_eq_false, not_false_eq_true, true_and, and_true, false_and, and_false, true_or, or_true,  Nat.reduceEqDiff, Nat.reduceAdd, Nat.reduceLeDiff]
theorem l_ni4 {d : Nat} {H : qH} {s : Nat} (hs : mst s) (e : hN H = s + 5) {Q : Option (Option Value) → qH → Prop} : WP d mX8_init (4, 24) 41 [some (.ref s)] [] H Q = WP d mX8_init (5, 33) 49 [some (.ref s)] [] (nwR H s 12) Q := by
  have k0 := kU0 hs
  have k1 := kU5 hs
  have k2 := kV5 hs
  have c1 : ∀ t, akd t = some 11 → akd t = some (kd (hN H)).1 ∧ ¬ (9 : Int32) < 0 ∧ (9 : Int32).toNatClampNeg = (kd (hN H)).2 ∧ (kd (hN H)).2 ≤ 60000 := fun t ht => by rw [e, k1, k2]; exact ⟨ht, by decide, by decide, by decide⟩
  have c2 := c1 .int rfl
  have c3 : (kd (hN H)).2 = 9 := by rw [e]; exact k2
  have c4 : (kd (hN H)).1 = 11 := by rw [e]; exact k1
  simp (implicitDefEqProofs := false) only [rX8_init_41, rX8_init_41b, rX8_init_42, rX8_init_44, rX8_init_46, k0, c2, c3, c4, nwR, pCX8_init, pSX8_init, pOX8_init, pLX8_init, kl_I, kl_J, kl_R, kl_T, kl_N, Nat.le_refl, Nat.zero_le, List.map_nil, List.map_cons, List.sum_nil, List.sum_cons, c_I, c_J, c_R, c_T, va_rf, hI_wI, hJ_wJ, hR_wR, hI_J, hI_R, hJ_I, hJ_R, hR_I, hR_J, hN_I, hN_J, hN_R, wI_I, wJ_J, upd_at, updL_at, kR_s, Option.toList, List.append_nil, List.nil_append, List.cons_append, if_true, if_false, reduceIte, Bool.false_eq_true, not_true_eq_false, not_false_eq_true, true_and, and_true, false_and, and_false, true_or, or_true,  Nat.reduceEqDiff, Nat.reduceAdd, Nat.reduceLeDiff]
theorem l_ni5 {d : Nat} {H : qH} {s : Nat} (hs : mst s) (e : hN H = s + 6) {Q : Option (Option Value) → qH → Prop} : WP d mX8_init (5, 33) 49 [some (.ref s)] [] H Q = WP d mX8_init (6, 42) 57 [some (.ref s)] [] (nwR H s 13) Q := by
  have k0 := kU0 hs
  have k1 := kU6 hs
  have k2 := kV6 hs
  have c1 : ∀ t, akd t = some 11 → akd t = some (kd (hN H)).1 ∧ ¬ (9 : Int32) < 0 ∧ (9 : Int32).toNatClampNeg = (kd (hN H)).2 ∧ (kd (hN H)).2 ≤ 60000 := fun t ht => by rw [e, k1, k2]; exact ⟨ht, by decide, by decide, by decide⟩
  have c2 := c1 .int rfl
  have c3 : (kd (hN H)).2 = 9 := by rw [e]; exact k2
  have c4 : (kd (hN H)).1 = 11 := by rw [e]; exact k1
  simp (implicitDefEqProofs := false) only [rX8_init_49, rX8_init_49b, rX8_init_50, rX8_init_52, rX8_init_54, k0, c2, c3, c4, nwR, pCX8_init, pSX8_init, pOX8_init, pLX8_init, kl_I, kl_J, kl_R, kl_T, kl_N, Nat.le_refl, Nat.zero_le, List.map_nil, List.map_cons, List.sum_nil, List.sum_cons, c_I, c_J, c_R, c_T, va_rf, hI_wI, hJ_wJ, hR_wR, hI_J, hI_R, hJ_I, hJ_R, hR_I, hR_J, hN_I, hN_J, hN_R, wI_I, wJ_J, upd_at, updL_at, kR_s, Option.toList, List.append_nil, List.nil_append, List.cons_append, if_true, if_false, reduceIte, Bool.false_eq_true, not_true_eq_false, not_false_eq_true, true_and, and_true, false_and, and_false, true_or, or_true,  Nat.reduceEqDiff, Nat.reduceAdd, Nat.reduceLeDiff]
theorem l_ni6 {d : Nat} {H : qH} {s : Nat} (hs : mst s) (e : hN H = s + 7) {Q : Option (Option Value) → qH → Prop} : WP d mX8_init (6, 42) 57 [some (.ref s)] [] H Q = WP d mX8_init (7, 51) 65 [some (.ref s)] [] (nwR H s 14) Q := by
  have k0 := kU0 hs
  have k1 := kU7 hs
  have k2 := kV7 hs
  have c1 : ∀ t, akd t = some 11 → akd t = some (kd (hN H)).1 ∧ ¬ (9 : Int32) < 0 ∧ (9 : Int32).toNatClampNeg = (kd (hN H)).2 ∧ (kd (hN H)).2 ≤ 60000 := fun t ht => by rw [e, k1, k2]; exact ⟨ht, by decide, by decide, by decide⟩
  have c2 := c1 .int rfl
  have c3 : (kd (hN H)).2 = 9 := by rw [e]; exact k2
  have c4 : (kd (hN H)).1 = 11 := by rw [e]; exact k1
  simp (implicitDefEqProofs := false) only [rX8_init_57, rX8_init_57b, rX8_init_58, rX8_init_60, rX8_init_62, k0, c2, c3, c4, nwR, pCX8_init, pSX8_init, pOX8_init, pLX8_init, kl_I, kl_J, kl_R, kl_T, kl_N, Nat.le_refl, Nat.zero_le, List.map_nil, List.map_cons, List.sum_nil, List.sum_cons, c_I, c_J, c_R, c_T, va_rf, hI_wI, hJ_wJ, hR_wR, hI_J, hI_R, hJ_I, hJ_R, hR_I, hR_J, hN_I, hN_J, hN_R, wI_I, wJ_J, upd_at, updL_at, kR_s, Option.toList, List.append_nil, List.nil_append, List.cons_append, if_true, if_false, reduceIte, Bool.false_eq_true, not_true_eq_false, not_false_eq_true, true_and, and_true, false_and, and_false, true_or, or_true,  Nat.reduceEqDiff, Nat.reduceAdd, Nat.reduceLeDiff]
theorem l_ni7 {d : Nat} {H : qH} {s : Nat} (hs : mst s) (e : hN H = s + 8) {Q : Option (Option Value) → qH → Prop} : WP d mX8_init (7, 51) 65 [some (.ref s)] [] H Q = WP d mX8_init (8, 55) 72 [some (.ref s)] [] (nwR H s 15) Q := by
  have k0 := kU0 hs
  have k1 := kU8 hs
  have k2 := kV8 hs
  have c1 : ∀ t, akd t = some 11 → akd t = some (kd (hN H)).1 ∧ ¬ (4 : Int32) < 0 ∧ (4 : Int32).toNatClampNeg = (kd (hN H)).2 ∧ (kd (hN H)).2 ≤ 60000 := fun t ht => by rw [e, k1, k2]; exact ⟨ht, by decide, by decide, by decide⟩
  have c2 := c1 .int rfl
  have c3 : (kd (hN H)).2 = 4 := by rw [e]; exact k2
  have c4 : (kd (hN H)).1 = 11 := by rw [e]; exact k1
  simp (implicitDefEqProofs := false) only [rX8_init_65, rX8_init_65b, rX8_init_66, rX8_init_67, rX8_init_69, k0, c2, c3, c4, nwR, pCX8_init, pSX8_init, pOX8_init, pLX8_init, kl_I, kl_J, kl_R, kl_T, kl_N, Nat.le_refl, Nat.zero_le, List.map_nil, List.map_cons, List.sum_nil, List.sum_cons, c_I, c_J, c_R, c_T, va_rf, hI_wI, hJ_wJ, hR_wR, hI_J, hI_R, hJ_I, hJ_R, hR_I, hR_J, hN_I, hN_J, hN_R, wI_I, wJ_J, upd_at, updL_at, kR_s, Option.toList, List.append_nil, List.nil_append, List.cons_append, if_true, if_false, reduceIte, Bool.false_eq_true, not_true_eq_false, not_false_eq_true, true_and, and_true, false_and, and_false, true_or, or_true,  Nat.reduceEqDiff, Nat.reduceAdd, Nat.reduceLeDiff]
theorem l_ni8 {d : Nat} {H : qH} {s : Nat} (hs : mst s) (e : hN H = s + 9) {Q : Option (Option Value) → qH → Prop} : WP d mX8_init (8, 55) 72 [some (.ref s)] [] H Q = WP d mX8_init (9, 57) 79 [some (.ref s)] [] (nwR H s 16) Q := by
  have k0 := kU0 hs
  have k1 := kU9 hs
  have k2 := kV9 hs
  have c1 : ∀ t, akd t = some 11 → akd t = some (kd (hN H)).1 ∧ ¬ (2 : Int32) < 0 ∧ (2 : Int32).toNatClampNeg = (kd (hN H)).2 ∧ (kd (hN H)).2 ≤ 60000 := fun t ht => by rw [e, k1, k2]; exact ⟨ht, by decide, by decide, by decide⟩
  have c2 := c1 .int rfl
  have c3 : (kd (hN H)).2 = 2 := by rw [e]; exact k2
  have c4 : (kd (hN H)).1 = 11 := by rw [e]; exact k1
  simp (implicitDefEqProofs := false) only [rX8_init_72, rX8_init_72b, rX8_init_73, rX8_init_74, rX8_init_76, k0, c2, c3, c4, nwR, pCX8_init, pSX8_init, pOX8_init, pLX8_init, kl_I, kl_J, kl_R, kl_T, kl_N, Nat.le_refl, Nat.zero_le, List.map_nil, List.map_cons, List.sum_nil, List.sum_cons, c_I, c_J, c_R, c_T, va_rf, hI_wI, hJ_wJ, hR_wR, hI_J, hI_R, hJ_I, hJ_R, hR_I, hR_J, hN_I, hN_J, hN_R, wI_I, wJ_J, upd_at, updL_at, kR_s, Option.toList, List.append_nil, List.nil_append, List.cons_append, if_true, if_false, reduceIte, Bool.false_eq_true, not_true_eq_false, not_false_eq_true, true_and, and_true, false_and, and_false, true_or, or_true,  Nat.reduceEqDiff, Nat.reduceAdd, Nat.reduceLeDiff]
theorem l_ni9 {d : Nat} {H : qH} {s : Nat} (hs : mst s) (e : hN H = s + 10) {Q : Option (Option Value) → qH → Prop} : WP d mX8_init (9, 57) 79 [some (.ref s)] [] H Q = WP d mX8_init (10, 61) 86 [some (.ref s)] [] (nwR H s 17) Q := by
  have k0 := kU0 hs
  have k1 := kU10 hs
  have k2 := kV10 hs
  have c1 : ∀ t, akd t = some 11 → akd t = some (kd (hN H)).1 ∧ ¬ (4 : Int32) < 0 ∧ (4 : Int32).toNatClampNeg = (kd (hN H)).2 ∧ (kd (hN H)).2 ≤ 60000 := fun t ht => by rw [e, k1, k2]; exact ⟨ht, by decide, by decide, by decide⟩
  have c2 := c1 .int rfl
  have c3 : (kd (hN H)).2 = 4 := by rw [e]; exact k2
  have c4 : (kd (hN H)).1 = 11 := by rw [e]; exact k1
  simp (implicitDefEqProofs := false) only [rX8_init_79, rX8_init_79b, rX8_init_80, rX8_init_81, rX8_init_83, k0, c2, c3, c4, nwR, pCX8_init, pSX8_init, pOX8_init, pLX8_init, kl_I, kl_J, kl_R, kl_T, kl_N, Nat.le_refl, Nat.zero_le, List.map_nil, List.map_cons, List.sum_nil, List.sum_cons, c_I, c_J, c_R, c_T, va_rf, hI_wI, hJ_wJ, hR_wR, hI_J, hI_R, hJ_I, hJ_R, hR_I, hR_J, hN_I, hN_J, hN_R, wI_I, wJ_J, upd_at, updL_at, kR_s, Option.toList, List.append_nil, List.nil_append, List.cons_append, if_true, if_false, reduceIte, Bool.false_eq_true, not_true_eq_false, not_false_eq_true, true_and, and_true, false_and, and_false, true_or, or_true,  Nat.reduceEqDiff, Nat.reduceAdd, Nat.reduceLeDiff]
theorem l_ni10 {d : Nat} {H : qH} {s : Nat} (hs : mst s) (e : hN H = s + 11) {Q : Option (Option Value) → qH → Prop} : WP d mX8_init (10, 61) 86 [some (.ref s)] [] H Q = WP d mX8_init (11, 65) 93 [some (.ref s)] [] (nwR H s 18) Q := by
  have k0 := kU0 hs
  have k1 := kU11 hs
  have k2 := kV11 hs
  have c1 : ∀ t, akd t = some 11 → akd t = some (kd (hN H)).1 ∧ ¬ (4 : Int32) < 0 ∧ (4 : Int32).toNatClampNeg = (kd (hN H)).2 ∧ (kd (hN H)).2 ≤ 60000 := fun t ht => by rw [e, k1, k2]; exact ⟨ht, by decide, by decide, by decide⟩
  have c2 := c1 .int rfl
  have c3 : (kd (hN H)).2 = 4 := by rw [e]; exact k2
  have c4 : (kd (hN H)).1 = 11 := by rw [e]; exact k1
  simp (implicitDefEqProofs := false) only [rX8_init_86, rX8_init_86b, rX8_init_87, rX8_init_88, rX8_init_90, k0, c2, c3, c4, nwR, pCX8_init, pSX8_init, pOX8_init, pLX8_init, kl_I, kl_J, kl_R, kl_T, kl_N, Nat.le_refl, Nat.zero_le, List.map_nil, List.map_cons, List.sum_nil, List.sum_cons, c_I, c_J, c_R, c_T, va_rf, hI_wI, hJ_wJ, hR_wR, hI_J, hI_R, hJ_I, hJ_R, hR_I, hR_J, hN_I, hN_J, hN_R, wI_I, wJ_J, upd_at, updL_at, kR_s, Option.toList, List.append_nil, List.nil_append, List.cons_append, if_true, if_false, reduceIte, Bool.false_eq_true, not_true_eq_false, not_false_eq_true, true_and, and_true, false_and, and_false, true_or, or_true,  Nat.reduceEqDiff, Nat.reduceAdd, Nat.reduceLeDiff]
theorem l_ni11 {d : Nat} {H : qH} {s : Nat} (hs : mst s) (e : hN H = s + 12) {Q : Option (Option Value) → qH → Prop} : WP d mX8_init (11, 65) 93 [some (.ref s)] [] H Q = WP d mX8_init (12, 71) 101 [some (.ref s)] [] (nwR H s 19) Q := by
  have k0 := kU0 hs
  have k1 := kU12 hs
  have k2 := kV12 hs
  have c1 : ∀ t, akd t = some 12 → akd t = some (kd (hN H)).1 ∧ ¬ (6 : Int32) < 0 ∧ (6 : Int32).toNatClampNeg = (kd (hN H)).2 ∧ (kd (hN H)).2 ≤ 60000 := fun t ht => by rw [e, k1, k2]; exact ⟨ht, by decide, by decide, by decide⟩
  have c2 := c1 .long rfl
  have c3 : (kd (hN H)).2 = 6 := by rw [e]; exact k2
  have c4 : (kd (hN H)).1 = 12 := by rw [e]; exact k1
  simp (implicitDefEqProofs := false) only [rX8_init_93, rX8_init_93b, rX8_init_94, rX8_init_96, rX8_init_98, k0, c2, c3, c4, nwR, pCX8_init, pSX8_init, pOX8_init, pLX8_init, kl_I, kl_J, kl_R, kl_T, kl_N, Nat.le_refl, Nat.zero_le, List.map_nil, List.map_cons, List.sum_nil, List.sum_cons, c_I, c_J, c_R, c_T, va_rf, hI_wI, hJ_wJ, hR_wR, hI_J, hI_R, hJ_I, hJ_R, hR_I, hR_J, hN_I, hN_J, hN_R, wI_I, wJ_J, upd_at, updL_at, kR_s, Option.toList, List.append_nil, List.nil_append, List.cons_append, if_true, if_false, reduceIte, Bool.false_eq_true, not_true_eq_false, not_false_eq_true, true_and, and_true, false_and, and_false, true_or, or_true,  Nat.reduceEqDiff, Nat.reduceAdd, Nat.reduceLeDiff]
theorem c_newS {d : Nat} {h : qH} (hs : mst (hN h)) : ∃ H, (∀ Q, WM d mX8_init [.ref (hN h)] (wN h) Q = Q (some none) H) ∧ NSt h (hN h) 12 H := by
  generalize es : hN h = s at hs ⊢
  have n0 : NSt h s 0 (wI (wN h) s (upd (hI (wN h) s) 0 (-1))) := by
    refine ⟨by show hN h + 1 = _; omega, fun b hb => ?_, fun j => ?_, fun i h1 h2 => by omega, fun i hi => by omega⟩
    · rw [hI_wI, if_neg (by omega), hJ_I, hR_I, hI_w9, if_neg (by omega), hJ_w9, if_neg (by omega), hR_w9, if_neg (by omega)]
      exact ⟨rfl, rfl, rfl⟩
    · rw [hI_wI, if_pos rfl, upd_at, hI_w9, if_pos es.symm]
  have n1 := NSt_s n0
  have n2 := NSt_s n1
  have n3 := NSt_s n2
  have n4 := NSt_s n3
  have n5 := NSt_s n4
  have n6 := NSt_s n5
  have n7 := NSt_s n6
  have n8 := NSt_s n7
  have n9 := NSt_s n8
  have n10 := NSt_s n9
  have n11 := NSt_s n10
  have n12 := NSt_s n11
  refine ⟨_, fun Q => ?_, n12⟩
  have k0 := kU0 hs
  simp (implicitDefEqProofs := false) only [eX8_init, rX8_init_0, rX8_init_0b, rX8_init_1, rX8_init_4, rX8_init_4b, rX8_init_5, rX8_init_6, k0, pCX8_init, pSX8_init, pOX8_init, pLX8_init, kl_I, kl_J, kl_R, kl_T, kl_N, Nat.le_refl, Nat.zero_le, List.map_nil, List.map_cons, List.sum_nil, List.sum_cons, c_I, c_J, c_R, c_T, va_rf, hI_wI, hJ_wJ, hR_wR, hI_J, hI_R, hJ_I, hJ_R, hR_I, hR_J, hN_I, hN_J, hN_R, wI_I, wJ_J, upd_at, updL_at, kR_s, Option.toList, List.append_nil, List.nil_append, List.cons_append, if_true, if_false, reduceIte, Bool.false_eq_true, not_true_eq_false, not_false_eq_true, true_and, and_true, false_and, and_false, true_or, or_true,  Nat.reduceEqDiff, Nat.reduceAdd, Nat.reduceLeDiff]
  rw [l_ni0 hs (by rw [n0.1])]
  rw [l_ni1 hs (by rw [n1.1])]
  rw [l_ni2 hs (by rw [n2.1])]
  rw [l_ni3 hs (by rw [n3.1])]
  rw [l_ni4 hs (by rw [n4.1])]
  rw [l_ni5 hs (by rw [n5.1])]
  rw [l_ni6 hs (by rw [n6.1])]
  rw [l_ni7 hs (by rw [n7.1])]
  rw [l_ni8 hs (by rw [n8.1])]
  rw [l_ni9 hs (by rw [n9.1])]
  rw [l_ni10 hs (by rw [n10.1])]
  rw [l_ni11 hs (by rw [n11.1])]
  simp (implicitDefEqProofs := false) only [rX8_init_101, pCX8_init, pSX8_init, pOX8_init, pLX8_init, kl_I, kl_J, kl_R, kl_T, kl_N, Nat.le_refl, Nat.zero_le, List.map_nil, List.map_cons, List.sum_nil, List.sum_cons, c_I, c_J, c_R, c_T, va_rf, hI_wI, hJ_wJ, hR_wR, hI_J, hI_R, hJ_I, hJ_R, hR_I, hR_J, hN_I, hN_J, hN_R, wI_I, wJ_J, upd_at, updL_at, kR_s, Option.toList, List.append_nil, List.nil_append, List.cons_append, if_true, if_false, reduceIte, Bool.false_eq_true, not_true_eq_false, not_false_eq_true, true_and, and_true, false_and, and_false, true_or, or_true,  Nat.reduceEqDiff, Nat.reduceAdd, Nat.reduceLeDiff]
theorem mRd_0 {h H H2 : qH} {s : Nat} (hs : mst s) (n : NSt h s 12 H) (r : hR H2 s = hR H s) (e : ∀ k, k ≤ 12 → hI H2 (s + k) = hI H (s + k)) : mRd H2 s (a0, fun _ => 0, false) := by
  obtain ⟨n1, n2, n3, n4, n5⟩ := n
  have e0 : hI H2 s = hI H s := e 0 (by omega)
  have z0 : ∀ j, j ≠ 0 → hI H2 s j = 0 := fun j hj => by rw [e0, n3 j, if_neg hj]
  refine ⟨hs, fun k hk => by rw [r]; exact n5 k hk, aW_0, ⟨?_, ?_, ?_, ?_, ?_, ?_, ?_, ?_, ?_⟩, fun j hj => absurd hj (Nat.not_lt_zero j), fun j hj => absurd hj (Nat.not_lt_zero j), fun j hj => absurd hj (Nat.not_lt_zero j), fun j hj => absurd hj (Nat.not_lt_zero j), fun j hj => absurd hj (Nat.not_lt_zero j), fun j hj => absurd hj (Nat.not_lt_zero j), fun j _ hj => ?_, fun _ => ⟨rfl, rfl, rfl, rfl, rfl⟩⟩
  · rw [e0, n3 0, if_pos rfl]; rfl
  · rw [z0 1 (by decide)]; rfl
  · rw [z0 2 (by decide)]; rfl
  · rw [z0 3 (by decide)]; rfl
  · rw [z0 4 (by decide)]; rfl
  · rw [z0 5 (by decide)]; rfl
  · rw [z0 6 (by decide)]; rfl
  · rw [z0 7 (by decide)]; rfl
  · rw [z0 20 (by decide)]; rfl
  · rw [e 4 (by omega), n4 4 (by omega) (by omega)]
theorem prs_N {b : Nat → Nat} {n : Nat} : ∀ (k : Nat) (st : PS) (t : tK) (st' : PS), prs b n k st t = .inr st' → 0 < aN st'.1
  | 0, st, t, st', h => by cases h
  | k + 1, st, t, st', h => by
    rw [prs] at h
    obtain ⟨p, h1, h⟩ := bd_i h
    split at h
    · split at h
      · cases h; assumption
      · cases h
    · split at h
      · exact prs_N k _ _ _ h
      · cases h
theorem mSt_Rd {h : qH} {s : Nat} {st : PS} (r : mRd h s st) (h0 : 0 < aN st.1) : mSt h s st.1 := by
  obtain ⟨w1, w2, w3, ⟨u0, uu⟩, w5, w6, w7, w8, w9, w10, w11, w12⟩ := r
  have op : st.2.2 = true := by
    cases hc : st.2.2 with
    | true => rfl
    | false => have := (w12 hc).1; omega
  rw [if_pos op] at u0
  exact ⟨w1, w2, w3, ⟨u0, uu⟩, w5, w6, w7, w8, w9⟩
