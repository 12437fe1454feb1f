/-! ===== the law's own led; its loop ===== -/
def kO (o : Nat) (k : Int32 → qH → Prop) (r : Option (Option Value)) (h : qH) : Prop := match r with
  | none => k 1 h
  | some (some (.int v)) => k 0 (wJ h o (vp_updL (hJ h o) 0 v.toInt64))
  | _ => False
theorem kO_n {o : Nat} {k : Int32 → qH → Prop} {h : qH} : kO o k none h = k 1 h := rfl
theorem kO_s {o : Nat} {k : Int32 → qH → Prop} {v : Int32} {h : qH} : kO o k (some (some (.int v))) h = k 0 (wJ h o (vp_updL (hJ h o) 0 v.toInt64)) := rfl
theorem WP_callo {d o : Nat} {M N : qM} {u u' : Nat × Nat} {pc pc' : Nat} {ls ls' : qL} {st st' As : List Value} {h h' : qH} {Q : Option (Option Value) → qH → Prop} (e : stp M u pc ls st h = some (.inr (.inl (N, As, (u', pc', ls', st', h'), some o)))) : WP (d + 1) M u pc ls st h Q = WM d N As h' (kO o fun z h1 => WP (d + 1) M u' pc' ls' (.int z :: st') h1 Q) := by
  apply propext
  constructor
  · rintro ⟨n, r, h1, e1, q⟩
    cases n with
    | zero => simp [run] at e1
    | succ n =>
      rw [run] at e1
      simp only [e] at e1
      cases hr : run n d N ((0, 0), 0, la (mL N) As, [], h') with
      | none => rw [hr] at e1; simp at e1
      | some y =>
        rw [hr] at e1
        obtain ⟨r2, h2⟩ := y
        simp only at e1
        match r2, hr, e1 with
        | none, hr, e1 => exact ⟨n, none, h2, hr, n, r, h1, e1, q⟩
        | some (some (.int v)), hr, e1 => exact ⟨n, _, h2, hr, n, r, h1, e1, q⟩
        | some none, hr, e1 => simp [bck] at e1
        | some (some (.long v)), hr, e1 => simp [bck] at e1
        | some (some (.float v)), hr, e1 => simp [bck] at e1
        | some (some (.double v)), hr, e1 => simp [bck] at e1
        | some (some .null), hr, e1 => simp [bck] at e1
        | some (some (.ref v)), hr, e1 => simp [bck] at e1
        | some (some (.retAddr v)), hr, e1 => simp [bck] at e1
  · rintro ⟨n, r, h1, e1, q⟩
    have fin : ∀ z g, bck (u', pc', ls', st', h') (some o) r h1 = some (u', pc', ls', .int z :: st', g) → WP (d + 1) M u' pc' ls' (.int z :: st') g Q → WP (d + 1) M u pc ls st h Q := by
      rintro z g hb ⟨n2, r2, h2, e2, q2⟩
      refine ⟨max n n2 + 1, r2, h2, ?_, q2⟩
      rw [run]
      simp only [e]
      rw [run_le (Nat.le_max_left n n2) e1]
      simp only [hb]
      exact run_le (Nat.le_max_right n n2) e2
    match r, q, fin with
    | none, q, fin => exact fin 1 h1 rfl q
    | some (some (.int v)), q, fin => exact fin 0 _ rfl q
    | some none, q, fin => exact q.elim
    | some (some (.long v)), q, fin => exact q.elim
    | some (some (.float v)), q, fin => exact q.elim
    | some (some (.double v)), q, fin => exact q.elim
    | some (some .null), q, fin => exact q.elim
    | some (some (.ref v)), q, fin => exact q.elim
    | some (some (.retAddr v)), q, fin => exact q.elim
theorem rL_1463 {d a b : Nat} {ls : qL} {h : qH} {Q : Option (Option Value) → qH → Prop} {i : Int32} (ha : a + 1 ≤ 601024) (hb : b + 6 ≤ 7293034) : WP (d + 1) mL_law (a, b) 1463 ls [.ref (56 : Nat), .int i, .ref (0 : Nat)] h Q = WM d mX7_led [.ref (0 : Nat), .int i] h (kO 56 fun z h1 => WP (d + 1) mL_law (a + 1, b + 6) 1466 ls [.int z] h1 Q) := by
  refine WP_callo ?_
  rw [stp_of (M := mL_law) dL_law_1463 rfl]
  show cl2 mL_law mX7_led (a, b) 1463 ls [.ref (0 : Nat), .int i] [] h (some 56) = _
  unfold cl2
  exact if_pos ⟨ha, hb, by decide, show (2 : Nat) ≤ 4 by decide⟩
theorem LI_J {h : qH} {S : AS} {j L : Nat} {f : Nat → Int64} (I : LI h S j L) : LI (wJ h 56 f) S j L := ⟨I.1, I.2.1, I.2.2.1, I.2.2.2.1, I.2.2.2.2⟩
def LQ (d a b t i j L : Nat) (o5 o6 : Option Value) (h : qH) : Prop := ∃ h' S' x y j' o5' o6', x ≤ 13 ∧ y ≤ 92 ∧ j' ≤ j + 1 ∧ (∀ Q, WP (d + 13) mL_law (a, b) t [some (.retAddr (1000 : Nat)), some (.ref (0 : Nat)), some (.ref (44 : Nat)), some (.ref (56 : Nat)), some (.int (nI i)), o5, o6] [] h Q = WP (d + 13) mL_law (a + x, b + y) 1549 [some (.retAddr (1000 : Nat)), some (.ref (0 : Nat)), some (.ref (44 : Nat)), some (.ref (56 : Nat)), some (.int (nI i)), o5', o6'] [] h' Q) ∧ LI h' S' j' L
theorem LO_Q {d a b t i j L : Nat} {o5 o6 : Option Value} {h : qH} (o : LO d a b t i j L o5 o6 h) : LQ d a b t i j L o5 o6 h := by
  obtain ⟨h', S', n, o5', o6', hn, e, I⟩ := o
  exact ⟨h', S', 13 * n, 92 * n, j + n, o5', o6', by omega, by omega, by omega, e, I⟩
theorem lw_street {d a b i j L : Nat} {o5 o6 : Option Value} {h : qH} {S : AS} (I : LI h S j L) (hi : i + 6 ≤ L) (hL : L ≤ 3072) (ha : a + 13 ≤ 601024) (hb : b + 92 ≤ 7293034) (hj : j < 1000000) : LQ d a b 317 i j L o5 o6 h := by
  have ha0 : a ≤ 601024 := by omega
  have hb0 : b ≤ 7293034 := by omega
  have cL : (nI L).toNatClampNeg = L := nI_cl (by omega)
  have eL := I.2.2.2.1
  have w1 : (nI (i + 1)).toNatClampNeg = i + 1 := nI_cl (by omega)
  have v1 : vpB (nI (i + 1)) L = true := vB (by omega) hL
  obtain ⟨h1, e1, f1, I1⟩ := q_street (d := d) (y := hI h SCR (i + 1)) I.1
  obtain ⟨m, hm, h2, e2, c2, I2⟩ := m_street (d := d) (y := hI h SCR (i + 1)) (MI_cf I.2.1 f1 (CI_F I1)) ⟨j, by rw [f1.1]; exact I.2.2.1, hj⟩
  have eL1 : hI h1 (SCR + 1) 0 = nI L := by rw [(f1.2 (SCR + 1) (by unfold SCR; omega)).1]; exact eL
  have eS : hI h1 SCR = hI h SCR := (f1.2 SCR (by unfold SCR; omega)).1
  have K : ∀ Q, WP (d + 13) mL_law (a, b) 317 [some (.retAddr (1000 : Nat)), some (.ref (0 : Nat)), some (.ref (44 : Nat)), some (.ref (56 : Nat)), some (.int (nI i)), o5, o6] [] h Q = WP (d + 13) mL_law (a + 13, b + 92) 1549 [some (.retAddr (1000 : Nat)), some (.ref (0 : Nat)), some (.ref (44 : Nat)), some (.ref (56 : Nat)), some (.int (nI i)), o5, o6] [] h2 Q := fun Q => by
    simp (implicitDefEqProofs := false) only [rL_law_317, rL_law_317b, rL_law_318, rL_law_318b, rL_law_319, rL_law_321, rL_law_322, rL_law_323, rL_law_324, rL_law_327, rL_law_327b, rL_law_328, rL_law_328b, rL_law_329, rL_law_331, rL_law_332, rL_law_333, rL_law_334, rL_law_337, rL_law_340, rL_law_341, kA_0, kB_0, kA_44, kB_44, kA_56, kB_56, e1, e2, eL, eL1, eS, cL, w1, v1, nI_1, ha, hb, ha0, hb0, (by decide : (1000 : Nat) < 2000), Nat.add_zero, eq_self, pCL_law, pSL_law, pOL_law, pLL_law, pCX7_street, pSX7_street, pOX7_street, pLX7_street, pCX9_street, pSX9_street, pOX9_street, pLX9_street, kl_I, kl_J, kl_R, kl_T, kl_N, Nat.le_refl, Nat.zero_le, List.map_nil, List.map_cons, List.sum_nil, List.sum_cons, c_I, c_J, c_R, c_T, va_rf, hI_wI, hJ_wJ, hR_wR, hI_J, hI_R, hJ_I, hJ_R, hR_I, hR_J, hN_I, hN_J, hN_R, wI_I, wJ_J, upd_at, updL_at, kR_s, Option.toList, List.append_nil, List.nil_append, List.cons_append, if_true, if_false, reduceIte, Bool.false_eq_true, not_true_eq_false, not_false_eq_true, true_and, and_true, false_and, and_false, true_or, or_true,  Nat.reduceEqDiff, Nat.reduceAdd, Nat.reduceLeDiff]
    try rfl
  rcases hm with rfl | rfl
  · exact ⟨h2, _, 13, 92, j, o5, o6, by omega, by omega, by omega, K, LI_2 I f1 I1 c2 I2 (by omega) t7_sStreet⟩
  · exact ⟨h2, _, 13, 92, j + 1, o5, o6, by omega, by omega, by omega, K, LI_2 I f1 I1 c2 I2 (by omega) t7_sStreet⟩
theorem lw_led {d a b i j L : Nat} {o5 o6 : Option Value} {h : qH} {S : AS} (I : LI h S j L) (hi : i + 6 ≤ L) (hL : L ≤ 3072) (ha : a + 13 ≤ 601024) (hb : b + 92 ≤ 7293034) : LQ d a b 1455 i j L o5 o6 h := by
  have ha0 : a ≤ 601024 := by omega
  have hb0 : b ≤ 7293034 := by omega
  have cL : (nI L).toNatClampNeg = L := nI_cl (by omega)
  have eL := I.2.2.2.1
  have w1 : (nI (i + 1)).toNatClampNeg = i + 1 := nI_cl (by omega)
  have v1 : vpB (nI (i + 1)) L = true := vB (by omega) hL
  have ha1 : a + 1 ≤ 601024 := by omega
  have hb1 : b + 6 ≤ 7293034 := by omega
  have e1 := q_led (d := d + 11) (y := hI h SCR (i + 1)) I.1
  cases hl : sLed S (hI h SCR (i + 1)) with
  | none =>
    obtain ⟨h2, e2, c2, I2, t2⟩ := m_led (d := d + 2) (y := hI h SCR (i + 1)) I.2.1
    rw [hl] at e1 e2 t2
    have e3 := m_thrown (d := d + 12) (h := h2)
    rw [t2] at e3
    refine ⟨h2, S, 1, 6, j, some (.int 1), some (.int 0), by omega, by omega, by omega, fun Q => ?_, LI_2 I cf_refl I.1 c2 I2 (by omega) I.2.2.2.2⟩
    simp (implicitDefEqProofs := false) only [rL_law_1455, rL_law_1455b, rL_law_1456, rL_law_1456b, rL_law_1457, rL_law_1459, rL_law_1460, rL_law_1461, rL_law_1462, rL_law_1462b, rL_law_1466, rL_law_1468, rL_law_1468b, rL_law_1469, rL_law_1469b, rL_law_1470, rL_law_1472, rL_law_1473, rL_law_1474, rL_law_1475, rL_law_1478, rL_law_1480, rL_law_1480b, rL_law_1481, rL_law_1484, rL_law_1486, rL_law_1489, rL_law_1490, rL_law_1491, rL_law_1493, rL_law_1496, rL_law_1496b, rL_law_1497, rL_law_1498, rL_law_1499, rL_law_1501, rL_law_1502, rL_law_1503, rL_law_1506, rL_law_1507, rL_law_1508, rL_1463, kA_0, kB_0, kA_44, kB_44, kA_56, kB_56, e1, e2, e3, leR, ldV, ldT, kO_n, kO_s, show ¬ (1 : Int32) = 0 from by decide, eL, cL, w1, v1, nI_1, ha0, hb0, ha1, hb1, (by decide : (1000 : Nat) < 2000), Nat.add_zero, eq_self, pCL_law, pSL_law, pOL_law, pLL_law, pCX7_led, pSX7_led, pOX7_led, pLX7_led, pCX9_led, pSX9_led, pOX9_led, pLX9_led, pCX9_thrown, pSX9_thrown, pOX9_thrown, pLX9_thrown, kl_I, kl_J, kl_R, kl_T, kl_N, Nat.le_refl, Nat.zero_le, List.map_nil, List.map_cons, List.sum_nil, List.sum_cons, c_I, c_J, c_R, c_T, va_rf, hI_wI, hJ_wJ, hR_wR, hI_J, hI_R, hJ_I, hJ_R, hR_I, hR_J, hN_I, hN_J, hN_R, wI_I, wJ_J, upd_at, updL_at, kR_s, Option.toList, List.append_nil, List.nil_append, List.cons_append, if_true, if_false, reduceIte, Bool.false_eq_true, not_true_eq_false, not_false_eq_true, true_and, and_true, false_and, and_false, true_or, or_true,  Nat.reduceEqDiff, Nat.reduceAdd, Nat.reduceLeDiff]
    try rfl
  | some k =>
    have J := LI_J (f := vp_updL (hJ h 56) 0 (nI k).toInt64) I
    have f56 : hJ (wJ h 56 (vp_updL (hJ h 56) 0 (nI k).toInt64)) 56 0 = (nI k).toInt64 := by rw [hJ_wJ, if_pos rfl, updL_at, if_pos rfl]
    have eS : hI (wJ h 56 (vp_updL (hJ h 56) 0 (nI k).toInt64)) = hI h := rfl
    have g1 : ∀ Q : Option (Option Value) → qH → Prop, WP (d + 13) mL_law (a, b) 1455 [some (.retAddr (1000 : Nat)), some (.ref (0 : Nat)), some (.ref (44 : Nat)), some (.ref (56 : Nat)), some (.int (nI i)), o5, o6] [] h Q = WP (d + 13) mL_law (a + 1, b + 6) 1468 [some (.retAddr (1000 : Nat)), some (.ref (0 : Nat)), some (.ref (44 : Nat)), some (.ref (56 : Nat)), some (.int (nI i)), some (.int 0), o6] [] (wJ h 56 (vp_updL (hJ h 56) 0 (nI k).toInt64)) Q := fun Q => by
      rw [hl] at e1
      simp (implicitDefEqProofs := false) only [rL_law_1455, rL_law_1455b, rL_law_1456, rL_law_1456b, rL_law_1457, rL_law_1459, rL_law_1460, rL_law_1461, rL_law_1462, rL_law_1462b, rL_law_1466, rL_1463, kA_0, kB_0, kA_44, kB_44, kA_56, kB_56, e1, leR, ldV, ldT, kO_n, kO_s, show ¬ (1 : Int32) = 0 from by decide, eL, cL, w1, v1, nI_1, ha0, hb0, ha1, hb1, (by decide : (1000 : Nat) < 2000), Nat.add_zero, eq_self, pCL_law, pSL_law, pOL_law, pLL_law, pCX7_led, pSX7_led, pOX7_led, pLX7_led, pCX9_led, pSX9_led, pOX9_led, pLX9_led, pCX9_thrown, pSX9_thrown, pOX9_thrown, pLX9_thrown, kl_I, kl_J, kl_R, kl_T, kl_N, Nat.le_refl, Nat.zero_le, List.map_nil, List.map_cons, List.sum_nil, List.sum_cons, c_I, c_J, c_R, c_T, va_rf, hI_wI, hJ_wJ, hR_wR, hI_J, hI_R, hJ_I, hJ_R, hR_I, hR_J, hN_I, hN_J, hN_R, wI_I, wJ_J, upd_at, updL_at, kR_s, Option.toList, List.append_nil, List.nil_append, List.cons_append, if_true, if_false, reduceIte, Bool.false_eq_true, not_true_eq_false, not_false_eq_true, true_and, and_true, false_and, and_false, true_or, or_true,  Nat.reduceEqDiff, Nat.reduceAdd, Nat.reduceLeDiff]
      try rfl
    generalize wJ h 56 (vp_updL (hJ h 56) 0 (nI k).toInt64) = h1 at J f56 eS g1
    obtain ⟨h2, e2, c2, I2, t2⟩ := m_led (d := d + 2) (y := hI h SCR (i + 1)) J.2.1
    rw [hl] at e2 t2
    have e3 := m_thrown (d := d + 12) (h := h2)
    rw [t2] at e3
    have f2 : hJ h2 56 0 = (nI k).toInt64 := by rw [(c2.2 56 (.inr (.inl rfl))).2.1]; exact f56
    refine ⟨h2, S, 1, 6, j, some (.int 0), some (.int (nI k)), by omega, by omega, by omega, fun Q => ?_, LI_2 J cf_refl J.1 c2 I2 (by omega) I.2.2.2.2⟩
    rw [g1]
    have eL1 := J.2.2.2.1
    have vz : vp_in (0 : Int32) 1 := nI_vp (i := 0) (by decide) (by decide)
    have cz : (0 : Int32).toNatClampNeg = 0 := by decide
    simp (implicitDefEqProofs := false) only [rL_law_1468, rL_law_1468b, rL_law_1469, rL_law_1469b, rL_law_1470, rL_law_1472, rL_law_1473, rL_law_1474, rL_law_1475, rL_law_1478, rL_law_1480, rL_law_1480b, rL_law_1481, rL_law_1484, rL_law_1486, rL_law_1489, rL_law_1490, rL_law_1491, rL_law_1493, rL_law_1496, rL_law_1496b, rL_law_1497, rL_law_1498, rL_law_1499, rL_law_1501, rL_law_1502, rL_law_1503, rL_law_1506, rL_law_1507, rL_law_1508, rL_1463, kA_0, kB_0, kA_44, kB_44, kA_56, kB_56, e2, e3, eL1, eS, f2, vz, cz, lg_eq, leR, ldV, ldT, kO_n, kO_s, show ¬ (1 : Int32) = 0 from by decide, eL, cL, w1, v1, nI_1, ha0, hb0, ha1, hb1, (by decide : (1000 : Nat) < 2000), Nat.add_zero, eq_self, pCL_law, pSL_law, pOL_law, pLL_law, pCX7_led, pSX7_led, pOX7_led, pLX7_led, pCX9_led, pSX9_led, pOX9_led, pLX9_led, pCX9_thrown, pSX9_thrown, pOX9_thrown, pLX9_thrown, kl_I, kl_J, kl_R, kl_T, kl_N, Nat.le_refl, Nat.zero_le, List.map_nil, List.map_cons, List.sum_nil, List.sum_cons, c_I, c_J, c_R, c_T, va_rf, hI_wI, hJ_wJ, hR_wR, hI_J, hI_R, hJ_I, hJ_R, hR_I, hR_J, hN_I, hN_J, hN_R, wI_I, wJ_J, upd_at, updL_at, kR_s, Option.toList, List.append_nil, List.nil_append, List.cons_append, if_true, if_false, reduceIte, Bool.false_eq_true, not_true_eq_false, not_false_eq_true, true_and, and_true, false_and, and_false, true_or, or_true,  Nat.reduceEqDiff, Nat.reduceAdd, Nat.reduceLeDiff]
    try rfl
