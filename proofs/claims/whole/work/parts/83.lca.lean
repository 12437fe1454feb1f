theorem lw_feed {d a b i j L : Nat} {o5 o6 : Option Value} {h : qH} {S : AS} (I : LI h S j L) (hi : i + 6 ≤ L) (hL : L ≤ 3072) (ha : a + 13 ≤ 601024) (hb : b + 92 ≤ 7293034) : LO d a b 244 i j L o5 o6 h := by
  have ha0 : a ≤ 601024 := by omega
  have hb0 : b ≤ 7293034 := by omega
  have cL : (nI L).toNatClampNeg = L := nI_cl (by omega)
  have eL := I.2.2.2.1
  have w1 : (nI (i + 1)).toNatClampNeg = i + 1 := nI_cl (by omega)
  have v1 : vpB (nI (i + 1)) L = true := vB (by omega) hL
  have w2 : (nI (i + 2)).toNatClampNeg = i + 2 := nI_cl (by omega)
  have v2 : vpB (nI (i + 2)) L = true := vB (by omega) hL
  have w3 : (nI (i + 3)).toNatClampNeg = i + 3 := nI_cl (by omega)
  have v3 : vpB (nI (i + 3)) L = true := vB (by omega) hL
  have w4 : (nI (i + 4)).toNatClampNeg = i + 4 := nI_cl (by omega)
  have v4 : vpB (nI (i + 4)) L = true := vB (by omega) hL
  have w5 : (nI (i + 5)).toNatClampNeg = i + 5 := nI_cl (by omega)
  have v5 : vpB (nI (i + 5)) L = true := vB (by omega) hL
  obtain ⟨h1, e1, f1, I1⟩ := q_feed (d := d + 11) (a := hI h SCR (i + 1)) (b := hI h SCR (i + 2)) (c := hI h SCR (i + 3)) (e := hI h SCR (i + 4)) (f := hI h SCR (i + 5)) I.1
  obtain ⟨h2, e2, c2, I2⟩ := m_feed (D := d + 12) (a := hI h SCR (i + 1)) (b := hI h SCR (i + 2)) (c := hI h SCR (i + 3)) (d := hI h SCR (i + 4)) (e := hI h SCR (i + 5)) (MI_cf I.2.1 f1 (CI_F I1))
  refine ⟨h2, _, 0, o5, o6, by omega, fun Q => ?_, LI_2 I f1 I1 c2 I2 (by omega) (t7_sFeed I.2.2.2.2)⟩
  have eL1 : hI h1 (SCR + 1) 0 = nI L := by rw [(f1.2 (SCR + 1) (by unfold SCR; omega)).1]; exact eL
  have eS : hI h1 SCR = hI h SCR := (f1.2 SCR (by unfold SCR; omega)).1
  simp (implicitDefEqProofs := false) only [rL_law_244, rL_law_244b, rL_law_245, rL_law_245b, rL_law_246, rL_law_248, rL_law_249, rL_law_250, rL_law_251, rL_law_251b, rL_law_252, rL_law_254, rL_law_255, rL_law_256, rL_law_257, rL_law_257b, rL_law_258, rL_law_260, rL_law_261, rL_law_262, rL_law_263, rL_law_263b, rL_law_264, rL_law_266, rL_law_267, rL_law_268, rL_law_269, rL_law_269b, rL_law_270, rL_law_272, rL_law_273, rL_law_274, rL_law_275, rL_law_278, rL_law_278b, rL_law_279, rL_law_279b, rL_law_280, rL_law_282, rL_law_283, rL_law_284, rL_law_285, rL_law_285b, rL_law_286, rL_law_288, rL_law_289, rL_law_290, rL_law_291, rL_law_291b, rL_law_292, rL_law_294, rL_law_295, rL_law_296, rL_law_297, rL_law_297b, rL_law_298, rL_law_300, rL_law_301, rL_law_302, rL_law_303, rL_law_303b, rL_law_304, rL_law_306, rL_law_307, rL_law_308, rL_law_309, rL_law_312, rL_law_315, rL_law_316, kA_0, kB_0, kA_44, kB_44, kA_56, kB_56, e1, e2, eL, eL1, eS, cL, w1, v1, nI_1, w2, v2, nI_p2, w3, v3, nI_p3, w4, v4, nI_p4, w5, v5, nI_p5, ha0, hb0, (by decide : (1000 : Nat) < 2000), Nat.add_zero, eq_self, pCL_law, pSL_law, pOL_law, pLL_law, pCX7_feed, pSX7_feed, pOX7_feed, pLX7_feed, pCX9_feed, pSX9_feed, pOX9_feed, pLX9_feed, kl_I, kl_J, kl_R, kl_T, kl_N, Nat.le_refl, Nat.zero_le, List.map_nil, List.map_cons, List.sum_nil, List.sum_cons, c_I, c_J, c_R, c_T, va_rf, hI_wI, hJ_wJ, hR_wR, hI_J, hI_R, hJ_I, hJ_R, hR_I, hR_J, hN_I, hN_J, hN_R, wI_I, wJ_J, upd_at, updL_at, kR_s, Option.toList, List.append_nil, List.nil_append, List.cons_append, if_true, if_false, reduceIte, Bool.false_eq_true, not_true_eq_false, not_false_eq_true, true_and, and_true, false_and, and_false, true_or, or_true,  Nat.reduceEqDiff, Nat.reduceAdd, Nat.reduceLeDiff]
  try rfl
theorem lw_fault {d a b i j L : Nat} {o5 o6 : Option Value} {h : qH} {S : AS} (I : LI h S j L) (hi : i + 6 ≤ L) (hL : L ≤ 3072) (ha : a + 13 ≤ 601024) (hb : b + 92 ≤ 7293034) : LO d a b 342 i j L o5 o6 h := by
  have ha0 : a ≤ 601024 := by omega
  have hb0 : b ≤ 7293034 := by omega
  have cL : (nI L).toNatClampNeg = L := nI_cl (by omega)
  have eL := I.2.2.2.1
  have e1 := q_fault (d := d + 12) I.1
  obtain ⟨h2, e2, c2, I2⟩ := m_fault (d := d + 12) I.2.1
  refine ⟨h2, S, 0, o5, o6, by omega, fun Q => ?_, LI_2 I cf_refl I.1 c2 I2 (by omega) I.2.2.2.2⟩
  have eL1 := eL
  simp (implicitDefEqProofs := false) only [rL_law_342, rL_law_342b, rL_law_343, rL_law_346, rL_law_346b, rL_law_347, rL_law_350, rL_law_353, rL_law_354, kA_0, kB_0, kA_44, kB_44, kA_56, kB_56, e1, e2, ha0, hb0, (by decide : (1000 : Nat) < 2000), Nat.add_zero, eq_self, pCL_law, pSL_law, pOL_law, pLL_law, pCX7_fault, pSX7_fault, pOX7_fault, pLX7_fault, pCX9_fault, pSX9_fault, pOX9_fault, pLX9_fault, kl_I, kl_J, kl_R, kl_T, kl_N, Nat.le_refl, Nat.zero_le, List.map_nil, List.map_cons, List.sum_nil, List.sum_cons, c_I, c_J, c_R, c_T, va_rf, hI_wI, hJ_wJ, hR_wR, hI_J, hI_R, hJ_I, hJ_R, hR_I, hR_J, hN_I, hN_J, hN_R, wI_I, wJ_J, upd_at, updL_at, kR_s, Option.toList, List.append_nil, List.nil_append, List.cons_append, if_true, if_false, reduceIte, Bool.false_eq_true, not_true_eq_false, not_false_eq_true, true_and, and_true, false_and, and_false, true_or, or_true,  Nat.reduceEqDiff, Nat.reduceAdd, Nat.reduceLeDiff]
  try rfl
theorem lw_where {d a b i j L : Nat} {o5 o6 : Option Value} {h : qH} {S : AS} (I : LI h S j L) (hi : i + 6 ≤ L) (hL : L ≤ 3072) (ha : a + 13 ≤ 601024) (hb : b + 92 ≤ 7293034) : LO d a b 355 i j L o5 o6 h := by
  have ha0 : a ≤ 601024 := by omega
  have hb0 : b ≤ 7293034 := by omega
  have cL : (nI L).toNatClampNeg = L := nI_cl (by omega)
  have eL := I.2.2.2.1
  have e1 := q_where (d := d + 12) I.1 I.2.2.2.2
  obtain ⟨h2, e2, c2, I2⟩ := m_where (d := d + 12) I.2.1
  refine ⟨h2, S, 0, o5, o6, by omega, fun Q => ?_, LI_2 I cf_refl I.1 c2 I2 (by omega) I.2.2.2.2⟩
  have eL1 := eL
  simp (implicitDefEqProofs := false) only [rL_law_355, rL_law_355b, rL_law_356, rL_law_359, rL_law_359b, rL_law_360, rL_law_363, rL_law_366, rL_law_367, kA_0, kB_0, kA_44, kB_44, kA_56, kB_56, e1, e2, ha0, hb0, (by decide : (1000 : Nat) < 2000), Nat.add_zero, eq_self, pCL_law, pSL_law, pOL_law, pLL_law, pCX7_where, pSX7_where, pOX7_where, pLX7_where, pCX9_where, pSX9_where, pOX9_where, pLX9_where, kl_I, kl_J, kl_R, kl_T, kl_N, Nat.le_refl, Nat.zero_le, List.map_nil, List.map_cons, List.sum_nil, List.sum_cons, c_I, c_J, c_R, c_T, va_rf, hI_wI, hJ_wJ, hR_wR, hI_J, hI_R, hJ_I, hJ_R, hR_I, hR_J, hN_I, hN_J, hN_R, wI_I, wJ_J, upd_at, updL_at, kR_s, Option.toList, List.append_nil, List.nil_append, List.cons_append, if_true, if_false, reduceIte, Bool.false_eq_true, not_true_eq_false, not_false_eq_true, true_and, and_true, false_and, and_false, true_or, or_true,  Nat.reduceEqDiff, Nat.reduceAdd, Nat.reduceLeDiff]
  try rfl
theorem lw_house {d a b i j L : Nat} {o5 o6 : Option Value} {h : qH} {S : AS} (I : LI h S j L) (hi : i + 6 ≤ L) (hL : L ≤ 3072) (ha : a + 13 ≤ 601024) (hb : b + 92 ≤ 7293034) : LO d a b 368 i j L o5 o6 h := by
  have ha0 : a ≤ 601024 := by omega
  have hb0 : b ≤ 7293034 := by omega
  have cL : (nI L).toNatClampNeg = L := nI_cl (by omega)
  have eL := I.2.2.2.1
  have w1 : (nI (i + 1)).toNatClampNeg = i + 1 := nI_cl (by omega)
  have v1 : vpB (nI (i + 1)) L = true := vB (by omega) hL
  have w2 : (nI (i + 2)).toNatClampNeg = i + 2 := nI_cl (by omega)
  have v2 : vpB (nI (i + 2)) L = true := vB (by omega) hL
  obtain ⟨h1, e1, f1, I1⟩ := q_house (d := d + 2) (y := hI h SCR (i + 1)) (z := hI h SCR (i + 2)) I.1
  obtain ⟨h2, e2, c2, I2⟩ := m_house (d := d + 2) (y := hI h SCR (i + 1)) (z := hI h SCR (i + 2)) (MI_cf I.2.1 f1 (CI_F I1))
  refine ⟨h2, _, 0, o5, o6, by omega, fun Q => ?_, LI_2 I f1 I1 c2 I2 (by omega) (sTr_tr t7_sHouse)⟩
  have eL1 : hI h1 (SCR + 1) 0 = nI L := by rw [(f1.2 (SCR + 1) (by unfold SCR; omega)).1]; exact eL
  have eS : hI h1 SCR = hI h SCR := (f1.2 SCR (by unfold SCR; omega)).1
  simp (implicitDefEqProofs := false) only [rL_law_368, rL_law_368b, rL_law_369, rL_law_369b, rL_law_370, rL_law_372, rL_law_373, rL_law_374, rL_law_375, rL_law_375b, rL_law_376, rL_law_378, rL_law_379, rL_law_380, rL_law_381, rL_law_384, rL_law_384b, rL_law_385, rL_law_385b, rL_law_386, rL_law_388, rL_law_389, rL_law_390, rL_law_391, rL_law_391b, rL_law_392, rL_law_394, rL_law_395, rL_law_396, rL_law_397, rL_law_400, rL_law_403, rL_law_404, kA_0, kB_0, kA_44, kB_44, kA_56, kB_56, e1, e2, eL, eL1, eS, cL, w1, v1, nI_1, w2, v2, nI_p2, ha0, hb0, (by decide : (1000 : Nat) < 2000), Nat.add_zero, eq_self, pCL_law, pSL_law, pOL_law, pLL_law, pCX7_house, pSX7_house, pOX7_house, pLX7_house, pCX9_house, pSX9_house, pOX9_house, pLX9_house, kl_I, kl_J, kl_R, kl_T, kl_N, Nat.le_refl, Nat.zero_le, List.map_nil, List.map_cons, List.sum_nil, List.sum_cons, c_I, c_J, c_R, c_T, va_rf, hI_wI, hJ_wJ, hR_wR, hI_J, hI_R, hJ_I, hJ_R, hR_I, hR_J, hN_I, hN_J, hN_R, wI_I, wJ_J, upd_at, updL_at, kR_s, Option.toList, List.append_nil, List.nil_append, List.cons_append, if_true, if_false, reduceIte, Bool.false_eq_true, not_true_eq_false, not_false_eq_true, true_and, and_true, false_and, and_false, true_or, or_true,  Nat.reduceEqDiff, Nat.reduceAdd, Nat.reduceLeDiff]
  try rfl
theorem lw_spark {d a b i j L : Nat} {o5 o6 : Option Value} {h : qH} {S : AS} (I : LI h S j L) (hi : i + 6 ≤ L) (hL : L ≤ 3072) (ha : a + 13 ≤ 601024) (hb : b + 92 ≤ 7293034) : LO d a b 405 i j L o5 o6 h := by
  have ha0 : a ≤ 601024 := by omega
  have hb0 : b ≤ 7293034 := by omega
  have cL : (nI L).toNatClampNeg = L := nI_cl (by omega)
  have eL := I.2.2.2.1
  have w1 : (nI (i + 1)).toNatClampNeg = i + 1 := nI_cl (by omega)
  have v1 : vpB (nI (i + 1)) L = true := vB (by omega) hL
  have w2 : (nI (i + 2)).toNatClampNeg = i + 2 := nI_cl (by omega)
  have v2 : vpB (nI (i + 2)) L = true := vB (by omega) hL
  obtain ⟨h1, e1, f1, I1⟩ := q_spark (d := d + 2) (y := hI h SCR (i + 1)) (z := hI h SCR (i + 2)) I.1
  obtain ⟨h2, e2, c2, I2⟩ := m_spark (d := d + 2) (y := hI h SCR (i + 1)) (z := hI h SCR (i + 2)) (MI_cf I.2.1 f1 (CI_F I1))
  refine ⟨h2, _, 0, o5, o6, by omega, fun Q => ?_, LI_2 I f1 I1 c2 I2 (by omega) (sTr_tr t7_sSpark)⟩
  have eL1 : hI h1 (SCR + 1) 0 = nI L := by rw [(f1.2 (SCR + 1) (by unfold SCR; omega)).1]; exact eL
  have eS : hI h1 SCR = hI h SCR := (f1.2 SCR (by unfold SCR; omega)).1
  simp (implicitDefEqProofs := false) only [rL_law_405, rL_law_405b, rL_law_406, rL_law_406b, rL_law_407, rL_law_409, rL_law_410, rL_law_411, rL_law_412, rL_law_412b, rL_law_413, rL_law_415, rL_law_416, rL_law_417, rL_law_418, rL_law_421, rL_law_421b, rL_law_422, rL_law_422b, rL_law_423, rL_law_425, rL_law_426, rL_law_427, rL_law_428, rL_law_428b, rL_law_429, rL_law_431, rL_law_432, rL_law_433, rL_law_434, rL_law_437, rL_law_440, rL_law_441, kA_0, kB_0, kA_44, kB_44, kA_56, kB_56, e1, e2, eL, eL1, eS, cL, w1, v1, nI_1, w2, v2, nI_p2, ha0, hb0, (by decide : (1000 : Nat) < 2000), Nat.add_zero, eq_self, pCL_law, pSL_law, pOL_law, pLL_law, pCX7_spark, pSX7_spark, pOX7_spark, pLX7_spark, pCX9_spark, pSX9_spark, pOX9_spark, pLX9_spark, kl_I, kl_J, kl_R, kl_T, kl_N, Nat.le_refl, Nat.zero_le, List.map_nil, List.map_cons, List.sum_nil, List.sum_cons, c_I, c_J, c_R, c_T, va_rf, hI_wI, hJ_wJ, hR_wR, hI_J, hI_R, hJ_I, hJ_R, hR_I, hR_J, hN_I, hN_J, hN_R, wI_I, wJ_J, upd_at, updL_at, kR_s, Option.toList, List.append_nil, List.nil_append, List.cons_append, if_true, if_false, reduceIte, Bool.false_eq_true, not_true_eq_false, not_false_eq_true, true_and, and_true, false_and, and_false, true_or, or_true,  Nat.reduceEqDiff, Nat.reduceAdd, Nat.reduceLeDiff]
  try rfl
theorem lw_burns {d a b i j L : Nat} {o5 o6 : Option Value} {h : qH} {S : AS} (I : LI h S j L) (hi : i + 6 ≤ L) (hL : L ≤ 3072) (ha : a + 13 ≤ 601024) (hb : b + 92 ≤ 7293034) : LO d a b 442 i j L o5 o6 h := by
  have ha0 : a ≤ 601024 := by omega
  have hb0 : b ≤ 7293034 := by omega
  have cL : (nI L).toNatClampNeg = L := nI_cl (by omega)
  have eL := I.2.2.2.1
  have w1 : (nI (i + 1)).toNatClampNeg = i + 1 := nI_cl (by omega)
  have v1 : vpB (nI (i + 1)) L = true := vB (by omega) hL
  obtain ⟨h1, e1, f1, I1⟩ := q_burns (d := d + 2) (y := hI h SCR (i + 1)) I.1
  obtain ⟨h2, e2, c2, I2⟩ := m_burns (d := d + 2) (y := hI h SCR (i + 1)) (MI_cf I.2.1 f1 (CI_F I1))
  refine ⟨h2, _, 0, o5, o6, by omega, fun Q => ?_, LI_2 I f1 I1 c2 I2 (by omega) (sTr_tr t7_sBurns)⟩
  have eL1 : hI h1 (SCR + 1) 0 = nI L := by rw [(f1.2 (SCR + 1) (by unfold SCR; omega)).1]; exact eL
  have eS : hI h1 SCR = hI h SCR := (f1.2 SCR (by unfold SCR; omega)).1
  simp (implicitDefEqProofs := false) only [rL_law_442, rL_law_442b, rL_law_443, rL_law_443b, rL_law_444, rL_law_446, rL_law_447, rL_law_448, rL_law_449, rL_law_452, rL_law_452b, rL_law_453, rL_law_453b, rL_law_454, rL_law_456, rL_law_457, rL_law_458, rL_law_459, rL_law_462, rL_law_465, rL_law_466, kA_0, kB_0, kA_44, kB_44, kA_56, kB_56, e1, e2, eL, eL1, eS, cL, w1, v1, nI_1, ha0, hb0, (by decide : (1000 : Nat) < 2000), Nat.add_zero, eq_self, pCL_law, pSL_law, pOL_law, pLL_law, pCX7_burns, pSX7_burns, pOX7_burns, pLX7_burns, pCX9_burns, pSX9_burns, pOX9_burns, pLX9_burns, kl_I, kl_J, kl_R, kl_T, kl_N, Nat.le_refl, Nat.zero_le, List.map_nil, List.map_cons, List.sum_nil, List.sum_cons, c_I, c_J, c_R, c_T, va_rf, hI_wI, hJ_wJ, hR_wR, hI_J, hI_R, hJ_I, hJ_R, hR_I, hR_J, hN_I, hN_J, hN_R, wI_I, wJ_J, upd_at, updL_at, kR_s, Option.toList, List.append_nil, List.nil_append, List.cons_append, if_true, if_false, reduceIte, Bool.false_eq_true, not_true_eq_false, not_false_eq_true, true_and, and_true, false_and, and_false, true_or, or_true,  Nat.reduceEqDiff, Nat.reduceAdd, Nat.reduceLeDiff]
  try rfl
theorem lw_litBy {d a b i j L : Nat} {o5 o6 : Option Value} {h : qH} {S : AS} (I : LI h S j L) (hi : i + 6 ≤ L) (hL : L ≤ 3072) (ha : a + 13 ≤ 601024) (hb : b + 92 ≤ 7293034) : LO d a b 467 i j L o5 o6 h := by
  have ha0 : a ≤ 601024 := by omega
  have hb0 : b ≤ 7293034 := by omega
  have cL : (nI L).toNatClampNeg = L := nI_cl (by omega)
  have eL := I.2.2.2.1
  have w1 : (nI (i + 1)).toNatClampNeg = i + 1 := nI_cl (by omega)
  have v1 : vpB (nI (i + 1)) L = true := vB (by omega) hL
  obtain ⟨h1, e1, f1, I1⟩ := q_litBy (d := d + 2) (y := hI h SCR (i + 1)) I.1
  obtain ⟨h2, e2, c2, I2⟩ := m_litBy (d := d + 2) (y := hI h SCR (i + 1)) (MI_cf I.2.1 f1 (CI_F I1))
  refine ⟨h2, _, 0, o5, o6, by omega, fun Q => ?_, LI_2 I f1 I1 c2 I2 (by omega) (sTr_tr t7_sLitBy)⟩
  have eL1 : hI h1 (SCR + 1) 0 = nI L := by rw [(f1.2 (SCR + 1) (by unfold SCR; omega)).1]; exact eL
  have eS : hI h1 SCR = hI h SCR := (f1.2 SCR (by unfold SCR; omega)).1
  simp (implicitDefEqProofs := false) only [rL_law_467, rL_law_467b, rL_law_468, rL_law_468b, rL_law_469, rL_law_471, rL_law_472, rL_law_473, rL_law_474, rL_law_477, rL_law_477b, rL_law_478, rL_law_478b, rL_law_479, rL_law_481, rL_law_482, rL_law_483, rL_law_484, rL_law_487, rL_law_490, rL_law_491, kA_0, kB_0, kA_44, kB_44, kA_56, kB_56, e1, e2, eL, eL1, eS, cL, w1, v1, nI_1, ha0, hb0, (by decide : (1000 : Nat) < 2000), Nat.add_zero, eq_self, pCL_law, pSL_law, pOL_law, pLL_law, pCX7_litBy, pSX7_litBy, pOX7_litBy, pLX7_litBy, pCX9_litBy, pSX9_litBy, pOX9_litBy, pLX9_litBy, kl_I, kl_J, kl_R, kl_T, kl_N, Nat.le_refl, Nat.zero_le, List.map_nil, List.map_cons, List.sum_nil, List.sum_cons, c_I, c_J, c_R, c_T, va_rf, hI_wI, hJ_wJ, hR_wR, hI_J, hI_R, hJ_I, hJ_R, hR_I, hR_J, hN_I, hN_J, hN_R, wI_I, wJ_J, upd_at, updL_at, kR_s, Option.toList, List.append_nil, List.nil_append, List.cons_append, if_true, if_false, reduceIte, Bool.false_eq_true, not_true_eq_false, not_false_eq_true, true_and, and_true, false_and, and_false, true_or, or_true,  Nat.reduceEqDiff, Nat.reduceAdd, Nat.reduceLeDiff]
  try rfl
theorem lw_burnt {d a b i j L : Nat} {o5 o6 : Option Value} {h : qH} {S : AS} (I : LI h S j L) (hi : i + 6 ≤ L) (hL : L ≤ 3072) (ha : a + 13 ≤ 601024) (hb : b + 92 ≤ 7293034) : LO d a b 492 i j L o5 o6 h := by
  have ha0 : a ≤ 601024 := by omega
  have hb0 : b ≤ 7293034 := by omega
  have cL : (nI L).toNatClampNeg = L := nI_cl (by omega)
  have eL := I.2.2.2.1
  have w1 : (nI (i + 1)).toNatClampNeg = i + 1 := nI_cl (by omega)
  have v1 : vpB (nI (i + 1)) L = true := vB (by omega) hL
  obtain ⟨h1, e1, f1, I1⟩ := q_burnt (d := d + 2) (y := hI h SCR (i + 1)) I.1
  obtain ⟨h2, e2, c2, I2⟩ := m_burnt (d := d + 2) (y := hI h SCR (i + 1)) (MI_cf I.2.1 f1 (CI_F I1))
  refine ⟨h2, _, 0, o5, o6, by omega, fun Q => ?_, LI_2 I f1 I1 c2 I2 (by omega) (sTr_tr t7_sBurnt)⟩
  have eL1 : hI h1 (SCR + 1) 0 = nI L := by rw [(f1.2 (SCR + 1) (by unfold SCR; omega)).1]; exact eL
  have eS : hI h1 SCR = hI h SCR := (f1.2 SCR (by unfold SCR; omega)).1
  simp (implicitDefEqProofs := false) only [rL_law_492, rL_law_492b, rL_law_493, rL_law_493b, rL_law_494, rL_law_496, rL_law_497, rL_law_498, rL_law_499, rL_law_502, rL_law_502b, rL_law_503, rL_law_503b, rL_law_504, rL_law_506, rL_law_507, rL_law_508, rL_law_509, rL_law_512, rL_law_515, rL_law_516, kA_0, kB_0, kA_44, kB_44, kA_56, kB_56, e1, e2, eL, eL1, eS, cL, w1, v1, nI_1, ha0, hb0, (by decide : (1000 : Nat) < 2000), Nat.add_zero, eq_self, pCL_law, pSL_law, pOL_law, pLL_law, pCX7_burnt, pSX7_burnt, pOX7_burnt, pLX7_burnt, pCX9_burnt, pSX9_burnt, pOX9_burnt, pLX9_burnt, kl_I, kl_J, kl_R, kl_T, kl_N, Nat.le_refl, Nat.zero_le, List.map_nil, List.map_cons, List.sum_nil, List.sum_cons, c_I, c_J, c_R, c_T, va_rf, hI_wI, hJ_wJ, hR_wR, hI_J, hI_R, hJ_I, hJ_R, hR_I, hR_J, hN_I, hN_J, hN_R, wI_I, wJ_J, upd_at, updL_at, kR_s, Option.toList, List.append_nil, List.nil_append, List.cons_append, if_true, if_false, reduceIte, Bool.false_eq_true, not_true_eq_false, not_false_eq_true, true_and, and_true, false_and, and_false, true_or, or_true,  Nat.reduceEqDiff, Nat.reduceAdd, Nat.reduceLeDiff]
  try rfl
theorem lw_lastDay {d a b i j L : Nat} {o5 o6 : Option Value} {h : qH} {S : AS} (I : LI h S j L) (hi : i + 6 ≤ L) (hL : L ≤ 3072) (ha : a + 13 ≤ 601024) (hb : b + 92 ≤ 7293034) : LO d a b 517 i j L o5 o6 h := by
  have ha0 : a ≤ 601024 := by omega
  have hb0 : b ≤ 7293034 := by omega
  have cL : (nI L).toNatClampNeg = L := nI_cl (by omega)
  have eL := I.2.2.2.1
  obtain ⟨h1, e1, f1, I1⟩ := q_lastDay (d := d + 2) I.1
  obtain ⟨h2, e2, c2, I2⟩ := m_lastDay (d := d + 2) (MI_cf I.2.1 f1 (CI_F I1))
  refine ⟨h2, _, 0, o5, o6, by omega, fun Q => ?_, LI_2 I f1 I1 c2 I2 (by omega) (sTr_tr t7_sLast)⟩
  have eL1 : hI h1 (SCR + 1) 0 = nI L := by rw [(f1.2 (SCR + 1) (by unfold SCR; omega)).1]; exact eL
  have eS : hI h1 SCR = hI h SCR := (f1.2 SCR (by unfold SCR; omega)).1
  simp (implicitDefEqProofs := false) only [rL_law_517, rL_law_517b, rL_law_518, rL_law_521, rL_law_521b, rL_law_522, rL_law_525, rL_law_528, rL_law_529, kA_0, kB_0, kA_44, kB_44, kA_56, kB_56, e1, e2, ha0, hb0, (by decide : (1000 : Nat) < 2000), Nat.add_zero, eq_self, pCL_law, pSL_law, pOL_law, pLL_law, pCX7_lastDay, pSX7_lastDay, pOX7_lastDay, pLX7_lastDay, pCX9_lastDay, pSX9_lastDay, pOX9_lastDay, pLX9_lastDay, kl_I, kl_J, kl_R, kl_T, kl_N, Nat.le_refl, Nat.zero_le, List.map_nil, List.map_cons, List.sum_nil, List.sum_cons, c_I, c_J, c_R, c_T, va_rf, hI_wI, hJ_wJ, hR_wR, hI_J, hI_R, hJ_I, hJ_R, hR_I, hR_J, hN_I, hN_J, hN_R, wI_I, wJ_J, upd_at, updL_at, kR_s, Option.toList, List.append_nil, List.nil_append, List.cons_append, if_true, if_false, reduceIte, Bool.false_eq_true, not_true_eq_false, not_false_eq_true, true_and, and_true, false_and, and_false, true_or, or_true,  Nat.reduceEqDiff, Nat.reduceAdd, Nat.reduceLeDiff]
  try rfl
theorem lw_next {d a b i j L : Nat} {o5 o6 : Option Value} {h : qH} {S : AS} (I : LI h S j L) (hi : i + 6 ≤ L) (hL : L ≤ 3072) (ha : a + 13 ≤ 601024) (hb : b + 92 ≤ 7293034) : LO d a b 530 i j L o5 o6 h := by
  have ha0 : a ≤ 601024 := by omega
  have hb0 : b ≤ 7293034 := by omega
  have cL : (nI L).toNatClampNeg = L := nI_cl (by omega)
  have eL := I.2.2.2.1
  have w1 : (nI (i + 1)).toNatClampNeg = i + 1 := nI_cl (by omega)
  have v1 : vpB (nI (i + 1)) L = true := vB (by omega) hL
  obtain ⟨h1, e1, f1, I1⟩ := q_next (d := d + 2) (y := hI h SCR (i + 1)) I.1
  obtain ⟨h2, e2, c2, I2⟩ := m_next (d := d + 2) (y := hI h SCR (i + 1)) (MI_cf I.2.1 f1 (CI_F I1))
  refine ⟨h2, _, 0, o5, o6, by omega, fun Q => ?_, LI_2 I f1 I1 c2 I2 (by omega) (sTr_tr t7_sNext)⟩
  have eL1 : hI h1 (SCR + 1) 0 = nI L := by rw [(f1.2 (SCR + 1) (by unfold SCR; omega)).1]; exact eL
  have eS : hI h1 SCR = hI h SCR := (f1.2 SCR (by unfold SCR; omega)).1
  simp (implicitDefEqProofs := false) only [rL_law_530, rL_law_530b, rL_law_531, rL_law_531b, rL_law_532, rL_law_534, rL_law_535, rL_law_536, rL_law_537, rL_law_540, rL_law_540b, rL_law_541, rL_law_541b, rL_law_542, rL_law_544, rL_law_545, rL_law_546, rL_law_547, rL_law_550, rL_law_553, rL_law_554, kA_0, kB_0, kA_44, kB_44, kA_56, kB_56, e1, e2, eL, eL1, eS, cL, w1, v1, nI_1, ha0, hb0, (by decide : (1000 : Nat) < 2000), Nat.add_zero, eq_self, pCL_law, pSL_law, pOL_law, pLL_law, pCX7_next, pSX7_next, pOX7_next, pLX7_next, pCX9_next, pSX9_next, pOX9_next, pLX9_next, kl_I, kl_J, kl_R, kl_T, kl_N, Nat.le_refl, Nat.zero_le, List.map_nil, List.map_cons, List.sum_nil, List.sum_cons, c_I, c_J, c_R, c_T, va_rf, hI_wI, hJ_wJ, hR_wR, hI_J, hI_R, hJ_I, hJ_R, hR_I, hR_J, hN_I, hN_J, hN_R, wI_I, wJ_J, upd_at, updL_at, kR_s, Option.toList, List.append_nil, List.nil_append, List.cons_append, if_true, if_false, reduceIte, Bool.false_eq_true, not_true_eq_false, not_false_eq_true, true_and, and_true, false_and, and_false, true_or, or_true,  Nat.reduceEqDiff, Nat.reduceAdd, Nat.reduceLeDiff]
  try rfl
theorem lw_agrees {d a b i j L : Nat} {o5 o6 : Option Value} {h : qH} {S : AS} (I : LI h S j L) (hi : i + 6 ≤ L) (hL : L ≤ 3072) (ha : a + 13 ≤ 601024) (hb : b + 92 ≤ 7293034) : LO d a b 555 i j L o5 o6 h := by
  have ha0 : a ≤ 601024 := by omega
  have hb0 : b ≤ 7293034 := by omega
  have cL : (nI L).toNatClampNeg = L := nI_cl (by omega)
  have eL := I.2.2.2.1
  have w1 : (nI (i + 1)).toNatClampNeg = i + 1 := nI_cl (by omega)
  have v1 : vpB (nI (i + 1)) L = true := vB (by omega) hL
  obtain ⟨h1, e1, f1, I1⟩ := q_agrees (d := d + 2) (y := hI h SCR (i + 1)) I.1
  obtain ⟨h2, e2, c2, I2⟩ := m_agrees (d := d + 2) (y := hI h SCR (i + 1)) (MI_cf I.2.1 f1 (CI_F I1))
  refine ⟨h2, _, 0, o5, o6, by omega, fun Q => ?_, LI_2 I f1 I1 c2 I2 (by omega) (sTr_tr t7_sAgrees)⟩
  have eL1 : hI h1 (SCR + 1) 0 = nI L := by rw [(f1.2 (SCR + 1) (by unfold SCR; omega)).1]; exact eL
  have eS : hI h1 SCR = hI h SCR := (f1.2 SCR (by unfold SCR; omega)).1
  simp (implicitDefEqProofs := false) only [rL_law_555, rL_law_555b, rL_law_556, rL_law_556b, rL_law_557, rL_law_559, rL_law_560, rL_law_561, rL_law_562, rL_law_565, rL_law_565b, rL_law_566, rL_law_566b, rL_law_567, rL_law_569, rL_law_570, rL_law_571, rL_law_572, rL_law_575, rL_law_578, rL_law_579, kA_0, kB_0, kA_44, kB_44, kA_56, kB_56, e1, e2, eL, eL1, eS, cL, w1, v1, nI_1, ha0, hb0, (by decide : (1000 : Nat) < 2000), Nat.add_zero, eq_self, pCL_law, pSL_law, pOL_law, pLL_law, pCX7_agrees, pSX7_agrees, pOX7_agrees, pLX7_agrees, pCX9_agrees, pSX9_agrees, pOX9_agrees, pLX9_agrees, kl_I, kl_J, kl_R, kl_T, kl_N, Nat.le_refl, Nat.zero_le, List.map_nil, List.map_cons, List.sum_nil, List.sum_cons, c_I, c_J, c_R, c_T, va_rf, hI_wI, hJ_wJ, hR_wR, hI_J, hI_R, hJ_I, hJ_R, hR_I, hR_J, hN_I, hN_J, hN_R, wI_I, wJ_J, upd_at, updL_at, kR_s, Option.toList, List.append_nil, List.nil_append, List.cons_append, if_true, if_false, reduceIte, Bool.false_eq_true, not_true_eq_false, not_false_eq_true, true_and, and_true, false_and, and_false, true_or, or_true,  Nat.reduceEqDiff, Nat.reduceAdd, Nat.reduceLeDiff]
  try rfl
theorem lw_burnsIf {d a b i j L : Nat} {o5 o6 : Option Value} {h : qH} {S : AS} (I : LI h S j L) (hi : i + 6 ≤ L) (hL : L ≤ 3072) (ha : a + 13 ≤ 601024) (hb : b + 92 ≤ 7293034) : LO d a b 580 i j L o5 o6 h := by
  have ha0 : a ≤ 601024 := by omega
  have hb0 : b ≤ 7293034 := by omega
  have cL : (nI L).toNatClampNeg = L := nI_cl (by omega)
  have eL := I.2.2.2.1
  have w1 : (nI (i + 1)).toNatClampNeg = i + 1 := nI_cl (by omega)
  have v1 : vpB (nI (i + 1)) L = true := vB (by omega) hL
  have w2 : (nI (i + 2)).toNatClampNeg = i + 2 := nI_cl (by omega)
  have v2 : vpB (nI (i + 2)) L = true := vB (by omega) hL
  obtain ⟨h1, e1, f1, I1⟩ := q_burnsIf (d := d + 2) (y := hI h SCR (i + 1)) (z := hI h SCR (i + 2)) I.1
  obtain ⟨h2, e2, c2, I2⟩ := m_burnsIf (d := d + 2) (y := hI h SCR (i + 1)) (z := hI h SCR (i + 2)) (MI_cf I.2.1 f1 (CI_F I1))
  refine ⟨h2, _, 0, o5, o6, by omega, fun Q => ?_, LI_2 I f1 I1 c2 I2 (by omega) (sTr_tr t7_sBurnsIf)⟩
  have eL1 : hI h1 (SCR + 1) 0 = nI L := by rw [(f1.2 (SCR + 1) (by unfold SCR; omega)).1]; exact eL
  have eS : hI h1 SCR = hI h SCR := (f1.2 SCR (by unfold SCR; omega)).1
  simp (implicitDefEqProofs := false) only [rL_law_580, rL_law_580b, rL_law_581, rL_law_581b, rL_law_582, rL_law_584, rL_law_585, rL_law_586, rL_law_587, rL_law_587b, rL_law_588, rL_law_590, rL_law_591, rL_law_592, rL_law_593, rL_law_596, rL_law_596b, rL_law_597, rL_law_597b, rL_law_598, rL_law_600, rL_law_601, rL_law_602, rL_law_603, rL_law_603b, rL_law_604, rL_law_606, rL_law_607, rL_law_608, rL_law_609, rL_law_612, rL_law_615, rL_law_616, kA_0, kB_0, kA_44, kB_44, kA_56, kB_56, e1, e2, eL, eL1, eS, cL, w1, v1, nI_1, w2, v2, nI_p2, ha0, hb0, (by decide : (1000 : Nat) < 2000), Nat.add_zero, eq_self, pCL_law, pSL_law, pOL_law, pLL_law, pCX7_burnsIf, pSX7_burnsIf, pOX7_burnsIf, pLX7_burnsIf, pCX9_burnsIf, pSX9_burnsIf, pOX9_burnsIf, pLX9_burnsIf, kl_I, kl_J, kl_R, kl_T, kl_N, Nat.le_refl, Nat.zero_le, List.map_nil, List.map_cons, List.sum_nil, List.sum_cons, c_I, c_J, c_R, c_T, va_rf, hI_wI, hJ_wJ, hR_wR, hI_J, hI_R, hJ_I, hJ_R, hR_I, hR_J, hN_I, hN_J, hN_R, wI_I, wJ_J, upd_at, updL_at, kR_s, Option.toList, List.append_nil, List.nil_append, List.cons_append, if_true, if_false, reduceIte, Bool.false_eq_true, not_true_eq_false, not_false_eq_true, true_and, and_true, false_and, and_false, true_or, or_true,  Nat.reduceEqDiff, Nat.reduceAdd, Nat.reduceLeDiff]
  try rfl
theorem lw_saves {d a b i j L : Nat} {o5 o6 : Option Value} {h : qH} {S : AS} (I : LI h S j L) (hi : i + 6 ≤ L) (hL : L ≤ 3072) (ha : a + 13 ≤ 601024) (hb : b + 92 ≤ 7293034) : LO d a b 617 i j L o5 o6 h := by
  have ha0 : a ≤ 601024 := by omega
  have hb0 : b ≤ 7293034 := by omega
  have cL : (nI L).toNatClampNeg = L := nI_cl (by omega)
  have eL := I.2.2.2.1
  have w1 : (nI (i + 1)).toNatClampNeg = i + 1 := nI_cl (by omega)
  have v1 : vpB (nI (i + 1)) L = true := vB (by omega) hL
  obtain ⟨h1, e1, f1, I1⟩ := q_saves (d := d + 2) (y := hI h SCR (i + 1)) I.1
  obtain ⟨h2, e2, c2, I2⟩ := m_saves (d := d + 2) (y := hI h SCR (i + 1)) (MI_cf I.2.1 f1 (CI_F I1))
  refine ⟨h2, _, 0, o5, o6, by omega, fun Q => ?_, LI_2 I f1 I1 c2 I2 (by omega) (sTr_tr t7_sSaves)⟩
  have eL1 : hI h1 (SCR + 1) 0 = nI L := by rw [(f1.2 (SCR + 1) (by unfold SCR; omega)).1]; exact eL
  have eS : hI h1 SCR = hI h SCR := (f1.2 SCR (by unfold SCR; omega)).1
  simp (implicitDefEqProofs := false) only [rL_law_617, rL_law_617b, rL_law_618, rL_law_618b, rL_law_619, rL_law_621, rL_law_622, rL_law_623, rL_law_624, rL_law_627, rL_law_627b, rL_law_628, rL_law_628b, rL_law_629, rL_law_631, rL_law_632, rL_law_633, rL_law_634, rL_law_637, rL_law_640, rL_law_641, kA_0, kB_0, kA_44, kB_44, kA_56, kB_56, e1, e2, eL, eL1, eS, cL, w1, v1, nI_1, ha0, hb0, (by decide : (1000 : Nat) < 2000), Nat.add_zero, eq_self, pCL_law, pSL_law, pOL_law, pLL_law, pCX7_saves, pSX7_saves, pOX7_saves, pLX7_saves, pCX9_saves, pSX9_saves, pOX9_saves, pLX9_saves, kl_I, kl_J, kl_R, kl_T, kl_N, Nat.le_refl, Nat.zero_le, List.map_nil, List.map_cons, List.sum_nil, List.sum_cons, c_I, c_J, c_R, c_T, va_rf, hI_wI, hJ_wJ, hR_wR, hI_J, hI_R, hJ_I, hJ_R, hR_I, hR_J, hN_I, hN_J, hN_R, wI_I, wJ_J, upd_at, updL_at, kR_s, Option.toList, List.append_nil, List.nil_append, List.cons_append, if_true, if_false, reduceIte, Bool.false_eq_true, not_true_eq_false, not_false_eq_true, true_and, and_true, false_and, and_false, true_or, or_true,  Nat.reduceEqDiff, Nat.reduceAdd, Nat.reduceLeDiff]
  try rfl
theorem lw_bestTold {d a b i j L : Nat} {o5 o6 : Option Value} {h : qH} {S : AS} (I : LI h S j L) (hi : i + 6 ≤ L) (hL : L ≤ 3072) (ha : a + 13 ≤ 601024) (hb : b + 92 ≤ 7293034) : LO d a b 642 i j L o5 o6 h := by
  have ha0 : a ≤ 601024 := by omega
  have hb0 : b ≤ 7293034 := by omega
  have cL : (nI L).toNatClampNeg = L := nI_cl (by omega)
  have eL := I.2.2.2.1
  obtain ⟨h1, e1, f1, I1⟩ := q_bestTold (d := d + 2) I.1
  obtain ⟨h2, e2, c2, I2⟩ := m_bestTold (d := d + 2) (MI_cf I.2.1 f1 (CI_F I1))
  refine ⟨h2, _, 0, o5, o6, by omega, fun Q => ?_, LI_2 I f1 I1 c2 I2 (by omega) (sTr_tr t7_sBestTold)⟩
  have eL1 : hI h1 (SCR + 1) 0 = nI L := by rw [(f1.2 (SCR + 1) (by unfold SCR; omega)).1]; exact eL
  have eS : hI h1 SCR = hI h SCR := (f1.2 SCR (by unfold SCR; omega)).1
  simp (implicitDefEqProofs := false) only [rL_law_642, rL_law_642b, rL_law_643, rL_law_646, rL_law_646b, rL_law_647, rL_law_650, rL_law_653, rL_law_654, kA_0, kB_0, kA_44, kB_44, kA_56, kB_56, e1, e2, ha0, hb0, (by decide : (1000 : Nat) < 2000), Nat.add_zero, eq_self, pCL_law, pSL_law, pOL_law, pLL_law, pCX7_bestTold, pSX7_bestTold, pOX7_bestTold, pLX7_bestTold, pCX9_bestTold, pSX9_bestTold, pOX9_bestTold, pLX9_bestTold, kl_I, kl_J, kl_R, kl_T, kl_N, Nat.le_refl, Nat.zero_le, List.map_nil, List.map_cons, List.sum_nil, List.sum_cons, c_I, c_J, c_R, c_T, va_rf, hI_wI, hJ_wJ, hR_wR, hI_J, hI_R, hJ_I, hJ_R, hR_I, hR_J, hN_I, hN_J, hN_R, wI_I, wJ_J, upd_at, updL_at, kR_s, Option.toList, List.append_nil, List.nil_append, List.cons_append, if_true, if_false, reduceIte, Bool.false_eq_true, not_true_eq_false, not_false_eq_true, true_and, and_true, false_and, and_false, true_or, or_true,  Nat.reduceEqDiff, Nat.reduceAdd, Nat.reduceLeDiff]
  try rfl
theorem lw_dumbDay {d a b i j L : Nat} {o5 o6 : Option Value} {h : qH} {S : AS} (I : LI h S j L) (hi : i + 6 ≤ L) (hL : L ≤ 3072) (ha : a + 13 ≤ 601024) (hb : b + 92 ≤ 7293034) : LO d a b 655 i j L o5 o6 h := by
  have ha0 : a ≤ 601024 := by omega
  have hb0 : b ≤ 7293034 := by omega
  have cL : (nI L).toNatClampNeg = L := nI_cl (by omega)
  have eL := I.2.2.2.1
  obtain ⟨h1, e1, f1, I1⟩ := q_dumbDay (d := d + 2) I.1
  obtain ⟨h2, e2, c2, I2⟩ := m_dumbDay (d := d + 2) (MI_cf I.2.1 f1 (CI_F I1))
  refine ⟨h2, _, 0, o5, o6, by omega, fun Q => ?_, LI_2 I f1 I1 c2 I2 (by omega) (sTr_tr t7_sDumb)⟩
  have eL1 : hI h1 (SCR + 1) 0 = nI L := by rw [(f1.2 (SCR + 1) (by unfold SCR; omega)).1]; exact eL
  have eS : hI h1 SCR = hI h SCR := (f1.2 SCR (by unfold SCR; omega)).1
  simp (implicitDefEqProofs := false) only [rL_law_655, rL_law_655b, rL_law_656, rL_law_659, rL_law_659b, rL_law_660, rL_law_663, rL_law_666, rL_law_667, kA_0, kB_0, kA_44, kB_44, kA_56, kB_56, e1, e2, ha0, hb0, (by decide : (1000 : Nat) < 2000), Nat.add_zero, eq_self, pCL_law, pSL_law, pOL_law, pLL_law, pCX7_dumbDay, pSX7_dumbDay, pOX7_dumbDay, pLX7_dumbDay, pCX9_dumbDay, pSX9_dumbDay, pOX9_dumbDay, pLX9_dumbDay, kl_I, kl_J, kl_R, kl_T, kl_N, Nat.le_refl, Nat.zero_le, List.map_nil, List.map_cons, List.sum_nil, List.sum_cons, c_I, c_J, c_R, c_T, va_rf, hI_wI, hJ_wJ, hR_wR, hI_J, hI_R, hJ_I, hJ_R, hR_I, hR_J, hN_I, hN_J, hN_R, wI_I, wJ_J, upd_at, updL_at, kR_s, Option.toList, List.append_nil, List.nil_append, List.cons_append, if_true, if_false, reduceIte, Bool.false_eq_true, not_true_eq_false, not_false_eq_true, true_and, and_true, false_and, and_false, true_or, or_true,  Nat.reduceEqDiff, Nat.reduceAdd, Nat.reduceLeDiff]
  try rfl
theorem lw_ways {d a b i j L : Nat} {o5 o6 : Option Value} {h : qH} {S : AS} (I : LI h S j L) (hi : i + 6 ≤ L) (hL : L ≤ 3072) (ha : a + 13 ≤ 601024) (hb : b + 92 ≤ 7293034) : LO d a b 668 i j L o5 o6 h := by
  have ha0 : a ≤ 601024 := by omega
  have hb0 : b ≤ 7293034 := by omega
  have cL : (nI L).toNatClampNeg = L := nI_cl (by omega)
  have eL := I.2.2.2.1
  obtain ⟨h1, e1, f1, I1⟩ := q_ways (d := d + 2) I.1
  obtain ⟨h2, e2, c2, I2⟩ := m_ways (d := d + 2) (MI_cf I.2.1 f1 (CI_F I1))
  refine ⟨h2, _, 0, o5, o6, by omega, fun Q => ?_, LI_2 I f1 I1 c2 I2 (by omega) (sTr_tr t7_sWays)⟩
  have eL1 : hI h1 (SCR + 1) 0 = nI L := by rw [(f1.2 (SCR + 1) (by unfold SCR; omega)).1]; exact eL
  have eS : hI h1 SCR = hI h SCR := (f1.2 SCR (by unfold SCR; omega)).1
  simp (implicitDefEqProofs := false) only [rL_law_668, rL_law_668b, rL_law_669, rL_law_672, rL_law_672b, rL_law_673, rL_law_676, rL_law_679, rL_law_680, kA_0, kB_0, kA_44, kB_44, kA_56, kB_56, e1, e2, ha0, hb0, (by decide : (1000 : Nat) < 2000), Nat.add_zero, eq_self, pCL_law, pSL_law, pOL_law, pLL_law, pCX7_ways, pSX7_ways, pOX7_ways, pLX7_ways, pCX9_ways, pSX9_ways, pOX9_ways, pLX9_ways, kl_I, kl_J, kl_R, kl_T, kl_N, Nat.le_refl, Nat.zero_le, List.map_nil, List.map_cons, List.sum_nil, List.sum_cons, c_I, c_J, c_R, c_T, va_rf, hI_wI, hJ_wJ, hR_wR, hI_J, hI_R, hJ_I, hJ_R, hR_I, hR_J, hN_I, hN_J, hN_R, wI_I, wJ_J, upd_at, updL_at, kR_s, Option.toList, List.append_nil, List.nil_append, List.cons_append, if_true, if_false, reduceIte, Bool.false_eq_true, not_true_eq_false, not_false_eq_true, true_and, and_true, false_and, and_false, true_or, or_true,  Nat.reduceEqDiff, Nat.reduceAdd, Nat.reduceLeDiff]
  try rfl
theorem lw_wayAt {d a b i j L : Nat} {o5 o6 : Option Value} {h : qH} {S : AS} (I : LI h S j L) (hi : i + 6 ≤ L) (hL : L ≤ 3072) (ha : a + 13 ≤ 601024) (hb : b + 92 ≤ 7293034) : LO d a b 681 i j L o5 o6 h := by
  have ha0 : a ≤ 601024 := by omega
  have hb0 : b ≤ 7293034 := by omega
  have cL : (nI L).toNatClampNeg = L := nI_cl (by omega)
  have eL := I.2.2.2.1
  have w1 : (nI (i + 1)).toNatClampNeg = i + 1 := nI_cl (by omega)
  have v1 : vpB (nI (i + 1)) L = true := vB (by omega) hL
  have w2 : (nI (i + 2)).toNatClampNeg = i + 2 := nI_cl (by omega)
  have v2 : vpB (nI (i + 2)) L = true := vB (by omega) hL
  obtain ⟨h1, e1, f1, I1⟩ := q_wayAt (d := d + 2) (y := hI h SCR (i + 1)) (z := hI h SCR (i + 2)) I.1
  obtain ⟨h2, e2, c2, I2⟩ := m_wayAt (d := d + 2) (y := hI h SCR (i + 1)) (z := hI h SCR (i + 2)) (MI_cf I.2.1 f1 (CI_F I1))
  refine ⟨h2, _, 0, o5, o6, by omega, fun Q => ?_, LI_2 I f1 I1 c2 I2 (by omega) (sTr_tr t7_sWayAt)⟩
  have eL1 : hI h1 (SCR + 1) 0 = nI L := by rw [(f1.2 (SCR + 1) (by unfold SCR; omega)).1]; exact eL
  have eS : hI h1 SCR = hI h SCR := (f1.2 SCR (by unfold SCR; omega)).1
  simp (implicitDefEqProofs := false) only [rL_law_681, rL_law_681b, rL_law_682, rL_law_682b, rL_law_683, rL_law_685, rL_law_686, rL_law_687, rL_law_688, rL_law_688b, rL_law_689, rL_law_691, rL_law_692, rL_law_693, rL_law_694, rL_law_697, rL_law_697b, rL_law_698, rL_law_698b, rL_law_699, rL_law_701, rL_law_702, rL_law_703, rL_law_704, rL_law_704b, rL_law_705, rL_law_707, rL_law_708, rL_law_709, rL_law_710, rL_law_713, rL_law_716, rL_law_717, kA_0, kB_0, kA_44, kB_44, kA_56, kB_56, e1, e2, eL, eL1, eS, cL, w1, v1, nI_1, w2, v2, nI_p2, ha0, hb0, (by decide : (1000 : Nat) < 2000), Nat.add_zero, eq_self, pCL_law, pSL_law, pOL_law, pLL_law, pCX7_wayAt, pSX7_wayAt, pOX7_wayAt, pLX7_wayAt, pCX9_wayAt, pSX9_wayAt, pOX9_wayAt, pLX9_wayAt, kl_I, kl_J, kl_R, kl_T, kl_N, Nat.le_refl, Nat.zero_le, List.map_nil, List.map_cons, List.sum_nil, List.sum_cons, c_I, c_J, c_R, c_T, va_rf, hI_wI, hJ_wJ, hR_wR, hI_J, hI_R, hJ_I, hJ_R, hR_I, hR_J, hN_I, hN_J, hN_R, wI_I, wJ_J, upd_at, updL_at, kR_s, Option.toList, List.append_nil, List.nil_append, List.cons_append, if_true, if_false, reduceIte, Bool.false_eq_true, not_true_eq_false, not_false_eq_true, true_and, and_true, false_and, and_false, true_or, or_true,  Nat.reduceEqDiff, Nat.reduceAdd, Nat.reduceLeDiff]
  try rfl
theorem lw_bestWay {d a b i j L : Nat} {o5 o6 : Option Value} {h : qH} {S : AS} (I : LI h S j L) (hi : i + 6 ≤ L) (hL : L ≤ 3072) (ha : a + 13 ≤ 601024) (hb : b + 92 ≤ 7293034) : LO d a b 718 i j L o5 o6 h := by
  have ha0 : a ≤ 601024 := by omega
  have hb0 : b ≤ 7293034 := by omega
  have cL : (nI L).toNatClampNeg = L := nI_cl (by omega)
  have eL := I.2.2.2.1
  obtain ⟨h1, e1, f1, I1⟩ := q_bestWay (d := d + 2) I.1
  obtain ⟨h2, e2, c2, I2⟩ := m_bestWay (d := d + 2) (MI_cf I.2.1 f1 (CI_F I1))
  refine ⟨h2, _, 0, o5, o6, by omega, fun Q => ?_, LI_2 I f1 I1 c2 I2 (by omega) (sTr_tr t7_sBestWay)⟩
  have eL1 : hI h1 (SCR + 1) 0 = nI L := by rw [(f1.2 (SCR + 1) (by unfold SCR; omega)).1]; exact eL
  have eS : hI h1 SCR = hI h SCR := (f1.2 SCR (by unfold SCR; omega)).1
  simp (implicitDefEqProofs := false) only [rL_law_718, rL_law_718b, rL_law_719, rL_law_722, rL_law_722b, rL_law_723, rL_law_726, rL_law_729, rL_law_730, kA_0, kB_0, kA_44, kB_44, kA_56, kB_56, e1, e2, ha0, hb0, (by decide : (1000 : Nat) < 2000), Nat.add_zero, eq_self, pCL_law, pSL_law, pOL_law, pLL_law, pCX7_bestWay, pSX7_bestWay, pOX7_bestWay, pLX7_bestWay, pCX9_bestWay, pSX9_bestWay, pOX9_bestWay, pLX9_bestWay, kl_I, kl_J, kl_R, kl_T, kl_N, Nat.le_refl, Nat.zero_le, List.map_nil, List.map_cons, List.sum_nil, List.sum_cons, c_I, c_J, c_R, c_T, va_rf, hI_wI, hJ_wJ, hR_wR, hI_J, hI_R, hJ_I, hJ_R, hR_I, hR_J, hN_I, hN_J, hN_R, wI_I, wJ_J, upd_at, updL_at, kR_s, Option.toList, List.append_nil, List.nil_append, List.cons_append, if_true, if_false, reduceIte, Bool.false_eq_true, not_true_eq_false, not_false_eq_true, true_and, and_true, false_and, and_false, true_or, or_true,  Nat.reduceEqDiff, Nat.reduceAdd, Nat.reduceLeDiff]
  try rfl
theorem lw_wayBurnt {d a b i j L : Nat} {o5 o6 : Option Value} {h : qH} {S : AS} (I : LI h S j L) (hi : i + 6 ≤ L) (hL : L ≤ 3072) (ha : a + 13 ≤ 601024) (hb : b + 92 ≤ 7293034) : LO d a b 731 i j L o5 o6 h := by
  have ha0 : a ≤ 601024 := by omega
  have hb0 : b ≤ 7293034 := by omega
  have cL : (nI L).toNatClampNeg = L := nI_cl (by omega)
  have eL := I.2.2.2.1
  have w1 : (nI (i + 1)).toNatClampNeg = i + 1 := nI_cl (by omega)
  have v1 : vpB (nI (i + 1)) L = true := vB (by omega) hL
  obtain ⟨h1, e1, f1, I1⟩ := q_wayBurnt (d := d + 2) (y := hI h SCR (i + 1)) I.1
  obtain ⟨h2, e2, c2, I2⟩ := m_wayBurnt (d := d + 2) (y := hI h SCR (i + 1)) (MI_cf I.2.1 f1 (CI_F I1))
  refine ⟨h2, _, 0, o5, o6, by omega, fun Q => ?_, LI_2 I f1 I1 c2 I2 (by omega) (sTr_tr t7_sWayBurnt)⟩
  have eL1 : hI h1 (SCR + 1) 0 = nI L := by rw [(f1.2 (SCR + 1) (by unfold SCR; omega)).1]; exact eL
  have eS : hI h1 SCR = hI h SCR := (f1.2 SCR (by unfold SCR; omega)).1
  simp (implicitDefEqProofs := false) only [rL_law_731, rL_law_731b, rL_law_732, rL_law_732b, rL_law_733, rL_law_735, rL_law_736, rL_law_737, rL_law_738, rL_law_741, rL_law_741b, rL_law_742, rL_law_742b, rL_law_743, rL_law_745, rL_law_746, rL_law_747, rL_law_748, rL_law_751, rL_law_754, rL_law_755, kA_0, kB_0, kA_44, kB_44, kA_56, kB_56, e1, e2, eL, eL1, eS, cL, w1, v1, nI_1, ha0, hb0, (by decide : (1000 : Nat) < 2000), Nat.add_zero, eq_self, pCL_law, pSL_law, pOL_law, pLL_law, pCX7_wayBurnt, pSX7_wayBurnt, pOX7_wayBurnt, pLX7_wayBurnt, pCX9_wayBurnt, pSX9_wayBurnt, pOX9_wayBurnt, pLX9_wayBurnt, kl_I, kl_J, kl_R, kl_T, kl_N, Nat.le_refl, Nat.zero_le, List.map_nil, List.map_cons, List.sum_nil, List.sum_cons, c_I, c_J, c_R, c_T, va_rf, hI_wI, hJ_wJ, hR_wR, hI_J, hI_R, hJ_I, hJ_R, hR_I, hR_J, hN_I, hN_J, hN_R, wI_I, wJ_J, upd_at, updL_at, kR_s, Option.toList, List.append_nil, List.nil_append, List.cons_append, if_true, if_false, reduceIte, Bool.false_eq_true, not_true_eq_false, not_false_eq_true, true_and, and_true, false_and, and_false, true_or, or_true,  Nat.reduceEqDiff, Nat.reduceAdd, Nat.reduceLeDiff]
  try rfl
theorem lw_couldRing {d a b i j L : Nat} {o5 o6 : Option Value} {h : qH} {S : AS} (I : LI h S j L) (hi : i + 6 ≤ L) (hL : L ≤ 3072) (ha : a + 13 ≤ 601024) (hb : b + 92 ≤ 7293034) : LO d a b 756 i j L o5 o6 h := by
  have ha0 : a ≤ 601024 := by omega
  have hb0 : b ≤ 7293034 := by omega
  have cL : (nI L).toNatClampNeg = L := nI_cl (by omega)
  have eL := I.2.2.2.1
  obtain ⟨h1, e1, f1, I1⟩ := q_couldRing (d := d + 2) I.1
  obtain ⟨h2, e2, c2, I2⟩ := m_couldRing (d := d + 2) (MI_cf I.2.1 f1 (CI_F I1))
  refine ⟨h2, _, 0, o5, o6, by omega, fun Q => ?_, LI_2 I f1 I1 c2 I2 (by omega) (sTr_tr t7_sCould)⟩
  have eL1 : hI h1 (SCR + 1) 0 = nI L := by rw [(f1.2 (SCR + 1) (by unfold SCR; omega)).1]; exact eL
  have eS : hI h1 SCR = hI h SCR := (f1.2 SCR (by unfold SCR; omega)).1
  simp (implicitDefEqProofs := false) only [rL_law_756, rL_law_756b, rL_law_757, rL_law_760, rL_law_760b, rL_law_761, rL_law_764, rL_law_767, rL_law_768, kA_0, kB_0, kA_44, kB_44, kA_56, kB_56, e1, e2, ha0, hb0, (by decide : (1000 : Nat) < 2000), Nat.add_zero, eq_self, pCL_law, pSL_law, pOL_law, pLL_law, pCX7_couldRing, pSX7_couldRing, pOX7_couldRing, pLX7_couldRing, pCX9_couldRing, pSX9_couldRing, pOX9_couldRing, pLX9_couldRing, kl_I, kl_J, kl_R, kl_T, kl_N, Nat.le_refl, Nat.zero_le, List.map_nil, List.map_cons, List.sum_nil, List.sum_cons, c_I, c_J, c_R, c_T, va_rf, hI_wI, hJ_wJ, hR_wR, hI_J, hI_R, hJ_I, hJ_R, hR_I, hR_J, hN_I, hN_J, hN_R, wI_I, wJ_J, upd_at, updL_at, kR_s, Option.toList, List.append_nil, List.nil_append, List.cons_append, if_true, if_false, reduceIte, Bool.false_eq_true, not_true_eq_false, not_false_eq_true, true_and, and_true, false_and, and_false, true_or, or_true,  Nat.reduceEqDiff, Nat.reduceAdd, Nat.reduceLeDiff]
  try rfl
theorem lw_safe {d a b i j L : Nat} {o5 o6 : Option Value} {h : qH} {S : AS} (I : LI h S j L) (hi : i + 6 ≤ L) (hL : L ≤ 3072) (ha : a + 13 ≤ 601024) (hb : b + 92 ≤ 7293034) : LO d a b 769 i j L o5 o6 h := by
  have ha0 : a ≤ 601024 := by omega
  have hb0 : b ≤ 7293034 := by omega
  have cL : (nI L).toNatClampNeg = L := nI_cl (by omega)
  have eL := I.2.2.2.1
  have w1 : (nI (i + 1)).toNatClampNeg = i + 1 := nI_cl (by omega)
  have v1 : vpB (nI (i + 1)) L = true := vB (by omega) hL
  obtain ⟨h1, e1, f1, I1⟩ := q_safe (d := d + 2) (y := hI h SCR (i + 1)) I.1
  obtain ⟨h2, e2, c2, I2⟩ := m_safe (d := d + 2) (y := hI h SCR (i + 1)) (MI_cf I.2.1 f1 (CI_F I1))
  refine ⟨h2, _, 0, o5, o6, by omega, fun Q => ?_, LI_2 I f1 I1 c2 I2 (by omega) (sTr_tr t7_sSafe)⟩
  have eL1 : hI h1 (SCR + 1) 0 = nI L := by rw [(f1.2 (SCR + 1) (by unfold SCR; omega)).1]; exact eL
  have eS : hI h1 SCR = hI h SCR := (f1.2 SCR (by unfold SCR; omega)).1
  simp (implicitDefEqProofs := false) only [rL_law_769, rL_law_769b, rL_law_770, rL_law_770b, rL_law_771, rL_law_773, rL_law_774, rL_law_775, rL_law_776, rL_law_779, rL_law_779b, rL_law_780, rL_law_780b, rL_law_781, rL_law_783, rL_law_784, rL_law_785, rL_law_786, rL_law_789, rL_law_792, rL_law_793, kA_0, kB_0, kA_44, kB_44, kA_56, kB_56, e1, e2, eL, eL1, eS, cL, w1, v1, nI_1, ha0, hb0, (by decide : (1000 : Nat) < 2000), Nat.add_zero, eq_self, pCL_law, pSL_law, pOL_law, pLL_law, pCX7_safe, pSX7_safe, pOX7_safe, pLX7_safe, pCX9_safe, pSX9_safe, pOX9_safe, pLX9_safe, kl_I, kl_J, kl_R, kl_T, kl_N, Nat.le_refl, Nat.zero_le, List.map_nil, List.map_cons, List.sum_nil, List.sum_cons, c_I, c_J, c_R, c_T, va_rf, hI_wI, hJ_wJ, hR_wR, hI_J, hI_R, hJ_I, hJ_R, hR_I, hR_J, hN_I, hN_J, hN_R, wI_I, wJ_J, upd_at, updL_at, kR_s, Option.toList, List.append_nil, List.nil_append, List.cons_append, if_true, if_false, reduceIte, Bool.false_eq_true, not_true_eq_false, not_false_eq_true, true_and, and_true, false_and, and_false, true_or, or_true,  Nat.reduceEqDiff, Nat.reduceAdd, Nat.reduceLeDiff]
  try rfl
theorem lw_bestCut {d a b i j L : Nat} {o5 o6 : Option Value} {h : qH} {S : AS} (I : LI h S j L) (hi : i + 6 ≤ L) (hL : L ≤ 3072) (ha : a + 13 ≤ 601024) (hb : b + 92 ≤ 7293034) : LO d a b 794 i j L o5 o6 h := by
  have ha0 : a ≤ 601024 := by omega
  have hb0 : b ≤ 7293034 := by omega
  have cL : (nI L).toNatClampNeg = L := nI_cl (by omega)
  have eL := I.2.2.2.1
  obtain ⟨h1, e1, f1, I1⟩ := q_bestCut (d := d + 2) I.1
  obtain ⟨h2, e2, c2, I2⟩ := m_bestCut (d := d + 2) (MI_cf I.2.1 f1 (CI_F I1))
  refine ⟨h2, _, 0, o5, o6, by omega, fun Q => ?_, LI_2 I f1 I1 c2 I2 (by omega) (sTr_tr t7_sBestCut)⟩
  have eL1 : hI h1 (SCR + 1) 0 = nI L := by rw [(f1.2 (SCR + 1) (by unfold SCR; omega)).1]; exact eL
  have eS : hI h1 SCR = hI h SCR := (f1.2 SCR (by unfold SCR; omega)).1
  simp (implicitDefEqProofs := false) only [rL_law_794, rL_law_794b, rL_law_795, rL_law_798, rL_law_798b, rL_law_799, rL_law_802, rL_law_805, rL_law_806, kA_0, kB_0, kA_44, kB_44, kA_56, kB_56, e1, e2, ha0, hb0, (by decide : (1000 : Nat) < 2000), Nat.add_zero, eq_self, pCL_law, pSL_law, pOL_law, pLL_law, pCX7_bestCut, pSX7_bestCut, pOX7_bestCut, pLX7_bestCut, pCX9_bestCut, pSX9_bestCut, pOX9_bestCut, pLX9_bestCut, kl_I, kl_J, kl_R, kl_T, kl_N, Nat.le_refl, Nat.zero_le, List.map_nil, List.map_cons, List.sum_nil, List.sum_cons, c_I, c_J, c_R, c_T, va_rf, hI_wI, hJ_wJ, hR_wR, hI_J, hI_R, hJ_I, hJ_R, hR_I, hR_J, hN_I, hN_J, hN_R, wI_I, wJ_J, upd_at, updL_at, kR_s, Option.toList, List.append_nil, List.nil_append, List.cons_append, if_true, if_false, reduceIte, Bool.false_eq_true, not_true_eq_false, not_false_eq_true, true_and, and_true, false_and, and_false, true_or, or_true,  Nat.reduceEqDiff, Nat.reduceAdd, Nat.reduceLeDiff]
  try rfl
theorem lw_fits {d a b i j L : Nat} {o5 o6 : Option Value} {h : qH} {S : AS} (I : LI h S j L) (hi : i + 6 ≤ L) (hL : L ≤ 3072) (ha : a + 13 ≤ 601024) (hb : b + 92 ≤ 7293034) : LO d a b 807 i j L o5 o6 h := by
  have ha0 : a ≤ 601024 := by omega
  have hb0 : b ≤ 7293034 := by omega
  have cL : (nI L).toNatClampNeg = L := nI_cl (by omega)
  have eL := I.2.2.2.1
  obtain ⟨h1, e1, f1, I1⟩ := q_fits (d := d + 2) I.1
  obtain ⟨h2, e2, c2, I2⟩ := m_fits (d := d + 2) (MI_cf I.2.1 f1 (CI_F I1))
  refine ⟨h2, _, 0, o5, o6, by omega, fun Q => ?_, LI_2 I f1 I1 c2 I2 (by omega) (sTr_tr t7_sFits)⟩
  have eL1 : hI h1 (SCR + 1) 0 = nI L := by rw [(f1.2 (SCR + 1) (by unfold SCR; omega)).1]; exact eL
  have eS : hI h1 SCR = hI h SCR := (f1.2 SCR (by unfold SCR; omega)).1
  simp (implicitDefEqProofs := false) only [rL_law_807, rL_law_807b, rL_law_808, rL_law_811, rL_law_811b, rL_law_812, rL_law_815, rL_law_818, rL_law_819, kA_0, kB_0, kA_44, kB_44, kA_56, kB_56, e1, e2, ha0, hb0, (by decide : (1000 : Nat) < 2000), Nat.add_zero, eq_self, pCL_law, pSL_law, pOL_law, pLL_law, pCX7_fits, pSX7_fits, pOX7_fits, pLX7_fits, pCX9_fits, pSX9_fits, pOX9_fits, pLX9_fits, kl_I, kl_J, kl_R, kl_T, kl_N, Nat.le_refl, Nat.zero_le, List.map_nil, List.map_cons, List.sum_nil, List.sum_cons, c_I, c_J, c_R, c_T, va_rf, hI_wI, hJ_wJ, hR_wR, hI_J, hI_R, hJ_I, hJ_R, hR_I, hR_J, hN_I, hN_J, hN_R, wI_I, wJ_J, upd_at, updL_at, kR_s, Option.toList, List.append_nil, List.nil_append, List.cons_append, if_true, if_false, reduceIte, Bool.false_eq_true, not_true_eq_false, not_false_eq_true, true_and, and_true, false_and, and_false, true_or, or_true,  Nat.reduceEqDiff, Nat.reduceAdd, Nat.reduceLeDiff]
  try rfl
theorem lw_fitAt {d a b i j L : Nat} {o5 o6 : Option Value} {h : qH} {S : AS} (I : LI h S j L) (hi : i + 6 ≤ L) (hL : L ≤ 3072) (ha : a + 13 ≤ 601024) (hb : b + 92 ≤ 7293034) : LO d a b 820 i j L o5 o6 h := by
  have ha0 : a ≤ 601024 := by omega
  have hb0 : b ≤ 7293034 := by omega
  have cL : (nI L).toNatClampNeg = L := nI_cl (by omega)
  have eL := I.2.2.2.1
  have w1 : (nI (i + 1)).toNatClampNeg = i + 1 := nI_cl (by omega)
  have v1 : vpB (nI (i + 1)) L = true := vB (by omega) hL
  have w2 : (nI (i + 2)).toNatClampNeg = i + 2 := nI_cl (by omega)
  have v2 : vpB (nI (i + 2)) L = true := vB (by omega) hL
  obtain ⟨h1, e1, f1, I1⟩ := q_fitAt (d := d + 2) (y := hI h SCR (i + 1)) (z := hI h SCR (i + 2)) I.1
  obtain ⟨h2, e2, c2, I2⟩ := m_fitAt (d := d + 2) (y := hI h SCR (i + 1)) (z := hI h SCR (i + 2)) (MI_cf I.2.1 f1 (CI_F I1))
  refine ⟨h2, _, 0, o5, o6, by omega, fun Q => ?_, LI_2 I f1 I1 c2 I2 (by omega) (sTr_tr t7_sFitAt)⟩
  have eL1 : hI h1 (SCR + 1) 0 = nI L := by rw [(f1.2 (SCR + 1) (by unfold SCR; omega)).1]; exact eL
  have eS : hI h1 SCR = hI h SCR := (f1.2 SCR (by unfold SCR; omega)).1
  simp (implicitDefEqProofs := false) only [rL_law_820, rL_law_820b, rL_law_821, rL_law_821b, rL_law_822, rL_law_824, rL_law_825, rL_law_826, rL_law_827, rL_law_827b, rL_law_828, rL_law_830, rL_law_831, rL_law_832, rL_law_833, rL_law_836, rL_law_836b, rL_law_837, rL_law_837b, rL_law_838, rL_law_840, rL_law_841, rL_law_842, rL_law_843, rL_law_843b, rL_law_844, rL_law_846, rL_law_847, rL_law_848, rL_law_849, rL_law_852, rL_law_855, rL_law_856, kA_0, kB_0, kA_44, kB_44, kA_56, kB_56, e1, e2, eL, eL1, eS, cL, w1, v1, nI_1, w2, v2, nI_p2, ha0, hb0, (by decide : (1000 : Nat) < 2000), Nat.add_zero, eq_self, pCL_law, pSL_law, pOL_law, pLL_law, pCX7_fitAt, pSX7_fitAt, pOX7_fitAt, pLX7_fitAt, pCX9_fitAt, pSX9_fitAt, pOX9_fitAt, pLX9_fitAt, kl_I, kl_J, kl_R, kl_T, kl_N, Nat.le_refl, Nat.zero_le, List.map_nil, List.map_cons, List.sum_nil, List.sum_cons, c_I, c_J, c_R, c_T, va_rf, hI_wI, hJ_wJ, hR_wR, hI_J, hI_R, hJ_I, hJ_R, hR_I, hR_J, hN_I, hN_J, hN_R, wI_I, wJ_J, upd_at, updL_at, kR_s, Option.toList, List.append_nil, List.nil_append, List.cons_append, if_true, if_false, reduceIte, Bool.false_eq_true, not_true_eq_false, not_false_eq_true, true_and, and_true, false_and, and_false, true_or, or_true,  Nat.reduceEqDiff, Nat.reduceAdd, Nat.reduceLeDiff]
  try rfl
theorem lw_nextBy {d a b i j L : Nat} {o5 o6 : Option Value} {h : qH} {S : AS} (I : LI h S j L) (hi : i + 6 ≤ L) (hL : L ≤ 3072) (ha : a + 13 ≤ 601024) (hb : b + 92 ≤ 7293034) : LO d a b 857 i j L o5 o6 h := by
  have ha0 : a ≤ 601024 := by omega
  have hb0 : b ≤ 7293034 := by omega
  have cL : (nI L).toNatClampNeg = L := nI_cl (by omega)
  have eL := I.2.2.2.1
  have w1 : (nI (i + 1)).toNatClampNeg = i + 1 := nI_cl (by omega)
  have v1 : vpB (nI (i + 1)) L = true := vB (by omega) hL
  have w2 : (nI (i + 2)).toNatClampNeg = i + 2 := nI_cl (by omega)
  have v2 : vpB (nI (i + 2)) L = true := vB (by omega) hL
  obtain ⟨h1, e1, f1, I1⟩ := q_nextBy (d := d + 2) (y := hI h SCR (i + 1)) (z := hI h SCR (i + 2)) I.1
  obtain ⟨h2, e2, c2, I2⟩ := m_nextBy (d := d + 2) (y := hI h SCR (i + 1)) (z := hI h SCR (i + 2)) (MI_cf I.2.1 f1 (CI_F I1))
  refine ⟨h2, _, 0, o5, o6, by omega, fun Q => ?_, LI_2 I f1 I1 c2 I2 (by omega) (sTr_tr t7_sNextBy)⟩
  have eL1 : hI h1 (SCR + 1) 0 = nI L := by rw [(f1.2 (SCR + 1) (by unfold SCR; omega)).1]; exact eL
  have eS : hI h1 SCR = hI h SCR := (f1.2 SCR (by unfold SCR; omega)).1
  simp (implicitDefEqProofs := false) only [rL_law_857, rL_law_857b, rL_law_858, rL_law_858b, rL_law_859, rL_law_861, rL_law_862, rL_law_863, rL_law_864, rL_law_864b, rL_law_865, rL_law_867, rL_law_868, rL_law_869, rL_law_870, rL_law_873, rL_law_873b, rL_law_874, rL_law_874b, rL_law_875, rL_law_877, rL_law_878, rL_law_879, rL_law_880, rL_law_880b, rL_law_881, rL_law_883, rL_law_884, rL_law_885, rL_law_886, rL_law_889, rL_law_892, rL_law_893, kA_0, kB_0, kA_44, kB_44, kA_56, kB_56, e1, e2, eL, eL1, eS, cL, w1, v1, nI_1, w2, v2, nI_p2, ha0, hb0, (by decide : (1000 : Nat) < 2000), Nat.add_zero, eq_self, pCL_law, pSL_law, pOL_law, pLL_law, pCX7_nextBy, pSX7_nextBy, pOX7_nextBy, pLX7_nextBy, pCX9_nextBy, pSX9_nextBy, pOX9_nextBy, pLX9_nextBy, kl_I, kl_J, kl_R, kl_T, kl_N, Nat.le_refl, Nat.zero_le, List.map_nil, List.map_cons, List.sum_nil, List.sum_cons, c_I, c_J, c_R, c_T, va_rf, hI_wI, hJ_wJ, hR_wR, hI_J, hI_R, hJ_I, hJ_R, hR_I, hR_J, hN_I, hN_J, hN_R, wI_I, wJ_J, upd_at, updL_at, kR_s, Option.toList, List.append_nil, List.nil_append, List.cons_append, if_true, if_false, reduceIte, Bool.false_eq_true, not_true_eq_false, not_false_eq_true, true_and, and_true, false_and, and_false, true_or, or_true,  Nat.reduceEqDiff, Nat.reduceAdd, Nat.reduceLeDiff]
  try rfl
theorem lw_tryDay {d a b i j L : Nat} {o5 o6 : Option Value} {h : qH} {S : AS} (I : LI h S j L) (hi : i + 6 ≤ L) (hL : L ≤ 3072) (ha : a + 13 ≤ 601024) (hb : b + 92 ≤ 7293034) : LO d a b 894 i j L o5 o6 h := by
  have ha0 : a ≤ 601024 := by omega
  have hb0 : b ≤ 7293034 := by omega
  have cL : (nI L).toNatClampNeg = L := nI_cl (by omega)
  have eL := I.2.2.2.1
  obtain ⟨h1, e1, f1, I1⟩ := q_tryDay (d := d + 2) I.1
  obtain ⟨h2, e2, c2, I2⟩ := m_tryDay (d := d + 2) (MI_cf I.2.1 f1 (CI_F I1))
  refine ⟨h2, _, 0, o5, o6, by omega, fun Q => ?_, LI_2 I f1 I1 c2 I2 (by omega) (sTr_tr t7_sTryDay)⟩
  have eL1 : hI h1 (SCR + 1) 0 = nI L := by rw [(f1.2 (SCR + 1) (by unfold SCR; omega)).1]; exact eL
  have eS : hI h1 SCR = hI h SCR := (f1.2 SCR (by unfold SCR; omega)).1
  simp (implicitDefEqProofs := false) only [rL_law_894, rL_law_894b, rL_law_895, rL_law_898, rL_law_898b, rL_law_899, rL_law_902, rL_law_905, rL_law_906, kA_0, kB_0, kA_44, kB_44, kA_56, kB_56, e1, e2, ha0, hb0, (by decide : (1000 : Nat) < 2000), Nat.add_zero, eq_self, pCL_law, pSL_law, pOL_law, pLL_law, pCX7_tryDay, pSX7_tryDay, pOX7_tryDay, pLX7_tryDay, pCX9_tryDay, pSX9_tryDay, pOX9_tryDay, pLX9_tryDay, kl_I, kl_J, kl_R, kl_T, kl_N, Nat.le_refl, Nat.zero_le, List.map_nil, List.map_cons, List.sum_nil, List.sum_cons, c_I, c_J, c_R, c_T, va_rf, hI_wI, hJ_wJ, hR_wR, hI_J, hI_R, hJ_I, hJ_R, hR_I, hR_J, hN_I, hN_J, hN_R, wI_I, wJ_J, upd_at, updL_at, kR_s, Option.toList, List.append_nil, List.nil_append, List.cons_append, if_true, if_false, reduceIte, Bool.false_eq_true, not_true_eq_false, not_false_eq_true, true_and, and_true, false_and, and_false, true_or, or_true,  Nat.reduceEqDiff, Nat.reduceAdd, Nat.reduceLeDiff]
  try rfl
theorem lw_tryLeaves {d a b i j L : Nat} {o5 o6 : Option Value} {h : qH} {S : AS} (I : LI h S j L) (hi : i + 6 ≤ L) (hL : L ≤ 3072) (ha : a + 13 ≤ 601024) (hb : b + 92 ≤ 7293034) : LO d a b 907 i j L o5 o6 h := by
  have ha0 : a ≤ 601024 := by omega
  have hb0 : b ≤ 7293034 := by omega
  have cL : (nI L).toNatClampNeg = L := nI_cl (by omega)
  have eL := I.2.2.2.1
  obtain ⟨h1, e1, f1, I1⟩ := q_tryLeaves (d := d + 2) I.1
  obtain ⟨h2, e2, c2, I2⟩ := m_tryLeaves (d := d + 2) (MI_cf I.2.1 f1 (CI_F I1))
  refine ⟨h2, _, 0, o5, o6, by omega, fun Q => ?_, LI_2 I f1 I1 c2 I2 (by omega) (sTr_tr t7_sTryLeaves)⟩
  have eL1 : hI h1 (SCR + 1) 0 = nI L := by rw [(f1.2 (SCR + 1) (by unfold SCR; omega)).1]; exact eL
  have eS : hI h1 SCR = hI h SCR := (f1.2 SCR (by unfold SCR; omega)).1
  simp (implicitDefEqProofs := false) only [rL_law_907, rL_law_907b, rL_law_908, rL_law_911, rL_law_911b, rL_law_912, rL_law_915, rL_law_918, rL_law_919, kA_0, kB_0, kA_44, kB_44, kA_56, kB_56, e1, e2, ha0, hb0, (by decide : (1000 : Nat) < 2000), Nat.add_zero, eq_self, pCL_law, pSL_law, pOL_law, pLL_law, pCX7_tryLeaves, pSX7_tryLeaves, pOX7_tryLeaves, pLX7_tryLeaves, pCX9_tryLeaves, pSX9_tryLeaves, pOX9_tryLeaves, pLX9_tryLeaves, kl_I, kl_J, kl_R, kl_T, kl_N, Nat.le_refl, Nat.zero_le, List.map_nil, List.map_cons, List.sum_nil, List.sum_cons, c_I, c_J, c_R, c_T, va_rf, hI_wI, hJ_wJ, hR_wR, hI_J, hI_R, hJ_I, hJ_R, hR_I, hR_J, hN_I, hN_J, hN_R, wI_I, wJ_J, upd_at, updL_at, kR_s, Option.toList, List.append_nil, List.nil_append, List.cons_append, if_true, if_false, reduceIte, Bool.false_eq_true, not_true_eq_false, not_false_eq_true, true_and, and_true, false_and, and_false, true_or, or_true,  Nat.reduceEqDiff, Nat.reduceAdd, Nat.reduceLeDiff]
  try rfl
theorem lw_judge {d a b i j L : Nat} {o5 o6 : Option Value} {h : qH} {S : AS} (I : LI h S j L) (hi : i + 6 ≤ L) (hL : L ≤ 3072) (ha : a + 13 ≤ 601024) (hb : b + 92 ≤ 7293034) : LO d a b 920 i j L o5 o6 h := by
  have ha0 : a ≤ 601024 := by omega
  have hb0 : b ≤ 7293034 := by omega
  have cL : (nI L).toNatClampNeg = L := nI_cl (by omega)
  have eL := I.2.2.2.1
  obtain ⟨h1, e1, f1, I1⟩ := q_judge (d := d + 2) I.1
  obtain ⟨h2, e2, c2, I2⟩ := m_judge (d := d + 2) (MI_cf I.2.1 f1 (CI_F I1))
  refine ⟨h2, _, 0, o5, o6, by omega, fun Q => ?_, LI_2 I f1 I1 c2 I2 (by omega) (sTr_tr t7_sJudge)⟩
  have eL1 : hI h1 (SCR + 1) 0 = nI L := by rw [(f1.2 (SCR + 1) (by unfold SCR; omega)).1]; exact eL
  have eS : hI h1 SCR = hI h SCR := (f1.2 SCR (by unfold SCR; omega)).1
  simp (implicitDefEqProofs := false) only [rL_law_920, rL_law_920b, rL_law_921, rL_law_924, rL_law_924b, rL_law_925, rL_law_928, rL_law_931, rL_law_932, kA_0, kB_0, kA_44, kB_44, kA_56, kB_56, e1, e2, ha0, hb0, (by decide : (1000 : Nat) < 2000), Nat.add_zero, eq_self, pCL_law, pSL_law, pOL_law, pLL_law, pCX7_judge, pSX7_judge, pOX7_judge, pLX7_judge, pCX9_judge, pSX9_judge, pOX9_judge, pLX9_judge, kl_I, kl_J, kl_R, kl_T, kl_N, Nat.le_refl, Nat.zero_le, List.map_nil, List.map_cons, List.sum_nil, List.sum_cons, c_I, c_J, c_R, c_T, va_rf, hI_wI, hJ_wJ, hR_wR, hI_J, hI_R, hJ_I, hJ_R, hR_I, hR_J, hN_I, hN_J, hN_R, wI_I, wJ_J, upd_at, updL_at, kR_s, Option.toList, List.append_nil, List.nil_append, List.cons_append, if_true, if_false, reduceIte, Bool.false_eq_true, not_true_eq_false, not_false_eq_true, true_and, and_true, false_and, and_false, true_or, or_true,  Nat.reduceEqDiff, Nat.reduceAdd, Nat.reduceLeDiff]
  try rfl
theorem lw_rings {d a b i j L : Nat} {o5 o6 : Option Value} {h : qH} {S : AS} (I : LI h S j L) (hi : i + 6 ≤ L) (hL : L ≤ 3072) (ha : a + 13 ≤ 601024) (hb : b + 92 ≤ 7293034) : LO d a b 933 i j L o5 o6 h := by
  have ha0 : a ≤ 601024 := by omega
  have hb0 : b ≤ 7293034 := by omega
  have cL : (nI L).toNatClampNeg = L := nI_cl (by omega)
  have eL := I.2.2.2.1
  have w1 : (nI (i + 1)).toNatClampNeg = i + 1 := nI_cl (by omega)
  have v1 : vpB (nI (i + 1)) L = true := vB (by omega) hL
  have w2 : (nI (i + 2)).toNatClampNeg = i + 2 := nI_cl (by omega)
  have v2 : vpB (nI (i + 2)) L = true := vB (by omega) hL
  have w3 : (nI (i + 3)).toNatClampNeg = i + 3 := nI_cl (by omega)
  have v3 : vpB (nI (i + 3)) L = true := vB (by omega) hL
  obtain ⟨p1, g1⟩ := xB (hI h SCR (i + 1))
  obtain ⟨p2, g2⟩ := xB (hI h SCR (i + 2))
  obtain ⟨p3, g3⟩ := xB (hI h SCR (i + 3))
  obtain ⟨h1, e1, f1, I1⟩ := q_rings (d := d + 2) (m := p1) (t := p2) (e := p3) I.1
  obtain ⟨h2, e2, c2, I2⟩ := m_rings (d := d + 2) (m := p1) (t := p2) (e := p3) (MI_cf I.2.1 f1 (CI_F I1))
  refine ⟨h2, _, 0, o5, o6, by omega, fun Q => ?_, LI_2 I f1 I1 c2 I2 (by omega) (sTr_tr t7_sRings)⟩
  have eL1 : hI h1 (SCR + 1) 0 = nI L := by rw [(f1.2 (SCR + 1) (by unfold SCR; omega)).1]; exact eL
  have eS : hI h1 SCR = hI h SCR := (f1.2 SCR (by unfold SCR; omega)).1
  cases p1 with
  | false =>
    have G1 : (hI h SCR (i + 1) = 0) = True := g1.trans (eq_self _)
    cases p2 with
    | false =>
      have G2 : (hI h SCR (i + 2) = 0) = True := g2.trans (eq_self _)
      cases p3 with
      | false =>
        have G3 : (hI h SCR (i + 3) = 0) = True := g3.trans (eq_self _)
        simp only [bI_t, bI_f] at e1 e2
        simp (implicitDefEqProofs := false) only [rL_law_933, rL_law_933b, rL_law_934, rL_law_934b, rL_law_935, rL_law_937, rL_law_938, rL_law_939, rL_law_940, rL_law_943, rL_law_944, rL_law_947, rL_law_948, rL_law_948b, rL_law_949, rL_law_951, rL_law_952, rL_law_953, rL_law_954, rL_law_957, rL_law_958, rL_law_961, rL_law_962, rL_law_962b, rL_law_963, rL_law_965, rL_law_966, rL_law_967, rL_law_968, rL_law_971, rL_law_972, rL_law_975, rL_law_976, rL_law_979, rL_law_979b, rL_law_980, rL_law_980b, rL_law_981, rL_law_983, rL_law_984, rL_law_985, rL_law_986, rL_law_989, rL_law_990, rL_law_993, rL_law_994, rL_law_994b, rL_law_995, rL_law_997, rL_law_998, rL_law_999, rL_law_1000, rL_law_1003, rL_law_1004, rL_law_1007, rL_law_1008, rL_law_1008b, rL_law_1009, rL_law_1011, rL_law_1012, rL_law_1013, rL_law_1014, rL_law_1017, rL_law_1018, rL_law_1021, rL_law_1022, rL_law_1025, rL_law_1028, rL_law_1029, kA_0, kB_0, kA_44, kB_44, kA_56, kB_56, e1, e2, G1, G2, G3, eL, eL1, eS, cL, w1, v1, nI_1, w2, v2, nI_p2, w3, v3, nI_p3, ha0, hb0, (by decide : (1000 : Nat) < 2000), Nat.add_zero, eq_self, pCL_law, pSL_law, pOL_law, pLL_law, pCX7_rings, pSX7_rings, pOX7_rings, pLX7_rings, pCX9_rings, pSX9_rings, pOX9_rings, pLX9_rings, kl_I, kl_J, kl_R, kl_T, kl_N, Nat.le_refl, Nat.zero_le, List.map_nil, List.map_cons, List.sum_nil, List.sum_cons, c_I, c_J, c_R, c_T, va_rf, hI_wI, hJ_wJ, hR_wR, hI_J, hI_R, hJ_I, hJ_R, hR_I, hR_J, hN_I, hN_J, hN_R, wI_I, wJ_J, upd_at, updL_at, kR_s, Option.toList, List.append_nil, List.nil_append, List.cons_append, if_true, if_false, reduceIte, Bool.false_eq_true, not_true_eq_false, not_false_eq_true, true_and, and_true, false_and, and_false, true_or, or_true,  Nat.reduceEqDiff, Nat.reduceAdd, Nat.reduceLeDiff]
        try rfl
      | true =>
        have G3 : (hI h SCR (i + 3) = 0) = False := g3.trans (by simp)
        simp only [bI_t, bI_f] at e1 e2
        simp (implicitDefEqProofs := false) only [rL_law_933, rL_law_933b, rL_law_934, rL_law_934b, rL_law_935, rL_law_937, rL_law_938, rL_law_939, rL_law_940, rL_law_943, rL_law_944, rL_law_947, rL_law_948, rL_law_948b, rL_law_949, rL_law_951, rL_law_952, rL_law_953, rL_law_954, rL_law_957, rL_law_958, rL_law_961, rL_law_962, rL_law_962b, rL_law_963, rL_law_965, rL_law_966, rL_law_967, rL_law_968, rL_law_971, rL_law_972, rL_law_975, rL_law_976, rL_law_979, rL_law_979b, rL_law_980, rL_law_980b, rL_law_981, rL_law_983, rL_law_984, rL_law_985, rL_law_986, rL_law_989, rL_law_990, rL_law_993, rL_law_994, rL_law_994b, rL_law_995, rL_law_997, rL_law_998, rL_law_999, rL_law_1000, rL_law_1003, rL_law_1004, rL_law_1007, rL_law_1008, rL_law_1008b, rL_law_1009, rL_law_1011, rL_law_1012, rL_law_1013, rL_law_1014, rL_law_1017, rL_law_1018, rL_law_1021, rL_law_1022, rL_law_1025, rL_law_1028, rL_law_1029, kA_0, kB_0, kA_44, kB_44, kA_56, kB_56, e1, e2, G1, G2, G3, eL, eL1, eS, cL, w1, v1, nI_1, w2, v2, nI_p2, w3, v3, nI_p3, ha0, hb0, (by decide : (1000 : Nat) < 2000), Nat.add_zero, eq_self, pCL_law, pSL_law, pOL_law, pLL_law, pCX7_rings, pSX7_rings, pOX7_rings, pLX7_rings, pCX9_rings, pSX9_rings, pOX9_rings, pLX9_rings, kl_I, kl_J, kl_R, kl_T, kl_N, Nat.le_refl, Nat.zero_le, List.map_nil, List.map_cons, List.sum_nil, List.sum_cons, c_I, c_J, c_R, c_T, va_rf, hI_wI, hJ_wJ, hR_wR, hI_J, hI_R, hJ_I, hJ_R, hR_I, hR_J, hN_I, hN_J, hN_R, wI_I, wJ_J, upd_at, updL_at, kR_s, Option.toList, List.append_nil, List.nil_append, List.cons_append, if_true, if_false, reduceIte, Bool.false_eq_true, not_true_eq_false, not_false_eq_true, true_and, and_true, false_and, and_false, true_or, or_true,  Nat.reduceEqDiff, Nat.reduceAdd, Nat.reduceLeDiff]
        try rfl
    | true =>
      have G2 : (hI h SCR (i + 2) = 0) = False := g2.trans (by simp)
      cases p3 with
      | false =>
        have G3 : (hI h SCR (i + 3) = 0) = True := g3.trans (eq_self _)
        simp only [bI_t, bI_f] at e1 e2
        simp (implicitDefEqProofs := false) only [rL_law_933, rL_law_933b, rL_law_934, rL_law_934b, rL_law_935, rL_law_937, rL_law_938, rL_law_939, rL_law_940, rL_law_943, rL_law_944, rL_law_947, rL_law_948, rL_law_948b, rL_law_949, rL_law_951, rL_law_952, rL_law_953, rL_law_954, rL_law_957, rL_law_958, rL_law_961, rL_law_962, rL_law_962b, rL_law_963, rL_law_965, rL_law_966, rL_law_967, rL_law_968, rL_law_971, rL_law_972, rL_law_975, rL_law_976, rL_law_979, rL_law_979b, rL_law_980, rL_law_980b, rL_law_981, rL_law_983, rL_law_984, rL_law_985, rL_law_986, rL_law_989, rL_law_990, rL_law_993, rL_law_994, rL_law_994b, rL_law_995, rL_law_997, rL_law_998, rL_law_999, rL_law_1000, rL_law_1003, rL_law_1004, rL_law_1007, rL_law_1008, rL_law_1008b, rL_law_1009, rL_law_1011, rL_law_1012, rL_law_1013, rL_law_1014, rL_law_1017, rL_law_1018, rL_law_1021, rL_law_1022, rL_law_1025, rL_law_1028, rL_law_1029, kA_0, kB_0, kA_44, kB_44, kA_56, kB_56, e1, e2, G1, G2, G3, eL, eL1, eS, cL, w1, v1, nI_1, w2, v2, nI_p2, w3, v3, nI_p3, ha0, hb0, (by decide : (1000 : Nat) < 2000), Nat.add_zero, eq_self, pCL_law, pSL_law, pOL_law, pLL_law, pCX7_rings, pSX7_rings, pOX7_rings, pLX7_rings, pCX9_rings, pSX9_rings, pOX9_rings, pLX9_rings, kl_I, kl_J, kl_R, kl_T, kl_N, Nat.le_refl, Nat.zero_le, List.map_nil, List.map_cons, List.sum_nil, List.sum_cons, c_I, c_J, c_R, c_T, va_rf, hI_wI, hJ_wJ, hR_wR, hI_J, hI_R, hJ_I, hJ_R, hR_I, hR_J, hN_I, hN_J, hN_R, wI_I, wJ_J, upd_at, updL_at, kR_s, Option.toList, List.append_nil, List.nil_append, List.cons_append, if_true, if_false, reduceIte, Bool.false_eq_true, not_true_eq_false, not_false_eq_true, true_and, and_true, false_and, and_false, true_or, or_true,  Nat.reduceEqDiff, Nat.reduceAdd, Nat.reduceLeDiff]
        try rfl
      | true =>
        have G3 : (hI h SCR (i + 3) = 0) = False := g3.trans (by simp)
        simp only [bI_t, bI_f] at e1 e2
        simp (implicitDefEqProofs := false) only [rL_law_933, rL_law_933b, rL_law_934, rL_law_934b, rL_law_935, rL_law_937, rL_law_938, rL_law_939, rL_law_940, rL_law_943, rL_law_944, rL_law_947, rL_law_948, rL_law_948b, rL_law_949, rL_law_951, rL_law_952, rL_law_953, rL_law_954, rL_law_957, rL_law_958, rL_law_961, rL_law_962, rL_law_962b, rL_law_963, rL_law_965, rL_law_966, rL_law_967, rL_law_968, rL_law_971, rL_law_972, rL_law_975, rL_law_976, rL_law_979, rL_law_979b, rL_law_980, rL_law_980b, rL_law_981, rL_law_983, rL_law_984, rL_law_985, rL_law_986, rL_law_989, rL_law_990, rL_law_993, rL_law_994, rL_law_994b, rL_law_995, rL_law_997, rL_law_998, rL_law_999, rL_law_1000, rL_law_1003, rL_law_1004, rL_law_1007, rL_law_1008, rL_law_1008b, rL_law_1009, rL_law_1011, rL_law_1012, rL_law_1013, rL_law_1014, rL_law_1017, rL_law_1018, rL_law_1021, rL_law_1022, rL_law_1025, rL_law_1028, rL_law_1029, kA_0, kB_0, kA_44, kB_44, kA_56, kB_56, e1, e2, G1, G2, G3, eL, eL1, eS, cL, w1, v1, nI_1, w2, v2, nI_p2, w3, v3, nI_p3, ha0, hb0, (by decide : (1000 : Nat) < 2000), Nat.add_zero, eq_self, pCL_law, pSL_law, pOL_law, pLL_law, pCX7_rings, pSX7_rings, pOX7_rings, pLX7_rings, pCX9_rings, pSX9_rings, pOX9_rings, pLX9_rings, kl_I, kl_J, kl_R, kl_T, kl_N, Nat.le_refl, Nat.zero_le, List.map_nil, List.map_cons, List.sum_nil, List.sum_cons, c_I, c_J, c_R, c_T, va_rf, hI_wI, hJ_wJ, hR_wR, hI_J, hI_R, hJ_I, hJ_R, hR_I, hR_J, hN_I, hN_J, hN_R, wI_I, wJ_J, upd_at, updL_at, kR_s, Option.toList, List.append_nil, List.nil_append, List.cons_append, if_true, if_false, reduceIte, Bool.false_eq_true, not_true_eq_false, not_false_eq_true, true_and, and_true, false_and, and_false, true_or, or_true,  Nat.reduceEqDiff, Nat.reduceAdd, Nat.reduceLeDiff]
        try rfl
  | true =>
    have G1 : (hI h SCR (i + 1) = 0) = False := g1.trans (by simp)
    cases p2 with
    | false =>
      have G2 : (hI h SCR (i + 2) = 0) = True := g2.trans (eq_self _)
      cases p3 with
      | false =>
        have G3 : (hI h SCR (i + 3) = 0) = True := g3.trans (eq_self _)
        simp only [bI_t, bI_f] at e1 e2
        simp (implicitDefEqProofs := false) only [rL_law_933, rL_law_933b, rL_law_934, rL_law_934b, rL_law_935, rL_law_937, rL_law_938, rL_law_939, rL_law_940, rL_law_943, rL_law_944, rL_law_947, rL_law_948, rL_law_948b, rL_law_949, rL_law_951, rL_law_952, rL_law_953, rL_law_954, rL_law_957, rL_law_958, rL_law_961, rL_law_962, rL_law_962b, rL_law_963, rL_law_965, rL_law_966, rL_law_967, rL_law_968, rL_law_971, rL_law_972, rL_law_975, rL_law_976, rL_law_979, rL_law_979b, rL_law_980, rL_law_980b, rL_law_981, rL_law_983, rL_law_984, rL_law_985, rL_law_986, rL_law_989, rL_law_990, rL_law_993, rL_law_994, rL_law_994b, rL_law_995, rL_law_997, rL_law_998, rL_law_999, rL_law_1000, rL_law_1003, rL_law_1004, rL_law_1007, rL_law_1008, rL_law_1008b, rL_law_1009, rL_law_1011, rL_law_1012, rL_law_1013, rL_law_1014, rL_law_1017, rL_law_1018, rL_law_1021, rL_law_1022, rL_law_1025, rL_law_1028, rL_law_1029, kA_0, kB_0, kA_44, kB_44, kA_56, kB_56, e1, e2, G1, G2, G3, eL, eL1, eS, cL, w1, v1, nI_1, w2, v2, nI_p2, w3, v3, nI_p3, ha0, hb0, (by decide : (1000 : Nat) < 2000), Nat.add_zero, eq_self, pCL_law, pSL_law, pOL_law, pLL_law, pCX7_rings, pSX7_rings, pOX7_rings, pLX7_rings, pCX9_rings, pSX9_rings, pOX9_rings, pLX9_rings, kl_I, kl_J, kl_R, kl_T, kl_N, Nat.le_refl, Nat.zero_le, List.map_nil, List.map_cons, List.sum_nil, List.sum_cons, c_I, c_J, c_R, c_T, va_rf, hI_wI, hJ_wJ, hR_wR, hI_J, hI_R, hJ_I, hJ_R, hR_I, hR_J, hN_I, hN_J, hN_R, wI_I, wJ_J, upd_at, updL_at, kR_s, Option.toList, List.append_nil, List.nil_append, List.cons_append, if_true, if_false, reduceIte, Bool.false_eq_true, not_true_eq_false, not_false_eq_true, true_and, and_true, false_and, and_false, true_or, or_true,  Nat.reduceEqDiff, Nat.reduceAdd, Nat.reduceLeDiff]
        try rfl
      | true =>
        have G3 : (hI h SCR (i + 3) = 0) = False := g3.trans (by simp)
        simp only [bI_t, bI_f] at e1 e2
        simp (implicitDefEqProofs := false) only [rL_law_933, rL_law_933b, rL_law_934, rL_law_934b, rL_law_935, rL_law_937, rL_law_938, rL_law_939, rL_law_940, rL_law_943, rL_law_944, rL_law_947, rL_law_948, rL_law_948b, rL_law_949, rL_law_951, rL_law_952, rL_law_953, rL_law_954, rL_law_957, rL_law_958, rL_law_961, rL_law_962, rL_law_962b, rL_law_963, rL_law_965, rL_law_966, rL_law_967, rL_law_968, rL_law_971, rL_law_972, rL_law_975, rL_law_976, rL_law_979, rL_law_979b, rL_law_980, rL_law_980b, rL_law_981, rL_law_983, rL_law_984, rL_law_985, rL_law_986, rL_law_989, rL_law_990, rL_law_993, rL_law_994, rL_law_994b, rL_law_995, rL_law_997, rL_law_998, rL_law_999, rL_law_1000, rL_law_1003, rL_law_1004, rL_law_1007, rL_law_1008, rL_law_1008b, rL_law_1009, rL_law_1011, rL_law_1012, rL_law_1013, rL_law_1014, rL_law_1017, rL_law_1018, rL_law_1021, rL_law_1022, rL_law_1025, rL_law_1028, rL_law_1029, kA_0, kB_0, kA_44, kB_44, kA_56, kB_56, e1, e2, G1, G2, G3, eL, eL1, eS, cL, w1, v1, nI_1, w2, v2, nI_p2, w3, v3, nI_p3, ha0, hb0, (by decide : (1000 : Nat) < 2000), Nat.add_zero, eq_self, pCL_law, pSL_law, pOL_law, pLL_law, pCX7_rings, pSX7_rings, pOX7_rings, pLX7_rings, pCX9_rings, pSX9_rings, pOX9_rings, pLX9_rings, kl_I, kl_J, kl_R, kl_T, kl_N, Nat.le_refl, Nat.zero_le, List.map_nil, List.map_cons, List.sum_nil, List.sum_cons, c_I, c_J, c_R, c_T, va_rf, hI_wI, hJ_wJ, hR_wR, hI_J, hI_R, hJ_I, hJ_R, hR_I, hR_J, hN_I, hN_J, hN_R, wI_I, wJ_J, upd_at, updL_at, kR_s, Option.toList, List.append_nil, List.nil_append, List.cons_append, if_true, if_false, reduceIte, Bool.false_eq_true, not_true_eq_false, not_false_eq_true, true_and, and_true, false_and, and_false, true_or, or_true,  Nat.reduceEqDiff, Nat.reduceAdd, Nat.reduceLeDiff]
        try rfl
    | true =>
      have G2 : (hI h SCR (i + 2) = 0) = False := g2.trans (by simp)
      cases p3 with
      | false =>
        have G3 : (hI h SCR (i + 3) = 0) = True := g3.trans (eq_self _)
        simp only [bI_t, bI_f] at e1 e2
        simp (implicitDefEqProofs := false) only [rL_law_933, rL_law_933b, rL_law_934, rL_law_934b, rL_law_935, rL_law_937, rL_law_938, rL_law_939, rL_law_940, rL_law_943, rL_law_944, rL_law_947, rL_law_948, rL_law_948b, rL_law_949, rL_law_951, rL_law_952, rL_law_953, rL_law_954, rL_law_957, rL_law_958, rL_law_961, rL_law_962, rL_law_962b, rL_law_963, rL_law_965, rL_law_966, rL_law_967, rL_law_968, rL_law_971, rL_law_972, rL_law_975, rL_law_976, rL_law_979, rL_law_979b, rL_law_980, rL_law_980b, rL_law_981, rL_law_983, rL_law_984, rL_law_985, rL_law_986, rL_law_989, rL_law_990, rL_law_993, rL_law_994, rL_law_994b, rL_law_995, rL_law_997, rL_law_998, rL_law_999, rL_law_1000, rL_law_1003, rL_law_1004, rL_law_1007, rL_law_1008, rL_law_1008b, rL_law_1009, rL_law_1011, rL_law_1012, rL_law_1013, rL_law_1014, rL_law_1017, rL_law_1018, rL_law_1021, rL_law_1022, rL_law_1025, rL_law_1028, rL_law_1029, kA_0, kB_0, kA_44, kB_44, kA_56, kB_56, e1, e2, G1, G2, G3, eL, eL1, eS, cL, w1, v1, nI_1, w2, v2, nI_p2, w3, v3, nI_p3, ha0, hb0, (by decide : (1000 : Nat) < 2000), Nat.add_zero, eq_self, pCL_law, pSL_law, pOL_law, pLL_law, pCX7_rings, pSX7_rings, pOX7_rings, pLX7_rings, pCX9_rings, pSX9_rings, pOX9_rings, pLX9_rings, kl_I, kl_J, kl_R, kl_T, kl_N, Nat.le_refl, Nat.zero_le, List.map_nil, List.map_cons, List.sum_nil, List.sum_cons, c_I, c_J, c_R, c_T, va_rf, hI_wI, hJ_wJ, hR_wR, hI_J, hI_R, hJ_I, hJ_R, hR_I, hR_J, hN_I, hN_J, hN_R, wI_I, wJ_J, upd_at, updL_at, kR_s, Option.toList, List.append_nil, List.nil_append, List.cons_append, if_true, if_false, reduceIte, Bool.false_eq_true, not_true_eq_false, not_false_eq_true, true_and, and_true, false_and, and_false, true_or, or_true,  Nat.reduceEqDiff, Nat.reduceAdd, Nat.reduceLeDiff]
        try rfl
      | true =>
        have G3 : (hI h SCR (i + 3) = 0) = False := g3.trans (by simp)
        simp only [bI_t, bI_f] at e1 e2
        simp (implicitDefEqProofs := false) only [rL_law_933, rL_law_933b, rL_law_934, rL_law_934b, rL_law_935, rL_law_937, rL_law_938, rL_law_939, rL_law_940, rL_law_943, rL_law_944, rL_law_947, rL_law_948, rL_law_948b, rL_law_949, rL_law_951, rL_law_952, rL_law_953, rL_law_954, rL_law_957, rL_law_958, rL_law_961, rL_law_962, rL_law_962b, rL_law_963, rL_law_965, rL_law_966, rL_law_967, rL_law_968, rL_law_971, rL_law_972, rL_law_975, rL_law_976, rL_law_979, rL_law_979b, rL_law_980, rL_law_980b, rL_law_981, rL_law_983, rL_law_984, rL_law_985, rL_law_986, rL_law_989, rL_law_990, rL_law_993, rL_law_994, rL_law_994b, rL_law_995, rL_law_997, rL_law_998, rL_law_999, rL_law_1000, rL_law_1003, rL_law_1004, rL_law_1007, rL_law_1008, rL_law_1008b, rL_law_1009, rL_law_1011, rL_law_1012, rL_law_1013, rL_law_1014, rL_law_1017, rL_law_1018, rL_law_1021, rL_law_1022, rL_law_1025, rL_law_1028, rL_law_1029, kA_0, kB_0, kA_44, kB_44, kA_56, kB_56, e1, e2, G1, G2, G3, eL, eL1, eS, cL, w1, v1, nI_1, w2, v2, nI_p2, w3, v3, nI_p3, ha0, hb0, (by decide : (1000 : Nat) < 2000), Nat.add_zero, eq_self, pCL_law, pSL_law, pOL_law, pLL_law, pCX7_rings, pSX7_rings, pOX7_rings, pLX7_rings, pCX9_rings, pSX9_rings, pOX9_rings, pLX9_rings, kl_I, kl_J, kl_R, kl_T, kl_N, Nat.le_refl, Nat.zero_le, List.map_nil, List.map_cons, List.sum_nil, List.sum_cons, c_I, c_J, c_R, c_T, va_rf, hI_wI, hJ_wJ, hR_wR, hI_J, hI_R, hJ_I, hJ_R, hR_I, hR_J, hN_I, hN_J, hN_R, wI_I, wJ_J, upd_at, updL_at, kR_s, Option.toList, List.append_nil, List.nil_append, List.cons_append, if_true, if_false, reduceIte, Bool.false_eq_true, not_true_eq_false, not_false_eq_true, true_and, and_true, false_and, and_false, true_or, or_true,  Nat.reduceEqDiff, Nat.reduceAdd, Nat.reduceLeDiff]
        try rfl
theorem lw_rests {d a b i j L : Nat} {o5 o6 : Option Value} {h : qH} {S : AS} (I : LI h S j L) (hi : i + 6 ≤ L) (hL : L ≤ 3072) (ha : a + 13 ≤ 601024) (hb : b + 92 ≤ 7293034) : LO d a b 1030 i j L o5 o6 h := by
  have ha0 : a ≤ 601024 := by omega
  have hb0 : b ≤ 7293034 := by omega
  have cL : (nI L).toNatClampNeg = L := nI_cl (by omega)
  have eL := I.2.2.2.1
  obtain ⟨h1, e1, f1, I1⟩ := q_rests (d := d + 2) I.1
  obtain ⟨h2, e2, c2, I2⟩ := m_rests (d := d + 2) (MI_cf I.2.1 f1 (CI_F I1))
  refine ⟨h2, _, 0, o5, o6, by omega, fun Q => ?_, LI_2 I f1 I1 c2 I2 (by omega) (sTr_tr t7_sRests)⟩
  have eL1 : hI h1 (SCR + 1) 0 = nI L := by rw [(f1.2 (SCR + 1) (by unfold SCR; omega)).1]; exact eL
  have eS : hI h1 SCR = hI h SCR := (f1.2 SCR (by unfold SCR; omega)).1
  simp (implicitDefEqProofs := false) only [rL_law_1030, rL_law_1030b, rL_law_1031, rL_law_1034, rL_law_1034b, rL_law_1035, rL_law_1038, rL_law_1041, rL_law_1042, kA_0, kB_0, kA_44, kB_44, kA_56, kB_56, e1, e2, ha0, hb0, (by decide : (1000 : Nat) < 2000), Nat.add_zero, eq_self, pCL_law, pSL_law, pOL_law, pLL_law, pCX7_rests, pSX7_rests, pOX7_rests, pLX7_rests, pCX9_rests, pSX9_rests, pOX9_rests, pLX9_rests, kl_I, kl_J, kl_R, kl_T, kl_N, Nat.le_refl, Nat.zero_le, List.map_nil, List.map_cons, List.sum_nil, List.sum_cons, c_I, c_J, c_R, c_T, va_rf, hI_wI, hJ_wJ, hR_wR, hI_J, hI_R, hJ_I, hJ_R, hR_I, hR_J, hN_I, hN_J, hN_R, wI_I, wJ_J, upd_at, updL_at, kR_s, Option.toList, List.append_nil, List.nil_append, List.cons_append, if_true, if_false, reduceIte, Bool.false_eq_true, not_true_eq_false, not_false_eq_true, true_and, and_true, false_and, and_false, true_or, or_true,  Nat.reduceEqDiff, Nat.reduceAdd, Nat.reduceLeDiff]
  try rfl
theorem lw_rest {d a b i j L : Nat} {o5 o6 : Option Value} {h : qH} {S : AS} (I : LI h S j L) (hi : i + 6 ≤ L) (hL : L ≤ 3072) (ha : a + 13 ≤ 601024) (hb : b + 92 ≤ 7293034) : LO d a b 1043 i j L o5 o6 h := by
  have ha0 : a ≤ 601024 := by omega
  have hb0 : b ≤ 7293034 := by omega
  have cL : (nI L).toNatClampNeg = L := nI_cl (by omega)
  have eL := I.2.2.2.1
  obtain ⟨h1, e1, f1, I1⟩ := q_rest (d := d + 2) I.1
  obtain ⟨h2, e2, c2, I2⟩ := m_rest (d := d + 2) (MI_cf I.2.1 f1 (CI_F I1))
  refine ⟨h2, _, 0, o5, o6, by omega, fun Q => ?_, LI_2 I f1 I1 c2 I2 (by omega) (sTr_tr t7_sRest)⟩
  have eL1 : hI h1 (SCR + 1) 0 = nI L := by rw [(f1.2 (SCR + 1) (by unfold SCR; omega)).1]; exact eL
  have eS : hI h1 SCR = hI h SCR := (f1.2 SCR (by unfold SCR; omega)).1
  simp (implicitDefEqProofs := false) only [rL_law_1043, rL_law_1043b, rL_law_1044, rL_law_1047, rL_law_1047b, rL_law_1048, rL_law_1051, rL_law_1054, rL_law_1055, kA_0, kB_0, kA_44, kB_44, kA_56, kB_56, e1, e2, ha0, hb0, (by decide : (1000 : Nat) < 2000), Nat.add_zero, eq_self, pCL_law, pSL_law, pOL_law, pLL_law, pCX7_rest, pSX7_rest, pOX7_rest, pLX7_rest, pCX9_rest, pSX9_rest, pOX9_rest, pLX9_rest, kl_I, kl_J, kl_R, kl_T, kl_N, Nat.le_refl, Nat.zero_le, List.map_nil, List.map_cons, List.sum_nil, List.sum_cons, c_I, c_J, c_R, c_T, va_rf, hI_wI, hJ_wJ, hR_wR, hI_J, hI_R, hJ_I, hJ_R, hR_I, hR_J, hN_I, hN_J, hN_R, wI_I, wJ_J, upd_at, updL_at, kR_s, Option.toList, List.append_nil, List.nil_append, List.cons_append, if_true, if_false, reduceIte, Bool.false_eq_true, not_true_eq_false, not_false_eq_true, true_and, and_true, false_and, and_false, true_or, or_true,  Nat.reduceEqDiff, Nat.reduceAdd, Nat.reduceLeDiff]
  try rfl
theorem lw_odds {d a b i j L : Nat} {o5 o6 : Option Value} {h : qH} {S : AS} (I : LI h S j L) (hi : i + 6 ≤ L) (hL : L ≤ 3072) (ha : a + 13 ≤ 601024) (hb : b + 92 ≤ 7293034) : LO d a b 1056 i j L o5 o6 h := by
  have ha0 : a ≤ 601024 := by omega
  have hb0 : b ≤ 7293034 := by omega
  have cL : (nI L).toNatClampNeg = L := nI_cl (by omega)
  have eL := I.2.2.2.1
  have w1 : (nI (i + 1)).toNatClampNeg = i + 1 := nI_cl (by omega)
  have v1 : vpB (nI (i + 1)) L = true := vB (by omega) hL
  have w2 : (nI (i + 2)).toNatClampNeg = i + 2 := nI_cl (by omega)
  have v2 : vpB (nI (i + 2)) L = true := vB (by omega) hL
  have w3 : (nI (i + 3)).toNatClampNeg = i + 3 := nI_cl (by omega)
  have v3 : vpB (nI (i + 3)) L = true := vB (by omega) hL
  obtain ⟨p3, g3⟩ := xB (hI h SCR (i + 3))
  obtain ⟨h1, e1, f1, I1⟩ := q_odds (d := d + 2) (y := hI h SCR (i + 1)) (z := hI h SCR (i + 2)) (lo := p3) I.1
  obtain ⟨h2, e2, c2, I2⟩ := m_odds (d := d + 2) (y := hI h SCR (i + 1)) (z := hI h SCR (i + 2)) (lo := p3) (MI_cf I.2.1 f1 (CI_F I1))
  refine ⟨h2, _, 0, o5, o6, by omega, fun Q => ?_, LI_2 I f1 I1 c2 I2 (by omega) (sTr_tr t7_sOdds)⟩
  have eL1 : hI h1 (SCR + 1) 0 = nI L := by rw [(f1.2 (SCR + 1) (by unfold SCR; omega)).1]; exact eL
  have eS : hI h1 SCR = hI h SCR := (f1.2 SCR (by unfold SCR; omega)).1
  cases p3 with
  | false =>
    have G3 : (hI h SCR (i + 3) = 0) = True := g3.trans (eq_self _)
    simp only [bI_t, bI_f] at e1 e2
    simp (implicitDefEqProofs := false) only [rL_law_1056, rL_law_1056b, rL_law_1057, rL_law_1057b, rL_law_1058, rL_law_1060, rL_law_1061, rL_law_1062, rL_law_1063, rL_law_1063b, rL_law_1064, rL_law_1066, rL_law_1067, rL_law_1068, rL_law_1069, rL_law_1069b, rL_law_1070, rL_law_1072, rL_law_1073, rL_law_1074, rL_law_1075, rL_law_1078, rL_law_1079, rL_law_1082, rL_law_1083, rL_law_1086, rL_law_1086b, rL_law_1087, rL_law_1087b, rL_law_1088, rL_law_1090, rL_law_1091, rL_law_1092, rL_law_1093, rL_law_1093b, rL_law_1094, rL_law_1096, rL_law_1097, rL_law_1098, rL_law_1099, rL_law_1099b, rL_law_1100, rL_law_1102, rL_law_1103, rL_law_1104, rL_law_1105, rL_law_1108, rL_law_1109, rL_law_1112, rL_law_1113, rL_law_1116, rL_law_1117, rL_law_1120, rL_law_1121, kA_0, kB_0, kA_44, kB_44, kA_56, kB_56, e1, e2, lg_eq, G3, eL, eL1, eS, cL, w1, v1, nI_1, w2, v2, nI_p2, w3, v3, nI_p3, ha0, hb0, (by decide : (1000 : Nat) < 2000), Nat.add_zero, eq_self, pCL_law, pSL_law, pOL_law, pLL_law, pCX7_odds, pSX7_odds, pOX7_odds, pLX7_odds, pCX9_odds, pSX9_odds, pOX9_odds, pLX9_odds, kl_I, kl_J, kl_R, kl_T, kl_N, Nat.le_refl, Nat.zero_le, List.map_nil, List.map_cons, List.sum_nil, List.sum_cons, c_I, c_J, c_R, c_T, va_rf, hI_wI, hJ_wJ, hR_wR, hI_J, hI_R, hJ_I, hJ_R, hR_I, hR_J, hN_I, hN_J, hN_R, wI_I, wJ_J, upd_at, updL_at, kR_s, Option.toList, List.append_nil, List.nil_append, List.cons_append, if_true, if_false, reduceIte, Bool.false_eq_true, not_true_eq_false, not_false_eq_true, true_and, and_true, false_and, and_false, true_or, or_true,  Nat.reduceEqDiff, Nat.reduceAdd, Nat.reduceLeDiff]
    try rfl
  | true =>
    have G3 : (hI h SCR (i + 3) = 0) = False := g3.trans (by simp)
    simp only [bI_t, bI_f] at e1 e2
    simp (implicitDefEqProofs := false) only [rL_law_1056, rL_law_1056b, rL_law_1057, rL_law_1057b, rL_law_1058, rL_law_1060, rL_law_1061, rL_law_1062, rL_law_1063, rL_law_1063b, rL_law_1064, rL_law_1066, rL_law_1067, rL_law_1068, rL_law_1069, rL_law_1069b, rL_law_1070, rL_law_1072, rL_law_1073, rL_law_1074, rL_law_1075, rL_law_1078, rL_law_1079, rL_law_1082, rL_law_1083, rL_law_1086, rL_law_1086b, rL_law_1087, rL_law_1087b, rL_law_1088, rL_law_1090, rL_law_1091, rL_law_1092, rL_law_1093, rL_law_1093b, rL_law_1094, rL_law_1096, rL_law_1097, rL_law_1098, rL_law_1099, rL_law_1099b, rL_law_1100, rL_law_1102, rL_law_1103, rL_law_1104, rL_law_1105, rL_law_1108, rL_law_1109, rL_law_1112, rL_law_1113, rL_law_1116, rL_law_1117, rL_law_1120, rL_law_1121, kA_0, kB_0, kA_44, kB_44, kA_56, kB_56, e1, e2, lg_eq, G3, eL, eL1, eS, cL, w1, v1, nI_1, w2, v2, nI_p2, w3, v3, nI_p3, ha0, hb0, (by decide : (1000 : Nat) < 2000), Nat.add_zero, eq_self, pCL_law, pSL_law, pOL_law, pLL_law, pCX7_odds, pSX7_odds, pOX7_odds, pLX7_odds, pCX9_odds, pSX9_odds, pOX9_odds, pLX9_odds, kl_I, kl_J, kl_R, kl_T, kl_N, Nat.le_refl, Nat.zero_le, List.map_nil, List.map_cons, List.sum_nil, List.sum_cons, c_I, c_J, c_R, c_T, va_rf, hI_wI, hJ_wJ, hR_wR, hI_J, hI_R, hJ_I, hJ_R, hR_I, hR_J, hN_I, hN_J, hN_R, wI_I, wJ_J, upd_at, updL_at, kR_s, Option.toList, List.append_nil, List.nil_append, List.cons_append, if_true, if_false, reduceIte, Bool.false_eq_true, not_true_eq_false, not_false_eq_true, true_and, and_true, false_and, and_false, true_or, or_true,  Nat.reduceEqDiff, Nat.reduceAdd, Nat.reduceLeDiff]
    try rfl
theorem lw_quiet {d a b i j L : Nat} {o5 o6 : Option Value} {h : qH} {S : AS} (I : LI h S j L) (hi : i + 6 ≤ L) (hL : L ≤ 3072) (ha : a + 13 ≤ 601024) (hb : b + 92 ≤ 7293034) : LO d a b 1122 i j L o5 o6 h := by
  have ha0 : a ≤ 601024 := by omega
  have hb0 : b ≤ 7293034 := by omega
  have cL : (nI L).toNatClampNeg = L := nI_cl (by omega)
  have eL := I.2.2.2.1
  have w1 : (nI (i + 1)).toNatClampNeg = i + 1 := nI_cl (by omega)
  have v1 : vpB (nI (i + 1)) L = true := vB (by omega) hL
  have w2 : (nI (i + 2)).toNatClampNeg = i + 2 := nI_cl (by omega)
  have v2 : vpB (nI (i + 2)) L = true := vB (by omega) hL
  obtain ⟨p2, g2⟩ := xB (hI h SCR (i + 2))
  obtain ⟨h1, e1, f1, I1⟩ := q_quiet (d := d + 2) (y := hI h SCR (i + 1)) (lo := p2) I.1
  obtain ⟨h2, e2, c2, I2⟩ := m_quiet (d := d + 2) (y := hI h SCR (i + 1)) (lo := p2) (MI_cf I.2.1 f1 (CI_F I1))
  refine ⟨h2, _, 0, o5, o6, by omega, fun Q => ?_, LI_2 I f1 I1 c2 I2 (by omega) (sTr_tr t7_sQuiet)⟩
  have eL1 : hI h1 (SCR + 1) 0 = nI L := by rw [(f1.2 (SCR + 1) (by unfold SCR; omega)).1]; exact eL
  have eS : hI h1 SCR = hI h SCR := (f1.2 SCR (by unfold SCR; omega)).1
  cases p2 with
  | false =>
    have G2 : (hI h SCR (i + 2) = 0) = True := g2.trans (eq_self _)
    simp only [bI_t, bI_f] at e1 e2
    simp (implicitDefEqProofs := false) only [rL_law_1122, rL_law_1122b, rL_law_1123, rL_law_1123b, rL_law_1124, rL_law_1126, rL_law_1127, rL_law_1128, rL_law_1129, rL_law_1129b, rL_law_1130, rL_law_1132, rL_law_1133, rL_law_1134, rL_law_1135, rL_law_1138, rL_law_1139, rL_law_1142, rL_law_1143, rL_law_1146, rL_law_1146b, rL_law_1147, rL_law_1147b, rL_law_1148, rL_law_1150, rL_law_1151, rL_law_1152, rL_law_1153, rL_law_1153b, rL_law_1154, rL_law_1156, rL_law_1157, rL_law_1158, rL_law_1159, rL_law_1162, rL_law_1163, rL_law_1166, rL_law_1167, rL_law_1170, rL_law_1171, rL_law_1174, rL_law_1175, kA_0, kB_0, kA_44, kB_44, kA_56, kB_56, e1, e2, lg_eq, G2, eL, eL1, eS, cL, w1, v1, nI_1, w2, v2, nI_p2, ha0, hb0, (by decide : (1000 : Nat) < 2000), Nat.add_zero, eq_self, pCL_law, pSL_law, pOL_law, pLL_law, pCX7_quiet, pSX7_quiet, pOX7_quiet, pLX7_quiet, pCX9_quiet, pSX9_quiet, pOX9_quiet, pLX9_quiet, kl_I, kl_J, kl_R, kl_T, kl_N, Nat.le_refl, Nat.zero_le, List.map_nil, List.map_cons, List.sum_nil, List.sum_cons, c_I, c_J, c_R, c_T, va_rf, hI_wI, hJ_wJ, hR_wR, hI_J, hI_R, hJ_I, hJ_R, hR_I, hR_J, hN_I, hN_J, hN_R, wI_I, wJ_J, upd_at, updL_at, kR_s, Option.toList, List.append_nil, List.nil_append, List.cons_append, if_true, if_false, reduceIte, Bool.false_eq_true, not_true_eq_false, not_false_eq_true, true_and, and_true, false_and, and_false, true_or, or_true,  Nat.reduceEqDiff, Nat.reduceAdd, Nat.reduceLeDiff]
    try rfl
  | true =>
    have G2 : (hI h SCR (i + 2) = 0) = False := g2.trans (by simp)
    simp only [bI_t, bI_f] at e1 e2
    simp (implicitDefEqProofs := false) only [rL_law_1122, rL_law_1122b, rL_law_1123, rL_law_1123b, rL_law_1124, rL_law_1126, rL_law_1127, rL_law_1128, rL_law_1129, rL_law_1129b, rL_law_1130, rL_law_1132, rL_law_1133, rL_law_1134, rL_law_1135, rL_law_1138, rL_law_1139, rL_law_1142, rL_law_1143, rL_law_1146, rL_law_1146b, rL_law_1147, rL_law_1147b, rL_law_1148, rL_law_1150, rL_law_1151, rL_law_1152, rL_law_1153, rL_law_1153b, rL_law_1154, rL_law_1156, rL_law_1157, rL_law_1158, rL_law_1159, rL_law_1162, rL_law_1163, rL_law_1166, rL_law_1167, rL_law_1170, rL_law_1171, rL_law_1174, rL_law_1175, kA_0, kB_0, kA_44, kB_44, kA_56, kB_56, e1, e2, lg_eq, G2, eL, eL1, eS, cL, w1, v1, nI_1, w2, v2, nI_p2, ha0, hb0, (by decide : (1000 : Nat) < 2000), Nat.add_zero, eq_self, pCL_law, pSL_law, pOL_law, pLL_law, pCX7_quiet, pSX7_quiet, pOX7_quiet, pLX7_quiet, pCX9_quiet, pSX9_quiet, pOX9_quiet, pLX9_quiet, kl_I, kl_J, kl_R, kl_T, kl_N, Nat.le_refl, Nat.zero_le, List.map_nil, List.map_cons, List.sum_nil, List.sum_cons, c_I, c_J, c_R, c_T, va_rf, hI_wI, hJ_wJ, hR_wR, hI_J, hI_R, hJ_I, hJ_R, hR_I, hR_J, hN_I, hN_J, hN_R, wI_I, wJ_J, upd_at, updL_at, kR_s, Option.toList, List.append_nil, List.nil_append, List.cons_append, if_true, if_false, reduceIte, Bool.false_eq_true, not_true_eq_false, not_false_eq_true, true_and, and_true, false_and, and_false, true_or, or_true,  Nat.reduceEqDiff, Nat.reduceAdd, Nat.reduceLeDiff]
    try rfl
theorem lw_mean {d a b i j L : Nat} {o5 o6 : Option Value} {h : qH} {S : AS} (I : LI h S j L) (hi : i + 6 ≤ L) (hL : L ≤ 3072) (ha : a + 13 ≤ 601024) (hb : b + 92 ≤ 7293034) : LO d a b 1176 i j L o5 o6 h := by
  have ha0 : a ≤ 601024 := by omega
  have hb0 : b ≤ 7293034 := by omega
  have cL : (nI L).toNatClampNeg = L := nI_cl (by omega)
  have eL := I.2.2.2.1
  have w1 : (nI (i + 1)).toNatClampNeg = i + 1 := nI_cl (by omega)
  have v1 : vpB (nI (i + 1)) L = true := vB (by omega) hL
  have w2 : (nI (i + 2)).toNatClampNeg = i + 2 := nI_cl (by omega)
  have v2 : vpB (nI (i + 2)) L = true := vB (by omega) hL
  obtain ⟨p2, g2⟩ := xB (hI h SCR (i + 2))
  obtain ⟨h1, e1, f1, I1⟩ := q_mean (d := d + 2) (y := hI h SCR (i + 1)) (lo := p2) I.1
  obtain ⟨h2, e2, c2, I2⟩ := m_mean (d := d + 2) (y := hI h SCR (i + 1)) (lo := p2) (MI_cf I.2.1 f1 (CI_F I1))
  refine ⟨h2, _, 0, o5, o6, by omega, fun Q => ?_, LI_2 I f1 I1 c2 I2 (by omega) (sTr_tr t7_sMean)⟩
  have eL1 : hI h1 (SCR + 1) 0 = nI L := by rw [(f1.2 (SCR + 1) (by unfold SCR; omega)).1]; exact eL
  have eS : hI h1 SCR = hI h SCR := (f1.2 SCR (by unfold SCR; omega)).1
  cases p2 with
  | false =>
    have G2 : (hI h SCR (i + 2) = 0) = True := g2.trans (eq_self _)
    simp only [bI_t, bI_f] at e1 e2
    simp (implicitDefEqProofs := false) only [rL_law_1176, rL_law_1176b, rL_law_1177, rL_law_1177b, rL_law_1178, rL_law_1180, rL_law_1181, rL_law_1182, rL_law_1183, rL_law_1183b, rL_law_1184, rL_law_1186, rL_law_1187, rL_law_1188, rL_law_1189, rL_law_1192, rL_law_1193, rL_law_1196, rL_law_1197, rL_law_1200, rL_law_1200b, rL_law_1201, rL_law_1201b, rL_law_1202, rL_law_1204, rL_law_1205, rL_law_1206, rL_law_1207, rL_law_1207b, rL_law_1208, rL_law_1210, rL_law_1211, rL_law_1212, rL_law_1213, rL_law_1216, rL_law_1217, rL_law_1220, rL_law_1221, rL_law_1224, rL_law_1225, rL_law_1228, rL_law_1229, kA_0, kB_0, kA_44, kB_44, kA_56, kB_56, e1, e2, lg_eq, G2, eL, eL1, eS, cL, w1, v1, nI_1, w2, v2, nI_p2, ha0, hb0, (by decide : (1000 : Nat) < 2000), Nat.add_zero, eq_self, pCL_law, pSL_law, pOL_law, pLL_law, pCX7_mean, pSX7_mean, pOX7_mean, pLX7_mean, pCX9_mean, pSX9_mean, pOX9_mean, pLX9_mean, kl_I, kl_J, kl_R, kl_T, kl_N, Nat.le_refl, Nat.zero_le, List.map_nil, List.map_cons, List.sum_nil, List.sum_cons, c_I, c_J, c_R, c_T, va_rf, hI_wI, hJ_wJ, hR_wR, hI_J, hI_R, hJ_I, hJ_R, hR_I, hR_J, hN_I, hN_J, hN_R, wI_I, wJ_J, upd_at, updL_at, kR_s, Option.toList, List.append_nil, List.nil_append, List.cons_append, if_true, if_false, reduceIte, Bool.false_eq_true, not_true_eq_false, not_false_eq_true, true_and, and_true, false_and, and_false, true_or, or_true,  Nat.reduceEqDiff, Nat.reduceAdd, Nat.reduceLeDiff]
    try rfl
  | true =>
    have G2 : (hI h SCR (i + 2) = 0) = False := g2.trans (by simp)
    simp only [bI_t, bI_f] at e1 e2
    simp (implicitDefEqProofs := false) only [rL_law_1176, rL_law_1176b, rL_law_1177, rL_law_1177b, rL_law_1178, rL_law_1180, rL_law_1181, rL_law_1182, rL_law_1183, rL_law_1183b, rL_law_1184, rL_law_1186, rL_law_1187, rL_law_1188, rL_law_1189, rL_law_1192, rL_law_1193, rL_law_1196, rL_law_1197, rL_law_1200, rL_law_1200b, rL_law_1201, rL_law_1201b, rL_law_1202, rL_law_1204, rL_law_1205, rL_law_1206, rL_law_1207, rL_law_1207b, rL_law_1208, rL_law_1210, rL_law_1211, rL_law_1212, rL_law_1213, rL_law_1216, rL_law_1217, rL_law_1220, rL_law_1221, rL_law_1224, rL_law_1225, rL_law_1228, rL_law_1229, kA_0, kB_0, kA_44, kB_44, kA_56, kB_56, e1, e2, lg_eq, G2, eL, eL1, eS, cL, w1, v1, nI_1, w2, v2, nI_p2, ha0, hb0, (by decide : (1000 : Nat) < 2000), Nat.add_zero, eq_self, pCL_law, pSL_law, pOL_law, pLL_law, pCX7_mean, pSX7_mean, pOX7_mean, pLX7_mean, pCX9_mean, pSX9_mean, pOX9_mean, pLX9_mean, kl_I, kl_J, kl_R, kl_T, kl_N, Nat.le_refl, Nat.zero_le, List.map_nil, List.map_cons, List.sum_nil, List.sum_cons, c_I, c_J, c_R, c_T, va_rf, hI_wI, hJ_wJ, hR_wR, hI_J, hI_R, hJ_I, hJ_R, hR_I, hR_J, hN_I, hN_J, hN_R, wI_I, wJ_J, upd_at, updL_at, kR_s, Option.toList, List.append_nil, List.nil_append, List.cons_append, if_true, if_false, reduceIte, Bool.false_eq_true, not_true_eq_false, not_false_eq_true, true_and, and_true, false_and, and_false, true_or, or_true,  Nat.reduceEqDiff, Nat.reduceAdd, Nat.reduceLeDiff]
    try rfl
theorem lw_years {d a b i j L : Nat} {o5 o6 : Option Value} {h : qH} {S : AS} (I : LI h S j L) (hi : i + 6 ≤ L) (hL : L ≤ 3072) (ha : a + 13 ≤ 601024) (hb : b + 92 ≤ 7293034) : LO d a b 1230 i j L o5 o6 h := by
  have ha0 : a ≤ 601024 := by omega
  have hb0 : b ≤ 7293034 := by omega
  have cL : (nI L).toNatClampNeg = L := nI_cl (by omega)
  have eL := I.2.2.2.1
  have w1 : (nI (i + 1)).toNatClampNeg = i + 1 := nI_cl (by omega)
  have v1 : vpB (nI (i + 1)) L = true := vB (by omega) hL
  have w2 : (nI (i + 2)).toNatClampNeg = i + 2 := nI_cl (by omega)
  have v2 : vpB (nI (i + 2)) L = true := vB (by omega) hL
  have w3 : (nI (i + 3)).toNatClampNeg = i + 3 := nI_cl (by omega)
  have v3 : vpB (nI (i + 3)) L = true := vB (by omega) hL
  obtain ⟨h1, e1, f1, I1⟩ := q_years (d := d + 2) (u := hI h SCR (i + 1)) (y := hI h SCR (i + 2)) (z := hI h SCR (i + 3)) I.1
  obtain ⟨h2, e2, c2, I2⟩ := m_years (d := d + 2) (u := hI h SCR (i + 1)) (y := hI h SCR (i + 2)) (z := hI h SCR (i + 3)) (MI_cf I.2.1 f1 (CI_F I1))
  refine ⟨h2, _, 0, o5, o6, by omega, fun Q => ?_, LI_2 I f1 I1 c2 I2 (by omega) (sTr_tr t7_sYears)⟩
  have eL1 : hI h1 (SCR + 1) 0 = nI L := by rw [(f1.2 (SCR + 1) (by unfold SCR; omega)).1]; exact eL
  have eS : hI h1 SCR = hI h SCR := (f1.2 SCR (by unfold SCR; omega)).1
  simp (implicitDefEqProofs := false) only [rL_law_1230, rL_law_1230b, rL_law_1231, rL_law_1231b, rL_law_1232, rL_law_1234, rL_law_1235, rL_law_1236, rL_law_1237, rL_law_1237b, rL_law_1238, rL_law_1240, rL_law_1241, rL_law_1242, rL_law_1243, rL_law_1243b, rL_law_1244, rL_law_1246, rL_law_1247, rL_law_1248, rL_law_1249, rL_law_1252, rL_law_1252b, rL_law_1253, rL_law_1253b, rL_law_1254, rL_law_1256, rL_law_1257, rL_law_1258, rL_law_1259, rL_law_1259b, rL_law_1260, rL_law_1262, rL_law_1263, rL_law_1264, rL_law_1265, rL_law_1265b, rL_law_1266, rL_law_1268, rL_law_1269, rL_law_1270, rL_law_1271, rL_law_1274, rL_law_1277, rL_law_1278, kA_0, kB_0, kA_44, kB_44, kA_56, kB_56, e1, e2, eL, eL1, eS, cL, w1, v1, nI_1, w2, v2, nI_p2, w3, v3, nI_p3, ha0, hb0, (by decide : (1000 : Nat) < 2000), Nat.add_zero, eq_self, pCL_law, pSL_law, pOL_law, pLL_law, pCX7_years, pSX7_years, pOX7_years, pLX7_years, pCX9_years, pSX9_years, pOX9_years, pLX9_years, kl_I, kl_J, kl_R, kl_T, kl_N, Nat.le_refl, Nat.zero_le, List.map_nil, List.map_cons, List.sum_nil, List.sum_cons, c_I, c_J, c_R, c_T, va_rf, hI_wI, hJ_wJ, hR_wR, hI_J, hI_R, hJ_I, hJ_R, hR_I, hR_J, hN_I, hN_J, hN_R, wI_I, wJ_J, upd_at, updL_at, kR_s, Option.toList, List.append_nil, List.nil_append, List.cons_append, if_true, if_false, reduceIte, Bool.false_eq_true, not_true_eq_false, not_false_eq_true, true_and, and_true, false_and, and_false, true_or, or_true,  Nat.reduceEqDiff, Nat.reduceAdd, Nat.reduceLeDiff]
  try rfl
theorem lw_worstYear {d a b i j L : Nat} {o5 o6 : Option Value} {h : qH} {S : AS} (I : LI h S j L) (hi : i + 6 ≤ L) (hL : L ≤ 3072) (ha : a + 13 ≤ 601024) (hb : b + 92 ≤ 7293034) : LO d a b 1279 i j L o5 o6 h := by
  have ha0 : a ≤ 601024 := by omega
  have hb0 : b ≤ 7293034 := by omega
  have cL : (nI L).toNatClampNeg = L := nI_cl (by omega)
  have eL := I.2.2.2.1
  have w1 : (nI (i + 1)).toNatClampNeg = i + 1 := nI_cl (by omega)
  have v1 : vpB (nI (i + 1)) L = true := vB (by omega) hL
  have w2 : (nI (i + 2)).toNatClampNeg = i + 2 := nI_cl (by omega)
  have v2 : vpB (nI (i + 2)) L = true := vB (by omega) hL
  obtain ⟨h1, e1, f1, I1⟩ := q_worstYear (d := d + 2) (y := hI h SCR (i + 1)) (z := hI h SCR (i + 2)) I.1
  obtain ⟨h2, e2, c2, I2⟩ := m_worstYear (d := d + 2) (y := hI h SCR (i + 1)) (z := hI h SCR (i + 2)) (MI_cf I.2.1 f1 (CI_F I1))
  refine ⟨h2, _, 0, o5, o6, by omega, fun Q => ?_, LI_2 I f1 I1 c2 I2 (by omega) (sTr_tr t7_sWorst)⟩
  have eL1 : hI h1 (SCR + 1) 0 = nI L := by rw [(f1.2 (SCR + 1) (by unfold SCR; omega)).1]; exact eL
  have eS : hI h1 SCR = hI h SCR := (f1.2 SCR (by unfold SCR; omega)).1
  simp (implicitDefEqProofs := false) only [rL_law_1279, rL_law_1279b, rL_law_1280, rL_law_1280b, rL_law_1281, rL_law_1283, rL_law_1284, rL_law_1285, rL_law_1286, rL_law_1286b, rL_law_1287, rL_law_1289, rL_law_1290, rL_law_1291, rL_law_1292, rL_law_1295, rL_law_1295b, rL_law_1296, rL_law_1296b, rL_law_1297, rL_law_1299, rL_law_1300, rL_law_1301, rL_law_1302, rL_law_1302b, rL_law_1303, rL_law_1305, rL_law_1306, rL_law_1307, rL_law_1308, rL_law_1311, rL_law_1314, rL_law_1315, kA_0, kB_0, kA_44, kB_44, kA_56, kB_56, e1, e2, eL, eL1, eS, cL, w1, v1, nI_1, w2, v2, nI_p2, ha0, hb0, (by decide : (1000 : Nat) < 2000), Nat.add_zero, eq_self, pCL_law, pSL_law, pOL_law, pLL_law, pCX7_worstYear, pSX7_worstYear, pOX7_worstYear, pLX7_worstYear, pCX9_worstYear, pSX9_worstYear, pOX9_worstYear, pLX9_worstYear, kl_I, kl_J, kl_R, kl_T, kl_N, Nat.le_refl, Nat.zero_le, List.map_nil, List.map_cons, List.sum_nil, List.sum_cons, c_I, c_J, c_R, c_T, va_rf, hI_wI, hJ_wJ, hR_wR, hI_J, hI_R, hJ_I, hJ_R, hR_I, hR_J, hN_I, hN_J, hN_R, wI_I, wJ_J, upd_at, updL_at, kR_s, Option.toList, List.append_nil, List.nil_append, List.cons_append, if_true, if_false, reduceIte, Bool.false_eq_true, not_true_eq_false, not_false_eq_true, true_and, and_true, false_and, and_false, true_or, or_true,  Nat.reduceEqDiff, Nat.reduceAdd, Nat.reduceLeDiff]
  try rfl
theorem lw_tell {d a b i j L : Nat} {o5 o6 : Option Value} {h : qH} {S : AS} (I : LI h S j L) (hi : i + 6 ≤ L) (hL : L ≤ 3072) (ha : a + 13 ≤ 601024) (hb : b + 92 ≤ 7293034) : LO d a b 1316 i j L o5 o6 h := by
  have ha0 : a ≤ 601024 := by omega
  have hb0 : b ≤ 7293034 := by omega
  have cL : (nI L).toNatClampNeg = L := nI_cl (by omega)
  have eL := I.2.2.2.1
  have w1 : (nI (i + 1)).toNatClampNeg = i + 1 := nI_cl (by omega)
  have v1 : vpB (nI (i + 1)) L = true := vB (by omega) hL
  obtain ⟨h1, e1, f1, I1⟩ := q_tell (d := d + 2) (y := hI h SCR (i + 1)) I.1
  obtain ⟨h2, e2, c2, I2⟩ := m_tell (d := d + 2) (y := hI h SCR (i + 1)) (MI_cf I.2.1 f1 (CI_F I1))
  refine ⟨h2, _, 0, o5, o6, by omega, fun Q => ?_, LI_2 I f1 I1 c2 I2 (by omega) t7_sTell⟩
  have eL1 : hI h1 (SCR + 1) 0 = nI L := by rw [(f1.2 (SCR + 1) (by unfold SCR; omega)).1]; exact eL
  have eS : hI h1 SCR = hI h SCR := (f1.2 SCR (by unfold SCR; omega)).1
  simp (implicitDefEqProofs := false) only [rL_law_1316, rL_law_1316b, rL_law_1317, rL_law_1317b, rL_law_1318, rL_law_1320, rL_law_1321, rL_law_1322, rL_law_1323, rL_law_1326, rL_law_1326b, rL_law_1327, rL_law_1327b, rL_law_1328, rL_law_1330, rL_law_1331, rL_law_1332, rL_law_1333, rL_law_1336, rL_law_1339, rL_law_1340, kA_0, kB_0, kA_44, kB_44, kA_56, kB_56, e1, e2, eL, eL1, eS, cL, w1, v1, nI_1, ha0, hb0, (by decide : (1000 : Nat) < 2000), Nat.add_zero, eq_self, pCL_law, pSL_law, pOL_law, pLL_law, pCX7_tell, pSX7_tell, pOX7_tell, pLX7_tell, pCX9_tell, pSX9_tell, pOX9_tell, pLX9_tell, kl_I, kl_J, kl_R, kl_T, kl_N, Nat.le_refl, Nat.zero_le, List.map_nil, List.map_cons, List.sum_nil, List.sum_cons, c_I, c_J, c_R, c_T, va_rf, hI_wI, hJ_wJ, hR_wR, hI_J, hI_R, hJ_I, hJ_R, hR_I, hR_J, hN_I, hN_J, hN_R, wI_I, wJ_J, upd_at, updL_at, kR_s, Option.toList, List.append_nil, List.nil_append, List.cons_append, if_true, if_false, reduceIte, Bool.false_eq_true, not_true_eq_false, not_false_eq_true, true_and, and_true, false_and, and_false, true_or, or_true,  Nat.reduceEqDiff, Nat.reduceAdd, Nat.reduceLeDiff]
  try rfl
theorem lw_pull {d a b i j L : Nat} {o5 o6 : Option Value} {h : qH} {S : AS} (I : LI h S j L) (hi : i + 6 ≤ L) (hL : L ≤ 3072) (ha : a + 13 ≤ 601024) (hb : b + 92 ≤ 7293034) : LO d a b 1341 i j L o5 o6 h := by
  have ha0 : a ≤ 601024 := by omega
  have hb0 : b ≤ 7293034 := by omega
  have cL : (nI L).toNatClampNeg = L := nI_cl (by omega)
  have eL := I.2.2.2.1
  have w1 : (nI (i + 1)).toNatClampNeg = i + 1 := nI_cl (by omega)
  have v1 : vpB (nI (i + 1)) L = true := vB (by omega) hL
  obtain ⟨h1, e1, f1, I1⟩ := q_pull (d := d + 1) (y := hI h SCR (i + 1)) I.1
  obtain ⟨h2, e2, c2, I2⟩ := m_pull (d := d + 2) (y := hI h SCR (i + 1)) (MI_cf I.2.1 f1 (CI_F I1))
  refine ⟨h2, _, 0, o5, o6, by omega, fun Q => ?_, LI_2 I f1 I1 c2 I2 (by omega) t7_sTurn⟩
  have eL1 : hI h1 (SCR + 1) 0 = nI L := by rw [(f1.2 (SCR + 1) (by unfold SCR; omega)).1]; exact eL
  have eS : hI h1 SCR = hI h SCR := (f1.2 SCR (by unfold SCR; omega)).1
  simp (implicitDefEqProofs := false) only [rL_law_1341, rL_law_1341b, rL_law_1342, rL_law_1342b, rL_law_1343, rL_law_1345, rL_law_1346, rL_law_1347, rL_law_1348, rL_law_1351, rL_law_1351b, rL_law_1352, rL_law_1352b, rL_law_1353, rL_law_1355, rL_law_1356, rL_law_1357, rL_law_1358, rL_law_1361, rL_law_1364, rL_law_1365, kA_0, kB_0, kA_44, kB_44, kA_56, kB_56, e1, e2, eL, eL1, eS, cL, w1, v1, nI_1, ha0, hb0, (by decide : (1000 : Nat) < 2000), Nat.add_zero, eq_self, pCL_law, pSL_law, pOL_law, pLL_law, pCX7_pull, pSX7_pull, pOX7_pull, pLX7_pull, pCX9_pull, pSX9_pull, pOX9_pull, pLX9_pull, kl_I, kl_J, kl_R, kl_T, kl_N, Nat.le_refl, Nat.zero_le, List.map_nil, List.map_cons, List.sum_nil, List.sum_cons, c_I, c_J, c_R, c_T, va_rf, hI_wI, hJ_wJ, hR_wR, hI_J, hI_R, hJ_I, hJ_R, hR_I, hR_J, hN_I, hN_J, hN_R, wI_I, wJ_J, upd_at, updL_at, kR_s, Option.toList, List.append_nil, List.nil_append, List.cons_append, if_true, if_false, reduceIte, Bool.false_eq_true, not_true_eq_false, not_false_eq_true, true_and, and_true, false_and, and_false, true_or, or_true,  Nat.reduceEqDiff, Nat.reduceAdd, Nat.reduceLeDiff]
  try rfl
theorem lw_mend {d a b i j L : Nat} {o5 o6 : Option Value} {h : qH} {S : AS} (I : LI h S j L) (hi : i + 6 ≤ L) (hL : L ≤ 3072) (ha : a + 13 ≤ 601024) (hb : b + 92 ≤ 7293034) : LO d a b 1366 i j L o5 o6 h := by
  have ha0 : a ≤ 601024 := by omega
  have hb0 : b ≤ 7293034 := by omega
  have cL : (nI L).toNatClampNeg = L := nI_cl (by omega)
  have eL := I.2.2.2.1
  have w1 : (nI (i + 1)).toNatClampNeg = i + 1 := nI_cl (by omega)
  have v1 : vpB (nI (i + 1)) L = true := vB (by omega) hL
  obtain ⟨h1, e1, f1, I1⟩ := q_mend (d := d + 1) (y := hI h SCR (i + 1)) I.1
  obtain ⟨h2, e2, c2, I2⟩ := m_mend (d := d + 2) (y := hI h SCR (i + 1)) (MI_cf I.2.1 f1 (CI_F I1))
  refine ⟨h2, _, 0, o5, o6, by omega, fun Q => ?_, LI_2 I f1 I1 c2 I2 (by omega) t7_sTurn⟩
  have eL1 : hI h1 (SCR + 1) 0 = nI L := by rw [(f1.2 (SCR + 1) (by unfold SCR; omega)).1]; exact eL
  have eS : hI h1 SCR = hI h SCR := (f1.2 SCR (by unfold SCR; omega)).1
  simp (implicitDefEqProofs := false) only [rL_law_1366, rL_law_1366b, rL_law_1367, rL_law_1367b, rL_law_1368, rL_law_1370, rL_law_1371, rL_law_1372, rL_law_1373, rL_law_1376, rL_law_1376b, rL_law_1377, rL_law_1377b, rL_law_1378, rL_law_1380, rL_law_1381, rL_law_1382, rL_law_1383, rL_law_1386, rL_law_1389, rL_law_1390, kA_0, kB_0, kA_44, kB_44, kA_56, kB_56, e1, e2, eL, eL1, eS, cL, w1, v1, nI_1, ha0, hb0, (by decide : (1000 : Nat) < 2000), Nat.add_zero, eq_self, pCL_law, pSL_law, pOL_law, pLL_law, pCX7_mend, pSX7_mend, pOX7_mend, pLX7_mend, pCX9_mend, pSX9_mend, pOX9_mend, pLX9_mend, kl_I, kl_J, kl_R, kl_T, kl_N, Nat.le_refl, Nat.zero_le, List.map_nil, List.map_cons, List.sum_nil, List.sum_cons, c_I, c_J, c_R, c_T, va_rf, hI_wI, hJ_wJ, hR_wR, hI_J, hI_R, hJ_I, hJ_R, hR_I, hR_J, hN_I, hN_J, hN_R, wI_I, wJ_J, upd_at, updL_at, kR_s, Option.toList, List.append_nil, List.nil_append, List.cons_append, if_true, if_false, reduceIte, Bool.false_eq_true, not_true_eq_false, not_false_eq_true, true_and, and_true, false_and, and_false, true_or, or_true,  Nat.reduceEqDiff, Nat.reduceAdd, Nat.reduceLeDiff]
  try rfl
theorem lw_day {d a b i j L : Nat} {o5 o6 : Option Value} {h : qH} {S : AS} (I : LI h S j L) (hi : i + 6 ≤ L) (hL : L ≤ 3072) (ha : a + 13 ≤ 601024) (hb : b + 92 ≤ 7293034) : LO d a b 1391 i j L o5 o6 h := by
  have ha0 : a ≤ 601024 := by omega
  have hb0 : b ≤ 7293034 := by omega
  have cL : (nI L).toNatClampNeg = L := nI_cl (by omega)
  have eL := I.2.2.2.1
  obtain ⟨h1, e1, f1, I1⟩ := q_day (d := d + 2) I.1
  obtain ⟨h2, e2, c2, I2⟩ := m_day (d := d + 2) (MI_cf I.2.1 f1 (CI_F I1))
  refine ⟨h2, _, 0, o5, o6, by omega, fun Q => ?_, LI_2 I f1 I1 c2 I2 (by omega) t7_sDay⟩
  have eL1 : hI h1 (SCR + 1) 0 = nI L := by rw [(f1.2 (SCR + 1) (by unfold SCR; omega)).1]; exact eL
  have eS : hI h1 SCR = hI h SCR := (f1.2 SCR (by unfold SCR; omega)).1
  simp (implicitDefEqProofs := false) only [rL_law_1391, rL_law_1391b, rL_law_1392, rL_law_1395, rL_law_1395b, rL_law_1396, rL_law_1399, rL_law_1402, rL_law_1403, kA_0, kB_0, kA_44, kB_44, kA_56, kB_56, e1, e2, ha0, hb0, (by decide : (1000 : Nat) < 2000), Nat.add_zero, eq_self, pCL_law, pSL_law, pOL_law, pLL_law, pCX7_day, pSX7_day, pOX7_day, pLX7_day, pCX9_day, pSX9_day, pOX9_day, pLX9_day, kl_I, kl_J, kl_R, kl_T, kl_N, Nat.le_refl, Nat.zero_le, List.map_nil, List.map_cons, List.sum_nil, List.sum_cons, c_I, c_J, c_R, c_T, va_rf, hI_wI, hJ_wJ, hR_wR, hI_J, hI_R, hJ_I, hJ_R, hR_I, hR_J, hN_I, hN_J, hN_R, wI_I, wJ_J, upd_at, updL_at, kR_s, Option.toList, List.append_nil, List.nil_append, List.cons_append, if_true, if_false, reduceIte, Bool.false_eq_true, not_true_eq_false, not_false_eq_true, true_and, and_true, false_and, and_false, true_or, or_true,  Nat.reduceEqDiff, Nat.reduceAdd, Nat.reduceLeDiff]
  try rfl
theorem lw_undo {d a b i j L : Nat} {o5 o6 : Option Value} {h : qH} {S : AS} (I : LI h S j L) (hi : i + 6 ≤ L) (hL : L ≤ 3072) (ha : a + 13 ≤ 601024) (hb : b + 92 ≤ 7293034) : LO d a b 1404 i j L o5 o6 h := by
  have ha0 : a ≤ 601024 := by omega
  have hb0 : b ≤ 7293034 := by omega
  have cL : (nI L).toNatClampNeg = L := nI_cl (by omega)
  have eL := I.2.2.2.1
  obtain ⟨h1, e1, f1, I1⟩ := q_undo (d := d + 2) I.1
  obtain ⟨h2, e2, c2, I2⟩ := m_undo (d := d + 2) (MI_cf I.2.1 f1 (CI_F I1))
  refine ⟨h2, _, 0, o5, o6, by omega, fun Q => ?_, LI_2 I f1 I1 c2 I2 (by omega) t7_sUndo⟩
  have eL1 : hI h1 (SCR + 1) 0 = nI L := by rw [(f1.2 (SCR + 1) (by unfold SCR; omega)).1]; exact eL
  have eS : hI h1 SCR = hI h SCR := (f1.2 SCR (by unfold SCR; omega)).1
  simp (implicitDefEqProofs := false) only [rL_law_1404, rL_law_1404b, rL_law_1405, rL_law_1408, rL_law_1408b, rL_law_1409, rL_law_1412, rL_law_1415, rL_law_1416, kA_0, kB_0, kA_44, kB_44, kA_56, kB_56, e1, e2, ha0, hb0, (by decide : (1000 : Nat) < 2000), Nat.add_zero, eq_self, pCL_law, pSL_law, pOL_law, pLL_law, pCX7_undo, pSX7_undo, pOX7_undo, pLX7_undo, pCX9_undo, pSX9_undo, pOX9_undo, pLX9_undo, kl_I, kl_J, kl_R, kl_T, kl_N, Nat.le_refl, Nat.zero_le, List.map_nil, List.map_cons, List.sum_nil, List.sum_cons, c_I, c_J, c_R, c_T, va_rf, hI_wI, hJ_wJ, hR_wR, hI_J, hI_R, hJ_I, hJ_R, hR_I, hR_J, hN_I, hN_J, hN_R, wI_I, wJ_J, upd_at, updL_at, kR_s, Option.toList, List.append_nil, List.nil_append, List.cons_append, if_true, if_false, reduceIte, Bool.false_eq_true, not_true_eq_false, not_false_eq_true, true_and, and_true, false_and, and_false, true_or, or_true,  Nat.reduceEqDiff, Nat.reduceAdd, Nat.reduceLeDiff]
  try rfl
theorem lw_image {d a b i j L : Nat} {o5 o6 : Option Value} {h : qH} {S : AS} (I : LI h S j L) (hi : i + 6 ≤ L) (hL : L ≤ 3072) (ha : a + 13 ≤ 601024) (hb : b + 92 ≤ 7293034) : LO d a b 1417 i j L o5 o6 h := by
  have ha0 : a ≤ 601024 := by omega
  have hb0 : b ≤ 7293034 := by omega
  have cL : (nI L).toNatClampNeg = L := nI_cl (by omega)
  have eL := I.2.2.2.1
  obtain ⟨h1, e1, f1, I1⟩ := q_image (d := d + 2) I.1
  obtain ⟨h2, e2, c2, I2⟩ := m_image (d := d + 2) (MI_cf I.2.1 f1 (CI_F I1))
  refine ⟨h2, _, 0, o5, o6, by omega, fun Q => ?_, LI_2 I f1 I1 c2 I2 (by omega) t7_sImage⟩
  have eL1 : hI h1 (SCR + 1) 0 = nI L := by rw [(f1.2 (SCR + 1) (by unfold SCR; omega)).1]; exact eL
  have eS : hI h1 SCR = hI h SCR := (f1.2 SCR (by unfold SCR; omega)).1
  simp (implicitDefEqProofs := false) only [rL_law_1417, rL_law_1417b, rL_law_1418, rL_law_1421, rL_law_1421b, rL_law_1422, rL_law_1425, rL_law_1428, rL_law_1429, kA_0, kB_0, kA_44, kB_44, kA_56, kB_56, e1, e2, ha0, hb0, (by decide : (1000 : Nat) < 2000), Nat.add_zero, eq_self, pCL_law, pSL_law, pOL_law, pLL_law, pCX7_image, pSX7_image, pOX7_image, pLX7_image, pCX9_image, pSX9_image, pOX9_image, pLX9_image, kl_I, kl_J, kl_R, kl_T, kl_N, Nat.le_refl, Nat.zero_le, List.map_nil, List.map_cons, List.sum_nil, List.sum_cons, c_I, c_J, c_R, c_T, va_rf, hI_wI, hJ_wJ, hR_wR, hI_J, hI_R, hJ_I, hJ_R, hR_I, hR_J, hN_I, hN_J, hN_R, wI_I, wJ_J, upd_at, updL_at, kR_s, Option.toList, List.append_nil, List.nil_append, List.cons_append, if_true, if_false, reduceIte, Bool.false_eq_true, not_true_eq_false, not_false_eq_true, true_and, and_true, false_and, and_false, true_or, or_true,  Nat.reduceEqDiff, Nat.reduceAdd, Nat.reduceLeDiff]
  try rfl
theorem lw_back {d a b i j L : Nat} {o5 o6 : Option Value} {h : qH} {S : AS} (I : LI h S j L) (hi : i + 6 ≤ L) (hL : L ≤ 3072) (ha : a + 13 ≤ 601024) (hb : b + 92 ≤ 7293034) : LO d a b 1430 i j L o5 o6 h := by
  have ha0 : a ≤ 601024 := by omega
  have hb0 : b ≤ 7293034 := by omega
  have cL : (nI L).toNatClampNeg = L := nI_cl (by omega)
  have eL := I.2.2.2.1
  have w1 : (nI (i + 1)).toNatClampNeg = i + 1 := nI_cl (by omega)
  have v1 : vpB (nI (i + 1)) L = true := vB (by omega) hL
  obtain ⟨h1, e1, f1, I1⟩ := q_back (d := d + 2) (y := hI h SCR (i + 1)) I.1
  obtain ⟨h2, e2, c2, I2⟩ := m_back (d := d + 2) (y := hI h SCR (i + 1)) (MI_cf I.2.1 f1 (CI_F I1))
  refine ⟨h2, _, 0, o5, o6, by omega, fun Q => ?_, LI_2 I f1 I1 c2 I2 (by omega) t7_sBack⟩
  have eL1 : hI h1 (SCR + 1) 0 = nI L := by rw [(f1.2 (SCR + 1) (by unfold SCR; omega)).1]; exact eL
  have eS : hI h1 SCR = hI h SCR := (f1.2 SCR (by unfold SCR; omega)).1
  simp (implicitDefEqProofs := false) only [rL_law_1430, rL_law_1430b, rL_law_1431, rL_law_1431b, rL_law_1432, rL_law_1434, rL_law_1435, rL_law_1436, rL_law_1437, rL_law_1440, rL_law_1440b, rL_law_1441, rL_law_1441b, rL_law_1442, rL_law_1444, rL_law_1445, rL_law_1446, rL_law_1447, rL_law_1450, rL_law_1453, rL_law_1454, kA_0, kB_0, kA_44, kB_44, kA_56, kB_56, e1, e2, eL, eL1, eS, cL, w1, v1, nI_1, ha0, hb0, (by decide : (1000 : Nat) < 2000), Nat.add_zero, eq_self, pCL_law, pSL_law, pOL_law, pLL_law, pCX7_back, pSX7_back, pOX7_back, pLX7_back, pCX9_back, pSX9_back, pOX9_back, pLX9_back, kl_I, kl_J, kl_R, kl_T, kl_N, Nat.le_refl, Nat.zero_le, List.map_nil, List.map_cons, List.sum_nil, List.sum_cons, c_I, c_J, c_R, c_T, va_rf, hI_wI, hJ_wJ, hR_wR, hI_J, hI_R, hJ_I, hJ_R, hR_I, hR_J, hN_I, hN_J, hN_R, wI_I, wJ_J, upd_at, updL_at, kR_s, Option.toList, List.append_nil, List.nil_append, List.cons_append, if_true, if_false, reduceIte, Bool.false_eq_true, not_true_eq_false, not_false_eq_true, true_and, and_true, false_and, and_false, true_or, or_true,  Nat.reduceEqDiff, Nat.reduceAdd, Nat.reduceLeDiff]
  try rfl
theorem lw_size {d a b i j L : Nat} {o5 o6 : Option Value} {h : qH} {S : AS} (I : LI h S j L) (hi : i + 6 ≤ L) (hL : L ≤ 3072) (ha : a + 13 ≤ 601024) (hb : b + 92 ≤ 7293034) : LO d a b 1511 i j L o5 o6 h := by
  have ha0 : a ≤ 601024 := by omega
  have hb0 : b ≤ 7293034 := by omega
  have cL : (nI L).toNatClampNeg = L := nI_cl (by omega)
  have eL := I.2.2.2.1
  have w1 : (nI (i + 1)).toNatClampNeg = i + 1 := nI_cl (by omega)
  have v1 : vpB (nI (i + 1)) L = true := vB (by omega) hL
  have e1 := q_size (d := d + 10) (z := hI h SCR (i + 1)) I.1
  obtain ⟨h2, e2, c2, I2⟩ := m_size (d := d + 10) (z := hI h SCR (i + 1)) I.2.1
  refine ⟨h2, S, 0, o5, o6, by omega, fun Q => ?_, LI_2 I cf_refl I.1 c2 I2 (by omega) I.2.2.2.2⟩
  have eL1 := eL
  simp (implicitDefEqProofs := false) only [rL_law_1511, rL_law_1511b, rL_law_1512, rL_law_1512b, rL_law_1513, rL_law_1515, rL_law_1516, rL_law_1517, rL_law_1518, rL_law_1521, rL_law_1521b, rL_law_1522, rL_law_1522b, rL_law_1523, rL_law_1525, rL_law_1526, rL_law_1527, rL_law_1528, rL_law_1531, rL_law_1534, rL_law_1535, kA_0, kB_0, kA_44, kB_44, kA_56, kB_56, e1, e2, eL, cL, w1, v1, nI_1, ha0, hb0, (by decide : (1000 : Nat) < 2000), Nat.add_zero, eq_self, pCL_law, pSL_law, pOL_law, pLL_law, pCX7_size, pSX7_size, pOX7_size, pLX7_size, pCX9_size, pSX9_size, pOX9_size, pLX9_size, kl_I, kl_J, kl_R, kl_T, kl_N, Nat.le_refl, Nat.zero_le, List.map_nil, List.map_cons, List.sum_nil, List.sum_cons, c_I, c_J, c_R, c_T, va_rf, hI_wI, hJ_wJ, hR_wR, hI_J, hI_R, hJ_I, hJ_R, hR_I, hR_J, hN_I, hN_J, hN_R, wI_I, wJ_J, upd_at, updL_at, kR_s, Option.toList, List.append_nil, List.nil_append, List.cons_append, if_true, if_false, reduceIte, Bool.false_eq_true, not_true_eq_false, not_false_eq_true, true_and, and_true, false_and, and_false, true_or, or_true,  Nat.reduceEqDiff, Nat.reduceAdd, Nat.reduceLeDiff]
  try rfl
theorem lw_trouble {d a b i j L : Nat} {o5 o6 : Option Value} {h : qH} {S : AS} (I : LI h S j L) (hi : i + 6 ≤ L) (hL : L ≤ 3072) (ha : a + 13 ≤ 601024) (hb : b + 92 ≤ 7293034) : LO d a b 1536 i j L o5 o6 h := by
  have ha0 : a ≤ 601024 := by omega
  have hb0 : b ≤ 7293034 := by omega
  have cL : (nI L).toNatClampNeg = L := nI_cl (by omega)
  have eL := I.2.2.2.1
  have e1 := q_trouble (d := d + 12) I.1
  obtain ⟨h2, e2, c2, I2⟩ := m_trouble (d := d + 12) I.2.1
  refine ⟨h2, S, 0, o5, o6, by omega, fun Q => ?_, LI_2 I cf_refl I.1 c2 I2 (by omega) I.2.2.2.2⟩
  have eL1 := eL
  simp (implicitDefEqProofs := false) only [rL_law_1536, rL_law_1536b, rL_law_1537, rL_law_1540, rL_law_1540b, rL_law_1541, rL_law_1544, rL_law_1547, rL_law_1548, kA_0, kB_0, kA_44, kB_44, kA_56, kB_56, e1, e2, ha0, hb0, (by decide : (1000 : Nat) < 2000), Nat.add_zero, eq_self, pCL_law, pSL_law, pOL_law, pLL_law, pCX7_trouble, pSX7_trouble, pOX7_trouble, pLX7_trouble, pCX9_trouble, pSX9_trouble, pOX9_trouble, pLX9_trouble, kl_I, kl_J, kl_R, kl_T, kl_N, Nat.le_refl, Nat.zero_le, List.map_nil, List.map_cons, List.sum_nil, List.sum_cons, c_I, c_J, c_R, c_T, va_rf, hI_wI, hJ_wJ, hR_wR, hI_J, hI_R, hJ_I, hJ_R, hR_I, hR_J, hN_I, hN_J, hN_R, wI_I, wJ_J, upd_at, updL_at, kR_s, Option.toList, List.append_nil, List.nil_append, List.cons_append, if_true, if_false, reduceIte, Bool.false_eq_true, not_true_eq_false, not_false_eq_true, true_and, and_true, false_and, and_false, true_or, or_true,  Nat.reduceEqDiff, Nat.reduceAdd, Nat.reduceLeDiff]
  try rfl
