/-! ===== texts, the tape ===== -/
theorem W_gf9 {M : qM} {pc q : Nat} (hd : decode (mB M) pc = .ok (.getfield 9, 3)) (hq : pc + 3 = q) (hO : mO M = 32) {d : Nat} {u : Nat × Nat} {ls : qL} {st : List Value} {h : qH} {Q : Option (Option Value) → qH → Prop} {j : Nat} (hj : j < 21) : WP d M u pc ls (.retAddr j :: st) h Q = WP d M u q ls (.retAddr (100 + j) :: st) h Q := by
  subst hq
  exact WP_go (by rw [stp_of hd rfl]; simp only [stI]; rw [if_pos ⟨hO, hj⟩]; rfl)
theorem W_gf15 {M : qM} {pc q : Nat} (hd : decode (mB M) pc = .ok (.getfield 15, 3)) (hq : pc + 3 = q) (hO : mO M = 32) {d : Nat} {u : Nat × Nat} {ls : qL} {st : List Value} {h : qH} {Q : Option (Option Value) → qH → Prop} {j : Nat} (hj : j < 21) : WP d M u pc ls (.retAddr j :: st) h Q = WP d M u q ls (.int 0 :: st) h Q := by
  subst hq
  exact WP_go (by rw [stp_of hd rfl]; simp only [stI]; rw [if_pos ⟨hO, hj⟩]; rfl)
theorem W_gs38 {M : qM} {pc q : Nat} (hd : decode (mB M) pc = .ok (.getstatic 38, 3)) (hq : pc + 3 = q) (hO : mO M = 32) {d : Nat} {u : Nat × Nat} {ls : qL} {st : List Value} {h : qH} {Q : Option (Option Value) → qH → Prop} : WP d M u pc ls st h Q = WP d M u q ls (.int 1 :: st) h Q := by
  subst hq
  exact WP_go (by rw [stp_of hd rfl]; simp only [stI]; rw [if_pos hO]; rfl)
theorem W_gs1053 {M : qM} {pc q : Nat} (hd : decode (mB M) pc = .ok (.getstatic 1053, 3)) (hq : pc + 3 = q) (hO : mO M = 32) {d : Nat} {u : Nat × Nat} {ls : qL} {st : List Value} {h : qH} {Q : Option (Option Value) → qH → Prop} : WP d M u pc ls st h Q = WP d M u q ls (.retAddr (2000 : Nat) :: st) h Q := by
  subst hq
  exact WP_go (by rw [stp_of hd rfl]; simp only [stI]; rw [if_pos hO]; rfl)
theorem W_alenT {M : qM} {pc q : Nat} (hd : decode (mB M) pc = .ok (.arraylength, 1)) (hq : pc + 1 = q) {d : Nat} {u : Nat × Nat} {ls : qL} {st : List Value} {h : qH} {Q : Option (Option Value) → qH → Prop} {j : Nat} (hj : j < 21) : WP d M u pc ls (.retAddr (100 + j) :: st) h Q = WP d M u q ls (.int (nI (sLen.getD j 0)) :: st) h Q := by
  subst hq
  exact WP_go (by rw [stp_of hd rfl]; simp only [stI]; rw [if_pos ⟨by omega, by omega⟩, Nat.add_sub_cancel_left]; rfl)
theorem W_baldT {M : qM} {pc q : Nat} (hd : decode (mB M) pc = .ok (.baload, 1)) (hq : pc + 1 = q) {d : Nat} {u : Nat × Nat} {ls : qL} {st : List Value} {h : qH} {Q : Option (Option Value) → qH → Prop} {j i : Nat} (hj : j < 21) (hi : i < sLen.getD j 0) (hl : sLen.getD j 0 < 2 ^ 31) : WP d M u pc ls (.int (nI i) :: .retAddr (100 + j) :: st) h Q = WP d M u q ls (.int ((sByt.getD j []).getD i 0) :: st) h Q := by
  subst hq
  have e : vpB (nI i) (sLen.getD (100 + j - 100) 0) = true := by
    rw [Nat.add_sub_cancel_left]
    unfold vpB
    exact decide_eq_true (nI_in hi hl)
  exact WP_go (by rw [stp_of hd rfl]; simp only [stI]; rw [if_pos ⟨by omega, by omega, e⟩, Nat.add_sub_cancel_left, nI_cl (by omega)]; rfl)
theorem sLen_le : ∀ j, j < 21 → sLen.getD j 0 ≤ 8 := by decide +kernel
theorem c_coder {d : Nat} {h : qH} {j : Nat} (hj : j < 21) : ∀ Q, WM d mJ0_coder_7d493 [.retAddr j] h Q = Q (some (some (.int 0))) h := by
  intro Q
  have r0 := fun u ls st h Q => W_gs38 (M := mJ0_coder_7d493) dJ0_coder_7d493_0 (q := 3) rfl rfl (d := d) (u := u) (ls := ls) (st := st) (h := h) (Q := Q)
  have r7 := fun u ls st h Q => W_gf15 (M := mJ0_coder_7d493) dJ0_coder_7d493_7 (q := 10) rfl rfl (d := d) (u := u) (ls := ls) (st := st) (h := h) (Q := Q) hj
  simp (implicitDefEqProofs := false) only [eJ0_coder_7d493, rJ0_coder_7d493_3, rJ0_coder_7d493_6, rJ0_coder_7d493_6b, rJ0_coder_7d493_10, rJ0_coder_7d493_13, rJ0_coder_7d493_14, r0, r7, show j < 2000 from by omega, show ¬ (1 : Int32) = 0 from by decide, pCJ0_coder_7d493, pSJ0_coder_7d493, pOJ0_coder_7d493, pLJ0_coder_7d493, show narrow .byte (.int 0) = .int 0 from rfl, kl_I, kl_J, kl_R, kl_T, kl_N, Nat.le_refl, Nat.zero_le, List.map_nil, List.map_cons, List.sum_nil, List.sum_cons, c_I, c_J, c_R, c_T, va_rf, hI_wI, hJ_wJ, hR_wR, hI_J, hI_R, hJ_I, hJ_R, hR_I, hR_J, hN_I, hN_J, hN_R, wI_I, wJ_J, upd_at, updL_at, kR_s, Option.toList, List.append_nil, List.nil_append, List.cons_append, if_true, if_false, reduceIte, Bool.false_eq_true, not_true_eq_false, not_false_eq_true, true_and, and_true, false_and, and_false, true_or, or_true,  Nat.reduceEqDiff, Nat.reduceAdd, Nat.reduceLeDiff]
theorem c_isLatin1 {d : Nat} {h : qH} {j : Nat} (hj : j < 21) : ∀ Q, WM d mJ0_isLatin1_aae02 [.retAddr j] h Q = Q (some (some (.int 1))) h := by
  intro Q
  have r0 := fun u ls st h Q => W_gs38 (M := mJ0_isLatin1_aae02) dJ0_isLatin1_aae02_0 (q := 3) rfl rfl (d := d) (u := u) (ls := ls) (st := st) (h := h) (Q := Q)
  have r7 := fun u ls st h Q => W_gf15 (M := mJ0_isLatin1_aae02) dJ0_isLatin1_aae02_7 (q := 10) rfl rfl (d := d) (u := u) (ls := ls) (st := st) (h := h) (Q := Q) hj
  simp (implicitDefEqProofs := false) only [eJ0_isLatin1_aae02, rJ0_isLatin1_aae02_3, rJ0_isLatin1_aae02_6, rJ0_isLatin1_aae02_6b, rJ0_isLatin1_aae02_10, rJ0_isLatin1_aae02_13, rJ0_isLatin1_aae02_14, rJ0_isLatin1_aae02_17, rJ0_isLatin1_aae02_18, r0, r7, show j < 2000 from by omega, show ¬ (1 : Int32) = 0 from by decide, pCJ0_isLatin1_aae02, pSJ0_isLatin1_aae02, pOJ0_isLatin1_aae02, pLJ0_isLatin1_aae02, kl_I, kl_J, kl_R, kl_T, kl_N, Nat.le_refl, Nat.zero_le, List.map_nil, List.map_cons, List.sum_nil, List.sum_cons, c_I, c_J, c_R, c_T, va_rf, hI_wI, hJ_wJ, hR_wR, hI_J, hI_R, hJ_I, hJ_R, hR_I, hR_J, hN_I, hN_J, hN_R, wI_I, wJ_J, upd_at, updL_at, kR_s, Option.toList, List.append_nil, List.nil_append, List.cons_append, if_true, if_false, reduceIte, Bool.false_eq_true, not_true_eq_false, not_false_eq_true, true_and, and_true, false_and, and_false, true_or, or_true,  Nat.reduceEqDiff, Nat.reduceAdd, Nat.reduceLeDiff]
theorem c_length {d : Nat} {h : qH} {j : Nat} (hj : j < 21) : ∀ Q, WM (d + 1) mJ0_length_8abf5 [.retAddr j] h Q = Q (some (some (.int (nI (sLen.getD j 0))))) h := by
  intro Q
  have l8 := sLen_le j hj
  have r1 := fun u ls st h Q => W_gf9 (M := mJ0_length_8abf5) dJ0_length_8abf5_1 (q := 4) rfl rfl (d := d + 1) (u := u) (ls := ls) (st := st) (h := h) (Q := Q) hj
  have r4 := fun u ls st h Q => W_alenT (M := mJ0_length_8abf5) dJ0_length_8abf5_4 (q := 5) rfl (d := d + 1) (u := u) (ls := ls) (st := st) (h := h) (Q := Q) hj
  have sh : nI (sLen.getD j 0) >>> ((0 : Int32) &&& 31) = nI (sLen.getD j 0) := by
    rw [pk_shrN (by omega) _ 0 (by decide), Nat.pow_zero, Nat.div_one]
  simp (implicitDefEqProofs := false) only [eJ0_length_8abf5, rJ0_length_8abf5_0, rJ0_length_8abf5_0b, rJ0_length_8abf5_4, rJ0_length_8abf5_5, rJ0_length_8abf5_5b, rJ0_length_8abf5_6, rJ0_length_8abf5_9, rJ0_length_8abf5_10, r1, r4, show j < 2000 from by omega, hj, c_coder (d := d) (h := h) hj, sh, pCJ0_length_8abf5, pSJ0_length_8abf5, pOJ0_length_8abf5, pLJ0_length_8abf5, pCJ0_coder_7d493, pSJ0_coder_7d493, pOJ0_coder_7d493, pLJ0_coder_7d493, kl_I, kl_J, kl_R, kl_T, kl_N, Nat.le_refl, Nat.zero_le, List.map_nil, List.map_cons, List.sum_nil, List.sum_cons, c_I, c_J, c_R, c_T, va_rf, hI_wI, hJ_wJ, hR_wR, hI_J, hI_R, hJ_I, hJ_R, hR_I, hR_J, hN_I, hN_J, hN_R, wI_I, wJ_J, upd_at, updL_at, kR_s, Option.toList, List.append_nil, List.nil_append, List.cons_append, if_true, if_false, reduceIte, Bool.false_eq_true, not_true_eq_false, not_false_eq_true, true_and, and_true, false_and, and_false, true_or, or_true,  Nat.reduceEqDiff, Nat.reduceAdd, Nat.reduceLeDiff]
theorem c_chk3 {d : Nat} {h : qH} {i n : Nat} (hi : i < n) (hn : n < 2 ^ 31) : ∀ Q, WM d mJ3_checkIndex_8e157 [.int (nI i), .int (nI n), .retAddr (2000 : Nat)] h Q = Q (some (some (.int (nI i)))) h := by
  intro Q
  simp (implicitDefEqProofs := false) only [eJ3_checkIndex_8e157, rJ3_checkIndex_8e157_0, rJ3_checkIndex_8e157_1, rJ3_checkIndex_8e157_4, rJ3_checkIndex_8e157_5, rJ3_checkIndex_8e157_6, rJ3_checkIndex_8e157_9, rJ3_checkIndex_8e157_9b, rJ3_checkIndex_8e157_10, rJ3_checkIndex_8e157_11, rJ3_checkIndex_8e157_16, rJ3_checkIndex_8e157_17, show ¬ nI i < 0 from nI_pos (by omega), show nI i < nI n from nI_lt hi hn, pCJ3_checkIndex_8e157, pSJ3_checkIndex_8e157, pOJ3_checkIndex_8e157, pLJ3_checkIndex_8e157, kl_I, kl_J, kl_R, kl_T, kl_N, Nat.le_refl, Nat.zero_le, List.map_nil, List.map_cons, List.sum_nil, List.sum_cons, c_I, c_J, c_R, c_T, va_rf, hI_wI, hJ_wJ, hR_wR, hI_J, hI_R, hJ_I, hJ_R, hR_I, hR_J, hN_I, hN_J, hN_R, wI_I, wJ_J, upd_at, updL_at, kR_s, Option.toList, List.append_nil, List.nil_append, List.cons_append, if_true, if_false, reduceIte, Bool.false_eq_true, not_true_eq_false, not_false_eq_true, true_and, and_true, false_and, and_false, true_or, or_true,  Nat.reduceEqDiff, Nat.reduceAdd, Nat.reduceLeDiff]
theorem c_chk0 {d : Nat} {h : qH} {i n : Nat} (hi : i < n) (hn : n < 2 ^ 31) : ∀ Q, WM (d + 1) mJ0_checkIndex_df160 [.int (nI i), .int (nI n)] h Q = Q (some none) h := by
  intro Q
  have r2 := fun u ls st h Q => W_gs1053 (M := mJ0_checkIndex_df160) dJ0_checkIndex_df160_2 (q := 5) rfl rfl (d := d + 1) (u := u) (ls := ls) (st := st) (h := h) (Q := Q)
  simp (implicitDefEqProofs := false) only [eJ0_checkIndex_df160, rJ0_checkIndex_df160_0, rJ0_checkIndex_df160_1, rJ0_checkIndex_df160_5, rJ0_checkIndex_df160_8, rJ0_checkIndex_df160_9, r2, c_chk3 (d := d) (h := h) hi hn, pCJ0_checkIndex_df160, pSJ0_checkIndex_df160, pOJ0_checkIndex_df160, pLJ0_checkIndex_df160, pCJ3_checkIndex_8e157, pSJ3_checkIndex_8e157, pOJ3_checkIndex_8e157, pLJ3_checkIndex_8e157, kl_I, kl_J, kl_R, kl_T, kl_N, Nat.le_refl, Nat.zero_le, List.map_nil, List.map_cons, List.sum_nil, List.sum_cons, c_I, c_J, c_R, c_T, va_rf, hI_wI, hJ_wJ, hR_wR, hI_J, hI_R, hJ_I, hJ_R, hR_I, hR_J, hN_I, hN_J, hN_R, wI_I, wJ_J, upd_at, updL_at, kR_s, Option.toList, List.append_nil, List.nil_append, List.cons_append, if_true, if_false, reduceIte, Bool.false_eq_true, not_true_eq_false, not_false_eq_true, true_and, and_true, false_and, and_false, true_or, or_true,  Nat.reduceEqDiff, Nat.reduceAdd, Nat.reduceLeDiff]
theorem sBy_ok : ∀ j, j < 21 → ∀ i, i < sLen.getD j 0 → (((sByt.getD j []).getD i 0 &&& 255).toUInt32 % 65536).toInt32 = (sByt.getD j []).getD i 0 := by decide +kernel
theorem c_charAt1 {d : Nat} {h : qH} {j i : Nat} (hj : j < 21) (hi : i < sLen.getD j 0) : ∀ Q, WM (d + 2) mJ1_charAt_3b067 [.retAddr (100 + j), .int (nI i)] h Q = Q (some (some (.int ((sByt.getD j []).getD i 0)))) h := by
  intro Q
  have l8 := sLen_le j hj
  have r2 := fun u ls st h Q => W_alenT (M := mJ1_charAt_3b067) dJ1_charAt_3b067_2 (q := 3) rfl (d := d + 2) (u := u) (ls := ls) (st := st) (h := h) (Q := Q) hj
  have r8 := fun u ls st h Q => W_baldT (M := mJ1_charAt_3b067) dJ1_charAt_3b067_8 (q := 9) rfl (d := d + 2) (u := u) (ls := ls) (st := st) (h := h) (Q := Q) hj hi (by omega)
  have nc := pk_nc ((sByt.getD j []).getD i 0 &&& 255)
  simp (implicitDefEqProofs := false) only [eJ1_charAt_3b067, rJ1_charAt_3b067_0, rJ1_charAt_3b067_1, rJ1_charAt_3b067_1b, rJ1_charAt_3b067_2, rJ1_charAt_3b067_3, rJ1_charAt_3b067_6, rJ1_charAt_3b067_6b, rJ1_charAt_3b067_7, rJ1_charAt_3b067_8, rJ1_charAt_3b067_9, rJ1_charAt_3b067_12, rJ1_charAt_3b067_13, rJ1_charAt_3b067_14, r2, r8, show 100 + j < 2000 from by omega, c_chk0 (d := d) (h := h) hi (by omega), nc, pCJ1_charAt_3b067, pSJ1_charAt_3b067, pOJ1_charAt_3b067, pLJ1_charAt_3b067, pCJ0_checkIndex_df160, pSJ0_checkIndex_df160, pOJ0_checkIndex_df160, pLJ0_checkIndex_df160, kl_I, kl_J, kl_R, kl_T, kl_N, Nat.le_refl, Nat.zero_le, List.map_nil, List.map_cons, List.sum_nil, List.sum_cons, c_I, c_J, c_R, c_T, va_rf, hI_wI, hJ_wJ, hR_wR, hI_J, hI_R, hJ_I, hJ_R, hR_I, hR_J, hN_I, hN_J, hN_R, wI_I, wJ_J, upd_at, updL_at, kR_s, Option.toList, List.append_nil, List.nil_append, List.cons_append, if_true, if_false, reduceIte, Bool.false_eq_true, not_true_eq_false, not_false_eq_true, true_and, and_true, false_and, and_false, true_or, or_true,  Nat.reduceEqDiff, Nat.reduceAdd, Nat.reduceLeDiff]
  rw [sBy_ok j hj i hi]
theorem c_charAt {d : Nat} {h : qH} {j i : Nat} (hj : j < 21) (hi : i < sLen.getD j 0) : ∀ Q, WM (d + 3) mJ0_charAt_5068e [.retAddr j, .int (nI i)] h Q = Q (some (some (.int ((sByt.getD j []).getD i 0)))) h := by
  intro Q
  have l8 := sLen_le j hj
  have r8 := fun u ls st h Q => W_gf9 (M := mJ0_charAt_5068e) dJ0_charAt_5068e_8 (q := 11) rfl rfl (d := d + 3) (u := u) (ls := ls) (st := st) (h := h) (Q := Q) hj
  have nc := pk_nc ((sByt.getD j []).getD i 0 &&& 255)
  rw [sBy_ok j hj i hi] at nc
  simp (implicitDefEqProofs := false) only [eJ0_charAt_5068e, rJ0_charAt_5068e_0, rJ0_charAt_5068e_0b, rJ0_charAt_5068e_1, rJ0_charAt_5068e_4, rJ0_charAt_5068e_7, rJ0_charAt_5068e_7b, rJ0_charAt_5068e_11, rJ0_charAt_5068e_12, rJ0_charAt_5068e_15, rJ0_charAt_5068e_16, rJ0_charAt_5068e_16b, rJ0_charAt_5068e_20, rJ0_charAt_5068e_24, r8, show j < 2000 from by omega, hj, c_isLatin1 (d := d + 2) (h := h) hj, c_charAt1 (d := d) (h := h) hj hi, nc, show ¬ (1 : Int32) = 0 from by decide, pCJ0_charAt_5068e, pSJ0_charAt_5068e, pOJ0_charAt_5068e, pLJ0_charAt_5068e, pCJ0_isLatin1_aae02, pSJ0_isLatin1_aae02, pOJ0_isLatin1_aae02, pLJ0_isLatin1_aae02, pCJ1_charAt_3b067, pSJ1_charAt_3b067, pOJ1_charAt_3b067, pLJ1_charAt_3b067, kl_I, kl_J, kl_R, kl_T, kl_N, Nat.le_refl, Nat.zero_le, List.map_nil, List.map_cons, List.sum_nil, List.sum_cons, c_I, c_J, c_R, c_T, va_rf, hI_wI, hJ_wJ, hR_wR, hI_J, hI_R, hJ_I, hJ_R, hR_I, hR_J, hN_I, hN_J, hN_R, wI_I, wJ_J, upd_at, updL_at, kR_s, Option.toList, List.append_nil, List.nil_append, List.cons_append, if_true, if_false, reduceIte, Bool.false_eq_true, not_true_eq_false, not_false_eq_true, true_and, and_true, false_and, and_false, true_or, or_true,  Nat.reduceEqDiff, Nat.reduceAdd, Nat.reduceLeDiff]
/-- a byte as it is read -/
def ub (v : Int32) : Nat := (v &&& 255).toNatClampNeg
theorem ub_e (v : Int32) : v &&& 255 = nI (ub v) ∧ ub v < 256 := by
  obtain ⟨j, hj, e⟩ := pk_andE v (m := 255) 8 (by decide)
  have : ub v = j := by unfold ub; rw [e]; exact nI_cl (by omega)
  rw [this]
  exact ⟨e, hj⟩
theorem c_at {d : Nat} {h : qH} {i : Nat} (F : Fin0 (hR h)) (hi : i < 900) : ∀ Q, WM d mX5_at [.ref (25 : Nat), .int (nI i)] h Q = Q (some (some (.int (nI (ub (hI h 26 i)))))) h := by
  intro Q
  have v : vp_in (nI i) 900 := nI_vp hi (by decide)
  have cl : (nI i).toNatClampNeg = i := nI_cl (by omega)
  simp (implicitDefEqProofs := false) only [eX5_at, rX5_at_0, rX5_at_1, rX5_at_4, rX5_at_5, rX5_at_5b, rX5_at_6, rX5_at_9, rX5_at_10, rX5_at_13, rX5_at_13b, rX5_at_14, rX5_at_17, rX5_at_18, rX5_at_19, rX5_at_22, rX5_at_23, rX5_at_26, rX5_at_27, fin_25_0 F, kA_25, kB_25, kA_26, kB_26, show ¬ nI i < 0 from nI_pos (by omega), show (Int32.ofNat 900) = nI 900 from rfl, show ¬ nI 900 ≤ nI i from nI_ge hi (by decide), v, cl, (ub_e (hI h 26 i)).1, pCX5_at, pSX5_at, pOX5_at, pLX5_at, show (11 : Nat) = 10 ↔ False from by decide, kl_I, kl_J, kl_R, kl_T, kl_N, Nat.le_refl, Nat.zero_le, List.map_nil, List.map_cons, List.sum_nil, List.sum_cons, c_I, c_J, c_R, c_T, va_rf, hI_wI, hJ_wJ, hR_wR, hI_J, hI_R, hJ_I, hJ_R, hR_I, hR_J, hN_I, hN_J, hN_R, wI_I, wJ_J, upd_at, updL_at, kR_s, Option.toList, List.append_nil, List.nil_append, List.cons_append, if_true, if_false, reduceIte, Bool.false_eq_true, not_true_eq_false, not_false_eq_true, true_and, and_true, false_and, and_false, true_or, or_true,  Nat.reduceEqDiff, Nat.reduceAdd, Nat.reduceLeDiff]

/-- four bytes more -/
def by1 (v : Int32) (k : Int32) : Int32 := (v >>> (k &&& 31)).toInt8.toInt32
def by4 (f : Nat → Int32) (n : Nat) (v : Int32) : Nat → Int32 := upd (upd (upd (upd f n (by1 v 24)) (n + 1) (by1 v 16)) (n + 2) (by1 v 8)) (n + 3) (by1 v 0)
theorem nar_b (z : Int32) : vp_nar .byte z.toInt8.toInt32 = z.toInt8.toInt32 := by
  have := pk_nb z
  unfold vp_nar
  rw [this]
theorem l_add1 {d : Nat} {h : qH} {n : Nat} {v k : Int32} (F : Fin0 (hR h)) (e1 : hI h 25 1 = nI n) (hn : n < 900) (hk : ¬ k < 0) {Q : Option (Option Value) → qH → Prop} : WP d mX5_add (0, 0) 3 [some (.ref (25 : Nat)), some (.int v), some (.int k)] [] h Q = WP d mX5_add (0, 0) 52 [some (.ref (25 : Nat)), some (.int v), some (.int (k + (-8)))] [] (wI (wI h 26 (upd (hI h 26) n (by1 v k))) 25 (upd (hI h 25) 1 (nI (n + 1)))) Q := by
  have a3 : vp_in (nI n) 900 := nI_vp hn (by decide)
  have a4 : (nI n).toNatClampNeg = n := nI_cl (by omega)
  simp (implicitDefEqProofs := false) only [rX5_add_3, rX5_add_4, rX5_add_7, rX5_add_7b, rX5_add_8, rX5_add_11, rX5_add_14, rX5_add_14b, rX5_add_15, rX5_add_18, rX5_add_18b, rX5_add_19, rX5_add_22, rX5_add_23, rX5_add_26, rX5_add_26b, rX5_add_27, rX5_add_30, rX5_add_30b, rX5_add_31, rX5_add_34, rX5_add_35, rX5_add_36, rX5_add_37, rX5_add_38, rX5_add_39, rX5_add_39b, rX5_add_40, rX5_add_40b, rX5_add_41, rX5_add_44, rX5_add_45, rX5_add_46, rX5_add_49, fin_25_0 F, kA_25, kB_25, kA_26, kB_26, show (Int32.ofNat 900) = nI 900 from rfl, e1, hk, show ¬ nI n < 0 from nI_pos (by omega), show ¬ nI 900 ≤ nI n from nI_ge hn (by decide), a3, a4, nI_1, nar_b, by1, pCX5_add, pSX5_add, pOX5_add, pLX5_add, kl_I, kl_J, kl_R, kl_T, kl_N, Nat.le_refl, Nat.zero_le, List.map_nil, List.map_cons, List.sum_nil, List.sum_cons, c_I, c_J, c_R, c_T, va_rf, hI_wI, hJ_wJ, hR_wR, hI_J, hI_R, hJ_I, hJ_R, hR_I, hR_J, hN_I, hN_J, hN_R, wI_I, wJ_J, upd_at, updL_at, kR_s, Option.toList, List.append_nil, List.nil_append, List.cons_append, if_true, if_false, reduceIte, Bool.false_eq_true, not_true_eq_false, not_false_eq_true, true_and, and_true, false_and, and_false, true_or, or_true,  Nat.reduceEqDiff, Nat.reduceAdd, Nat.reduceLeDiff]
theorem wW {h : qH} {f g f' g' : Nat → Int32} : wI (wI (wI (wI h 26 g) 25 f) 26 g') 25 f' = wI (wI h 26 g') 25 f' := by
  rw [wI_com (h := wI h 26 g) (a := 25) (b := 26) (by decide), wI_I, wI_I]
theorem c_add {d : Nat} {h : qH} {n : Nat} {v : Int32} (F : Fin0 (hR h)) (e1 : hI h 25 1 = nI n) (hn : n + 4 ≤ 900) : ∀ Q, WM d mX5_add [.ref (25 : Nat), .int v] h Q = Q (some none) (wI (wI h 26 (by4 (hI h 26) n v)) 25 (upd (hI h 25) 1 (nI (n + 4)))) := by
  intro Q
  let H : Nat → (Nat → Int32) → qH := fun m g => wI (wI h 26 g) 25 (upd (hI h 25) 1 (nI m))
  have i1 : ∀ m g, hI (H m g) 25 1 = nI m := fun m g => by simp only [H]; rw [hI_wI, if_pos rfl, upd_at, if_pos rfl]
  have st : ∀ (m : Nat) (g : Nat → Int32) (k : Int32), m < 900 → ¬ k < 0 → WP d mX5_add (0, 0) 3 [some (.ref (25 : Nat)), some (.int v), some (.int k)] [] (H m g) Q = WP d mX5_add (0, 0) 3 [some (.ref (25 : Nat)), some (.int v), some (.int (k + (-8)))] [] (H (m + 1) (upd g m (by1 v k))) Q := fun m g k hm hk => by
    rw [l_add1 (h := H m g) F (i1 m g) hm hk, rX5_add_52]
    congr 1
    simp only [H]
    rw [hI_wI, if_neg (by decide), hI_wI, if_pos rfl, hI_wI, if_pos rfl, upd_upd, wW]
  simp (implicitDefEqProofs := false) only [eX5_add, rX5_add_0, rX5_add_2, kl_I, kl_J, kl_R, kl_T, kl_N, Nat.le_refl, Nat.zero_le, List.map_nil, List.map_cons, List.sum_nil, List.sum_cons, c_I, c_J, c_R, c_T, va_rf, hI_wI, hJ_wJ, hR_wR, hI_J, hI_R, hJ_I, hJ_R, hR_I, hR_J, hN_I, hN_J, hN_R, wI_I, wJ_J, upd_at, updL_at, kR_s, Option.toList, List.append_nil, List.nil_append, List.cons_append, if_true, if_false, reduceIte, Bool.false_eq_true, not_true_eq_false, not_false_eq_true, true_and, and_true, false_and, and_false, true_or, or_true,  Nat.reduceEqDiff, Nat.reduceAdd, Nat.reduceLeDiff]
  rw [l_add1 F e1 (by omega) (by decide), rX5_add_52]
  change WP d mX5_add (0, 0) 3 [some (.ref (25 : Nat)), some (.int v), some (.int 16)] [] (H (n + 1) (upd (hI h 26) n (by1 v 24))) Q = _
  rw [st _ _ _ (by omega) (by decide)]
  change WP d mX5_add (0, 0) 3 [some (.ref (25 : Nat)), some (.int v), some (.int 8)] [] (H (n + 1 + 1) _) Q = _
  rw [st _ _ _ (by omega) (by decide)]
  change WP d mX5_add (0, 0) 3 [some (.ref (25 : Nat)), some (.int v), some (.int 0)] [] (H (n + 1 + 1 + 1) _) Q = _
  rw [st _ _ _ (by omega) (by decide)]
  change WP d mX5_add (0, 0) 3 [some (.ref (25 : Nat)), some (.int v), some (.int (-8))] [] (H (n + 1 + 1 + 1 + 1) _) Q = _
  simp (implicitDefEqProofs := false) only [rX5_add_3, rX5_add_4, rX5_add_55, show (-8 : Int32) < 0 from by decide, pCX5_add, pSX5_add, pOX5_add, pLX5_add, kl_I, kl_J, kl_R, kl_T, kl_N, Nat.le_refl, Nat.zero_le, List.map_nil, List.map_cons, List.sum_nil, List.sum_cons, c_I, c_J, c_R, c_T, va_rf, hI_wI, hJ_wJ, hR_wR, hI_J, hI_R, hJ_I, hJ_R, hR_I, hR_J, hN_I, hN_J, hN_R, wI_I, wJ_J, upd_at, updL_at, kR_s, Option.toList, List.append_nil, List.nil_append, List.cons_append, if_true, if_false, reduceIte, Bool.false_eq_true, not_true_eq_false, not_false_eq_true, true_and, and_true, false_and, and_false, true_or, or_true,  Nat.reduceEqDiff, Nat.reduceAdd, Nat.reduceLeDiff]
  rfl
def feB (f : Nat → Int32) (n : Nat) (a b c d e : Int32) : Nat → Int32 := by4 (by4 (by4 (by4 (by4 f n a) (n + 4) b) (n + 8) c) (n + 12) d) (n + 16) e
/-- fed -/
def feS (S : AS) (a b c d e : Int32) : AS := (S.1, S.2.1, (sTl S + 20, feB (sTb S) (sTl S) a b c d e), S.2.2.2)
def sFeed (S : AS) (a b c d e : Int32) : AS × Int32 := if 880 < sTl S then (S, -1) else (feS S a b c d e, nI (sTl S + 20))
theorem by4_cong {f g : Nat → Int32} {n : Nat} {v : Int32} (h : ∀ i, i < 900 → f i = g i) : ∀ i, i < 900 → by4 f n v i = by4 g n v i := by
  intro i hi
  unfold by4
  simp only [upd_at]
  rw [h i hi]
theorem q_feed {d : Nat} {h : qH} {S : AS} {a b c e f : Int32} (I : CI h S) : qs (d + 1) mX7_feed [.ref (0 : Nat), .int a, .int b, .int c, .int e, .int f] h (sFeed S a b c e f).1 (some (.int (sFeed S a b c e f).2)) := by
  obtain ⟨s, tu, F, ⟨r0, r1, r2⟩, w, bt, k, st, wc, gc, tb, ⟨tp1, tp2, tp3⟩, e8, e9, ep⟩ := id I
  rw [sFeed]
  have q : (nI (sTl S) ≤ 880) = (sTl S ≤ 880) := nle (x := sTl S) (k := 880) (c := 880) rfl (by omega) (by omega)
  by_cases c1 : 880 < sTl S
  · rw [if_pos c1]
    refine ⟨h, fun Q => ?_, cf_refl, I⟩
    simp (implicitDefEqProofs := false) only [eX7_feed, rX7_feed_0, rX7_feed_0b, rX7_feed_1, rX7_feed_4, rX7_feed_7, rX7_feed_10, rX7_feed_13, rX7_feed_14, fin_0_2 F, fin_0_3 F, fin_0_4 F, fin_0_5 F, fin_0_6 F, fin_0_7 F, kA_0, kB_0, kA_25, kB_25, pCX7_feed, pSX7_feed, pOX7_feed, pLX7_feed, tp2, q, show ¬ sTl S ≤ 880 from by omega, kl_I, kl_J, kl_R, kl_T, kl_N, Nat.le_refl, Nat.zero_le, List.map_nil, List.map_cons, List.sum_nil, List.sum_cons, c_I, c_J, c_R, c_T, va_rf, hI_wI, hJ_wJ, hR_wR, hI_J, hI_R, hJ_I, hJ_R, hR_I, hR_J, hN_I, hN_J, hN_R, wI_I, wJ_J, upd_at, updL_at, kR_s, Option.toList, List.append_nil, List.nil_append, List.cons_append, if_true, if_false, reduceIte, Bool.false_eq_true, not_true_eq_false, not_false_eq_true, true_and, and_true, false_and, and_false, true_or, or_true,  Nat.reduceEqDiff, Nat.reduceAdd, Nat.reduceLeDiff]
  · rw [if_neg c1]
    let H : Nat → (Nat → Int32) → qH := fun m g => wI (wI h 26 g) 25 (upd (hI h 25) 1 (nI m))
    have st1 : ∀ (m : Nat) (g : Nat → Int32) (v : Int32), m + 4 ≤ 900 → ∀ Q, WM d mX5_add [.ref (25 : Nat), .int v] (H m g) Q = Q (some none) (H (m + 4) (by4 g m v)) := fun m g v hm Q => by
      have := c_add (d := d) (h := H m g) (n := m) (v := v) F (by simp only [H]; rw [hI_wI, if_pos rfl, upd_at, if_pos rfl]) hm Q
      rw [this]
      congr 1
      simp only [H]
      rw [hI_wI, if_neg (by decide), hI_wI, if_pos rfl, hI_wI, if_pos rfl, upd_upd, wW]
    have st0 : ∀ Q, WM d mX5_add [.ref (25 : Nat), .int a] h Q = Q (some none) (H (sTl S + 4) (by4 (hI h 26) (sTl S) a)) := fun Q => c_add F tp2 (by omega) Q
    have s2 := st1 (sTl S + 4) (by4 (hI h 26) (sTl S) a) b (by omega)
    have s3 := st1 (sTl S + 4 + 4) (by4 (by4 (hI h 26) (sTl S) a) (sTl S + 4) b) c (by omega)
    have s4 := st1 (sTl S + 4 + 4 + 4) (by4 (by4 (by4 (hI h 26) (sTl S) a) (sTl S + 4) b) (sTl S + 4 + 4) c) e (by omega)
    have s5 := st1 (sTl S + 4 + 4 + 4 + 4) (by4 (by4 (by4 (by4 (hI h 26) (sTl S) a) (sTl S + 4) b) (sTl S + 4 + 4) c) (sTl S + 4 + 4 + 4) e) f (by omega)
    have x1 : sx [25, 26] h (H (sTl S + 20) (feB (hI h 26) (sTl S) a b c e f)) := sx_w (sx_w sx_refl (by simp)) (by simp)
    have le : hI (H (sTl S + 20) (feB (hI h 26) (sTl S) a b c e f)) 25 1 = nI (sTl S + 20) := by simp only [H]; rw [hI_wI, if_pos rfl, upd_at, if_pos rfl]
    refine ⟨H (sTl S + 20) (feB (hI h 26) (sTl S) a b c e f), fun Q => ?_, cf_sx x1 (by simp), s, tu, F, ⟨r0, r1, r2⟩, cS_sx w x1 (by simp), bT_sx bt x1 (by simp), cC_sx k x1 (by simp) (by simp), St_sx st x1 (by simp) (by simp) (by simp), wC_sx wc x1 (by simp) (by simp), gC_sx gc x1 (by simp) (by simp) (by simp), tb, ⟨by show sTl S + 20 ≤ 900; omega, le, ?_⟩, ?_, ?_, ?_⟩
    · simp (implicitDefEqProofs := false) only [eX7_feed, rX7_feed_0, rX7_feed_0b, rX7_feed_1, rX7_feed_4, rX7_feed_7, rX7_feed_10, rX7_feed_13, rX7_feed_14, rX7_feed_15, rX7_feed_15b, rX7_feed_16, rX7_feed_19, rX7_feed_20, rX7_feed_23, rX7_feed_23b, rX7_feed_24, rX7_feed_27, rX7_feed_28, rX7_feed_31, rX7_feed_31b, rX7_feed_32, rX7_feed_35, rX7_feed_36, rX7_feed_39, rX7_feed_39b, rX7_feed_40, rX7_feed_43, rX7_feed_45, rX7_feed_48, rX7_feed_48b, rX7_feed_49, rX7_feed_52, rX7_feed_54, rX7_feed_57, rX7_feed_57b, rX7_feed_58, rX7_feed_61, rX7_feed_64, fin_0_2 F, fin_0_3 F, fin_0_4 F, fin_0_5 F, fin_0_6 F, fin_0_7 F, kA_0, kB_0, kA_25, kB_25, pCX7_feed, pSX7_feed, pOX7_feed, pLX7_feed, pCX5_add, pSX5_add, pOX5_add, pLX5_add, tp2, q, show sTl S ≤ 880 from by omega, st0, s2, s3, s4, s5, show hR (H (sTl S + 4) (by4 (hI h 26) (sTl S) a)) = hR h from rfl, H, kl_I, kl_J, kl_R, kl_T, kl_N, Nat.le_refl, Nat.zero_le, List.map_nil, List.map_cons, List.sum_nil, List.sum_cons, c_I, c_J, c_R, c_T, va_rf, hI_wI, hJ_wJ, hR_wR, hI_J, hI_R, hJ_I, hJ_R, hR_I, hR_J, hN_I, hN_J, hN_R, wI_I, wJ_J, upd_at, updL_at, kR_s, Option.toList, List.append_nil, List.nil_append, List.cons_append, if_true, if_false, reduceIte, Bool.false_eq_true, not_true_eq_false, not_false_eq_true, true_and, and_true, false_and, and_false, true_or, or_true,  Nat.reduceEqDiff, Nat.reduceAdd, Nat.reduceLeDiff]
      rfl
    · intro i hi
      simp only [H]
      rw [hI_wI, if_neg (by decide), hI_wI, if_pos rfl]
      exact by4_cong (by4_cong (by4_cong (by4_cong (by4_cong tp3)))) i hi
    · rw [x1.2.2.2 0 (by simp)]; exact e8
    · rw [x1.2.2.2 0 (by simp)]; exact e9
    · intro z; rw [x1.2.2.2 27 (by simp)]; exact ep z
