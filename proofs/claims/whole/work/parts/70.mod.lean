/-! ===== the model: odds ===== -/
theorem wJ_same {h : qH} {a : Nat} : wJ h a (hJ h a) = h := by
  unfold wJ hJ
  obtain ⟨h1, h2, h3, h4⟩ := h
  simp only
  congr 2
  funext b
  simp only [va_up]
  split
  · rename_i q; rw [q]
  · rfl
theorem cg0 {x v : Nat} : cgN 0 x v = if v.testBit x = true then 1 else 0 := rfl
theorem cg1 {x v : Nat} : cgN 1 x v = if v = 0 then 1 else 0 := rfl
theorem cg2 {x v : Nat} : cgN 2 x v = popc 6 v := rfl
set_option maxHeartbeats 1000000 in
theorem l_chm {d : Nat} {s n : Nat} {a : aS} {x : sT} (hn : n ≤ 90) : ∀ (m c : Nat), c + m = 2 ^ aN a → ∀ (h : qH), mK h s a → vF (hI h 46) a x → OI h a x.1 n c → ∃ h', (∀ o3 o4 o5 o6 Q, WP (d + 3) mX9_chances (0, 0) 84 [some (.ref (44 : Nat)), some (.int (nI n)), some (.int (nI c)), o3, o4, o5, o6] [] h Q = Q (some none) h') ∧ kp h h' ∧ OI h' a x.1 n (2 ^ aN a) := by
  intro m
  induction m with
  | zero =>
    intro c hc h k v o
    obtain rfl : c = 2 ^ aN a := by omega
    have hs := k.2.2.1.1
    have h6 := k.2.2.1.2.2.1.1
    refine ⟨h, fun o3 o4 o5 o6 Q => ?_, kp_refl, o⟩
    simp (implicitDefEqProofs := false) only [rX9_chances_84, rX9_chances_85, rX9_chances_86, rX9_chances_86b, rX9_chances_87, rX9_chances_90, rX9_chances_93, rX9_chances_94, rX9_chances_97, rX9_chances_98, rX9_chances_99, rX9_chances_99b, rX9_chances_100, rX9_chances_103, rX9_chances_104, rX9_chances_322, kA_44, kB_44, kU0 hs, nU hs, k.2.1, k.2.2.1.2.2.2.1.2.1, bt_shl (j := aN a) (by omega), pCX9_chances, pSX9_chances, pOX9_chances, pLX9_chances, Int32.le_refl, kl_I, kl_J, kl_R, kl_T, kl_N, Nat.le_refl, Nat.zero_le, List.map_nil, List.map_cons, List.sum_nil, List.sum_cons, c_I, c_J, c_R, c_T, va_rf, hI_wI, hJ_wJ, hR_wR, hI_J, hI_R, hJ_I, hJ_R, hR_I, hR_J, hN_I, hN_J, hN_R, wI_I, wJ_J, upd_at, updL_at, kR_s, Option.toList, List.append_nil, List.nil_append, List.cons_append, if_true, if_false, reduceIte, Bool.false_eq_true, not_true_eq_false, not_false_eq_true, true_and, and_true, false_and, and_false, true_or, or_true,  Nat.reduceEqDiff, Nat.reduceAdd, Nat.reduceLeDiff]
  | succ m ih =>
    intro c hc h k v o
    have hs := k.2.2.1.1
    have ww := k.2.2.1.2.2.1
    have h6 := ww.1
    have p64 := p6 h6
    have e1 := k.2.2.1.2.2.2.1.2.1
    have sh := bt_shl (j := aN a) (by omega)
    have hlt : c < 2 ^ aN a := by omega
    have g1 : ¬ nI (2 ^ aN a) ≤ nI c := nI_ge hlt (by omega)
    have vf := vF_fil (g := hI h 47) h6 v
    obtain ⟨G', xc, e3⟩ := l_ch3 (d := d + 2) (c := c) (y := nI n) k v (by omega) (aN a) 0 (by omega) (fil 10 (hI h 46) (hI h 47)) ⟨fun j hj => by rw [if_neg (by omega)]; exact vf.1 j hj, vf.2.1⟩
    rw [pm_w h6 hlt] at e3
    have wk := c_works (d := d + 2) k.1
    have st : ∀ o3 o4 o5 o6 Q X, WP (d + 3) mX9_chances (0, 0) 214 [some (.ref (44 : Nat)), some (.int (nI n)), some (.int (nI c)), some (.long (lN (wtN a x.1 c))), none, some (.int (nI (aN a))), o6] [] (wI h 47 G') Q = X → WP (d + 3) mX9_chances (0, 0) 84 [some (.ref (44 : Nat)), some (.int (nI n)), some (.int (nI c)), o3, o4, o5, o6] [] h Q = X := fun o3 o4 o5 o6 Q X hX => by
      have e3 := e3 o6 Q
      rw [show pmN a x.1 c 0 = 1 from rfl] at e3
      simp (implicitDefEqProofs := false) only [rX9_chances_84, rX9_chances_85, rX9_chances_86, rX9_chances_86b, rX9_chances_87, rX9_chances_90, rX9_chances_93, rX9_chances_94, rX9_chances_97, rX9_chances_98, rX9_chances_99, rX9_chances_99b, rX9_chances_100, rX9_chances_103, rX9_chances_104, kA_44, kB_44, kU0 hs, nU hs, k.2.1, e1, sh, g1, wk, pCX9_chances, pSX9_chances, pOX9_chances, pLX9_chances, pCX9_works, pSX9_works, pOX9_works, pLX9_works, kl_I, kl_J, kl_R, kl_T, kl_N, Nat.le_refl, Nat.zero_le, List.map_nil, List.map_cons, List.sum_nil, List.sum_cons, c_I, c_J, c_R, c_T, va_rf, hI_wI, hJ_wJ, hR_wR, hI_J, hI_R, hJ_I, hJ_R, hR_I, hR_J, hN_I, hN_J, hN_R, wI_I, wJ_J, upd_at, updL_at, kR_s, Option.toList, List.append_nil, List.nil_append, List.cons_append, if_true, if_false, reduceIte, Bool.false_eq_true, not_true_eq_false, not_false_eq_true, true_and, and_true, false_and, and_false, true_or, or_true,  Nat.reduceEqDiff, Nat.reduceAdd, Nat.reduceLeDiff]
      exact e3.trans hX
    have x1 : sx [47] h (wI h 47 G') := sx_w sx_refl (by simp)
    have k1 := mK_sx k x1 (by decide)
    have v1 : vF (hI (wI h 47 G') 46) a x := by rw [hI_wI, if_neg (by decide)]; exact v
    have wl := wtN_le ww (t := x.1) (c := c)
    have cmp := lg0 (x := wtN a x.1 c) (by omega)
    by_cases cw : wtN a x.1 c = 0
    · rw [if_pos cw] at cmp
      have o1 : OI (wI h 47 G') a x.1 n (c + 1) := by
        unfold OI
        rw [ovN, ovN, cw, Nat.zero_mul, Nat.zero_mul, Nat.add_zero, Nat.add_zero]
        refine ⟨o.1, o.2.1, o.2.2.1, fun j hj => ?_⟩
        rw [ovN, cw, Nat.zero_mul, Nat.add_zero]
        exact o.2.2.2 j hj
      obtain ⟨h9, e9, k9, o9⟩ := ih (c + 1) (by omega) (wI h 47 G') k1 v1 o1
      refine ⟨h9, fun o3 o4 o5 o6 Q => ?_, kp_tr (kp_sx x1 (by decide)) k9, o9⟩
      refine st o3 o4 o5 o6 Q _ ?_
      have e9 := e9 (some (.long (lN (wtN a x.1 c)))) none (some (.int (nI (aN a)))) o6 Q
      simp (implicitDefEqProofs := false) only [rX9_chances_214, rX9_chances_215, rX9_chances_216, rX9_chances_217, rX9_chances_220, cmp, pCX9_chances, pSX9_chances, pOX9_chances, pLX9_chances, kl_I, kl_J, kl_R, kl_T, kl_N, Nat.le_refl, Nat.zero_le, List.map_nil, List.map_cons, List.sum_nil, List.sum_cons, c_I, c_J, c_R, c_T, va_rf, hI_wI, hJ_wJ, hR_wR, hI_J, hI_R, hJ_I, hJ_R, hR_I, hR_J, hN_I, hN_J, hN_R, wI_I, wJ_J, upd_at, updL_at, kR_s, Option.toList, List.append_nil, List.nil_append, List.cons_append, if_true, if_false, reduceIte, Bool.false_eq_true, not_true_eq_false, not_false_eq_true, true_and, and_true, false_and, and_false, true_or, or_true,  Nat.reduceEqDiff, Nat.reduceAdd, Nat.reduceLeDiff]
      rw [rX9_chances_316, nI_1]
      simp (implicitDefEqProofs := false) only [rX9_chances_319, kl_I, kl_J, kl_R, kl_T, kl_N, Nat.le_refl, Nat.zero_le, List.map_nil, List.map_cons, List.sum_nil, List.sum_cons, c_I, c_J, c_R, c_T, va_rf, hI_wI, hJ_wJ, hR_wR, hI_J, hI_R, hJ_I, hJ_R, hR_I, hR_J, hN_I, hN_J, hN_R, wI_I, wJ_J, upd_at, updL_at, kR_s, Option.toList, List.append_nil, List.nil_append, List.cons_append, if_true, if_false, reduceIte, Bool.false_eq_true, not_true_eq_false, not_false_eq_true, true_and, and_true, false_and, and_false, true_or, or_true,  Nat.reduceEqDiff, Nat.reduceAdd, Nat.reduceLeDiff]
      exact e9
    · rw [if_neg cw] at cmp
      have cb := c_burnsAll (d := d) (h := wI h 47 G') (cut := cutN a x.1) (wo := none) (own := ownN a x.1 c) k1.1 k1.2.1 k1.2.2.1 (cutN_lt ww x.1) (fun y hy => by cases hy) (fun j hj => by rw [hI_wI, if_pos rfl, xc.1 j hj]; exact xc_own ww hj) (own_6 ww) (by rw [hI_wI, if_pos rfl]; exact xc.2) k1.2.2.2
      have at2 := at_mk (h := wI h 47 G') (cut := cutN a x.1) (wo := none) (own := ownN a x.1 c) ww (own_6 ww)
      have x2 : sx [50] (wI h 47 G') (wI (wI h 47 G') 50 (fil (aN a) (f9 (sprN a (cutN a x.1) none (ownN a x.1 c))) (hI (wI h 47 G') 50))) := sx_w sx_refl (by simp)
      generalize wI (wI h 47 G') 50 (fil (aN a) (f9 (sprN a (cutN a x.1) none (ownN a x.1 c))) (hI (wI h 47 G') 50)) = h2 at cb at2 x2
      have k2 := mK_sx k1 x2 (by decide)
      have F2 := k2.1
      have bb : ∀ Q, WM (d + 2) mX9_burntBy [.ref (44 : Nat), .int (nI n)] h2 Q = Q (some (some (.int (nI (biN a x.1 c n))))) h2 := c_mbb (d := d + 2) (y := n) k2.1 k2.2.1 k2.2.2.1 at2 (by omega)
      have b64 := biN_lt ww (t := x.1) (c := c) (y := n)
      have o2 : OI h2 a x.1 n c := OI_mv o (by rw [x2.2.1]; rfl) (by rw [x2.2.1]; rfl)
      have bc := fun h => c_mbits (d := d + 2) (h := h) (x := biN a x.1 c n) b64
      have pl := popc_le 6 (biN a x.1 c n)
      have i2 : (nI (popc 6 (biN a x.1 c n))).toInt64 = lN (popc 6 (biN a x.1 c n)) := nI_l (by omega)
      have qz : (nI (biN a x.1 c n) = 0) = (biN a x.1 c n = 0) := nq (x := biN a x.1 c n) (k := 0) (c := 0) rfl (by omega) (by omega)
      -- the heap behind the two sums
      have hst : ∃ A, (A 30 = hJ h2 44 30 ∧ A 31 = lN (ovN a x.1 n 1 0 (c + 1)) ∧ A 32 = lN (ovN a x.1 n 2 0 (c + 1))) ∧ ∀ o6 Q X, WP (d + 3) mX9_chances (0, 0) 273 [some (.ref (44 : Nat)), some (.int (nI n)), some (.int (nI c)), some (.long (lN (wtN a x.1 c))), none, some (.int (nI (biN a x.1 c n))), some (.int (nI 0))] [] (wJ h2 44 A) Q = X → WP (d + 3) mX9_chances (0, 0) 214 [some (.ref (44 : Nat)), some (.int (nI n)), some (.int (nI c)), some (.long (lN (wtN a x.1 c))), none, some (.int (nI (aN a))), o6] [] (wI h 47 G') Q = X := by
        have q31 := o2.2.1
        have q32 := o2.2.2.1
        by_cases cz : biN a x.1 c n = 0
        · refine ⟨vp_updL (vp_updL (hJ h2 44) 31 (lN (ovN a x.1 n 1 0 c + wtN a x.1 c))) 32 (lN (ovN a x.1 n 2 0 c + wtN a x.1 c * popc 6 (biN a x.1 c n))), ⟨?_, ?_, ?_⟩, fun o6 Q X hX => ?_⟩
          · rw [updL_at, if_neg (by decide), updL_at, if_neg (by decide)]
          · rw [updL_at, if_neg (by decide), updL_at, if_pos rfl, ovN, cg1, if_pos cz, Nat.mul_one]
          · rw [updL_at, if_pos rfl, ovN, cg2]
          · simp (implicitDefEqProofs := false) only [rX9_chances_214, rX9_chances_215, rX9_chances_216, rX9_chances_217, rX9_chances_220, rX9_chances_223, rX9_chances_223b, rX9_chances_224, rX9_chances_227, rX9_chances_227b, rX9_chances_228, rX9_chances_229, rX9_chances_232, kA_44, kB_44, cmp, show ¬ (1 : Int32) = 0 from by decide, cb, bb, pCX9_chances, pSX9_chances, pOX9_chances, pLX9_chances, pCX9_burnsAll, pSX9_burnsAll, pOX9_burnsAll, pLX9_burnsAll, pCX9_burntBy, pSX9_burntBy, pOX9_burntBy, pLX9_burntBy, kl_I, kl_J, kl_R, kl_T, kl_N, Nat.le_refl, Nat.zero_le, List.map_nil, List.map_cons, List.sum_nil, List.sum_cons, c_I, c_J, c_R, c_T, va_rf, hI_wI, hJ_wJ, hR_wR, hI_J, hI_R, hJ_I, hJ_R, hR_I, hR_J, hN_I, hN_J, hN_R, wI_I, wJ_J, upd_at, updL_at, kR_s, Option.toList, List.append_nil, List.nil_append, List.cons_append, if_true, if_false, reduceIte, Bool.false_eq_true, not_true_eq_false, not_false_eq_true, true_and, and_true, false_and, and_false, true_or, or_true,  Nat.reduceEqDiff, Nat.reduceAdd, Nat.reduceLeDiff]
            have i2' := i2
            rw [cz] at i2'
            simp (implicitDefEqProofs := false) only [rX9_chances_234, rX9_chances_234b, rX9_chances_235, rX9_chances_235b, rX9_chances_236, rX9_chances_239, rX9_chances_241, rX9_chances_244, rX9_chances_245, rX9_chances_248, rX9_chances_249, rX9_chances_250, rX9_chances_253, rX9_chances_253b, rX9_chances_254, rX9_chances_254b, rX9_chances_255, rX9_chances_258, rX9_chances_259, rX9_chances_261, rX9_chances_264, rX9_chances_265, rX9_chances_266, rX9_chances_267, rX9_chances_270, rX9_chances_271, kA_44, kB_44, q31, q32, qz, cz, lN_add, pCX9_chances, pSX9_chances, pOX9_chances, pLX9_chances, pCX9_bits, pSX9_bits, pOX9_bits, pLX9_bits, i2', show nI 0 = 0 from rfl, show ∀ h, ∀ Q, WM (d + 2) mX9_bits [.int 0] h Q = Q (some (some (.int (nI (popc 6 (biN a x.1 c n)))))) h from fun h => by have := bc h; rw [cz] at this ⊢; exact this, i2, lN_mul, kl_I, kl_J, kl_R, kl_T, kl_N, Nat.le_refl, Nat.zero_le, List.map_nil, List.map_cons, List.sum_nil, List.sum_cons, c_I, c_J, c_R, c_T, va_rf, hI_wI, hJ_wJ, hR_wR, hI_J, hI_R, hJ_I, hJ_R, hR_I, hR_J, hN_I, hN_J, hN_R, wI_I, wJ_J, upd_at, updL_at, kR_s, Option.toList, List.append_nil, List.nil_append, List.cons_append, if_true, if_false, reduceIte, Bool.false_eq_true, not_true_eq_false, not_false_eq_true, true_and, and_true, false_and, and_false, true_or, or_true,  Nat.reduceEqDiff, Nat.reduceAdd, Nat.reduceLeDiff]
            rw [cz] at hX
            exact hX
        · refine ⟨vp_updL (vp_updL (hJ h2 44) 31 (lN (ovN a x.1 n 1 0 c))) 32 (lN (ovN a x.1 n 2 0 c + wtN a x.1 c * popc 6 (biN a x.1 c n))), ⟨?_, ?_, ?_⟩, fun o6 Q X hX => ?_⟩
          · rw [updL_at, if_neg (by decide), updL_at, if_neg (by decide)]
          · rw [updL_at, if_neg (by decide), updL_at, if_pos rfl, ovN, cg1, if_neg cz, Nat.mul_zero, Nat.add_zero]
          · rw [updL_at, if_pos rfl, ovN, cg2]
          · simp (implicitDefEqProofs := false) only [rX9_chances_214, rX9_chances_215, rX9_chances_216, rX9_chances_217, rX9_chances_220, rX9_chances_223, rX9_chances_223b, rX9_chances_224, rX9_chances_227, rX9_chances_227b, rX9_chances_228, rX9_chances_229, rX9_chances_232, kA_44, kB_44, cmp, show ¬ (1 : Int32) = 0 from by decide, cb, bb, pCX9_chances, pSX9_chances, pOX9_chances, pLX9_chances, pCX9_burnsAll, pSX9_burnsAll, pOX9_burnsAll, pLX9_burnsAll, pCX9_burntBy, pSX9_burntBy, pOX9_burntBy, pLX9_burntBy, kl_I, kl_J, kl_R, kl_T, kl_N, Nat.le_refl, Nat.zero_le, List.map_nil, List.map_cons, List.sum_nil, List.sum_cons, c_I, c_J, c_R, c_T, va_rf, hI_wI, hJ_wJ, hR_wR, hI_J, hI_R, hJ_I, hJ_R, hR_I, hR_J, hN_I, hN_J, hN_R, wI_I, wJ_J, upd_at, updL_at, kR_s, Option.toList, List.append_nil, List.nil_append, List.cons_append, if_true, if_false, reduceIte, Bool.false_eq_true, not_true_eq_false, not_false_eq_true, true_and, and_true, false_and, and_false, true_or, or_true,  Nat.reduceEqDiff, Nat.reduceAdd, Nat.reduceLeDiff]
            simp (implicitDefEqProofs := false) only [rX9_chances_234, rX9_chances_234b, rX9_chances_235, rX9_chances_235b, rX9_chances_236, rX9_chances_239, rX9_chances_241, rX9_chances_244, rX9_chances_245, rX9_chances_248, rX9_chances_249, rX9_chances_250, rX9_chances_253, rX9_chances_253b, rX9_chances_254, rX9_chances_254b, rX9_chances_255, rX9_chances_258, rX9_chances_259, rX9_chances_261, rX9_chances_264, rX9_chances_265, rX9_chances_266, rX9_chances_267, rX9_chances_270, rX9_chances_271, kA_44, kB_44, q31, q32, qz, cz, show (0 : Int64) = lN 0 from rfl, lN_add, Nat.add_zero, bc, i2, lN_mul, pCX9_chances, pSX9_chances, pOX9_chances, pLX9_chances, pCX9_bits, pSX9_bits, pOX9_bits, pLX9_bits, kl_I, kl_J, kl_R, kl_T, kl_N, Nat.le_refl, Nat.zero_le, List.map_nil, List.map_cons, List.sum_nil, List.sum_cons, c_I, c_J, c_R, c_T, va_rf, hI_wI, hJ_wJ, hR_wR, hI_J, hI_R, hJ_I, hJ_R, hR_I, hR_J, hN_I, hN_J, hN_R, wI_I, wJ_J, upd_at, updL_at, kR_s, Option.toList, List.append_nil, List.nil_append, List.cons_append, if_true, if_false, reduceIte, Bool.false_eq_true, not_true_eq_false, not_false_eq_true, true_and, and_true, false_and, and_false, true_or, or_true,  Nat.reduceEqDiff, Nat.reduceAdd, Nat.reduceLeDiff]
            exact hX
      obtain ⟨A, ⟨A0, A1, A2⟩, e4⟩ := hst
      have kA : kp h2 (wJ h2 44 A) := ⟨rfl, rfl, fun b hb => ⟨rfl, by rw [hJ_wJ, if_neg (fun q => hb (by rw [q]; simp))]⟩, fun j _ => rfl⟩
      have k3 : mK (wJ h2 44 A) s a := mK_kq k2 (kq_kp kA)
      obtain ⟨G2, hg2, e5⟩ := l_ch4 (d := d + 2) (h := wJ h2 44 A) (B := biN a x.1 c n) (p := wtN a x.1 c) (y := nI n) (z2 := nI c) k3 b64 (fun j => ovN a x.1 n 0 j c) (aN a) 0 (by omega) (hJ (wJ h2 44 A) 54) (fun j hj => by
        rw [if_neg (by omega), Nat.add_zero, hJ_wJ, if_neg (by decide)]
        exact o2.2.2.2 j hj)
      rw [wJ_same] at e5
      have kB : kp (wJ h2 44 A) (wJ (wJ h2 44 A) 54 G2) := ⟨rfl, rfl, fun b hb => ⟨rfl, by rw [hJ_wJ, if_neg (fun q => hb (by rw [q]; simp))]⟩, fun j _ => rfl⟩
      have k4 := mK_kq k3 (kq_kp kB)
      have v4 : vF (hI (wJ (wJ h2 44 A) 54 G2) 46) a x := by
        show vF (hI h2 46) a x
        rw [x2.2.2.2 46 (by decide)]
        exact v1
      have o4' : OI (wJ (wJ h2 44 A) 54 G2) a x.1 n (c + 1) := by
        refine ⟨?_, ?_, ?_, fun j hj => ?_⟩
        · rw [hJ_wJ, if_neg (by decide), hJ_wJ, if_pos rfl, A0]; exact o2.1
        · rw [hJ_wJ, if_neg (by decide), hJ_wJ, if_pos rfl, A1]
        · rw [hJ_wJ, if_neg (by decide), hJ_wJ, if_pos rfl, A2]
        · rw [hJ_wJ, if_pos rfl, hg2 j hj, ovN, cg0]
          congr 2
          by_cases q : (biN a x.1 c n).testBit j = true
          · rw [if_pos q, if_pos q, Nat.mul_one]
          · rw [if_neg q, if_neg q, Nat.mul_zero]
      obtain ⟨h9, e9, k9, o9⟩ := ih (c + 1) (by omega) _ k4 v4 o4'
      refine ⟨h9, fun o3 o4 o5 o6 Q => ?_, kp_tr (kp_sx x1 (by decide)) (kp_tr (kp_sx x2 (by decide)) (kp_tr kA (kp_tr kB k9))), o9⟩
      refine st o3 o4 o5 o6 Q _ (e4 o6 Q _ ?_)
      rw [e5 Q, rX9_chances_316, nI_1]
      simp (implicitDefEqProofs := false) only [rX9_chances_319, kl_I, kl_J, kl_R, kl_T, kl_N, Nat.le_refl, Nat.zero_le, List.map_nil, List.map_cons, List.sum_nil, List.sum_cons, c_I, c_J, c_R, c_T, va_rf, hI_wI, hJ_wJ, hR_wR, hI_J, hI_R, hJ_I, hJ_R, hR_I, hR_J, hN_I, hN_J, hN_R, wI_I, wJ_J, upd_at, updL_at, kR_s, Option.toList, List.append_nil, List.nil_append, List.cons_append, if_true, if_false, reduceIte, Bool.false_eq_true, not_true_eq_false, not_false_eq_true, true_and, and_true, false_and, and_false, true_or, or_true,  Nat.reduceEqDiff, Nat.reduceAdd, Nat.reduceLeDiff]
      exact e9 _ _ _ _ Q
theorem c_chances {d : Nat} {h : qH} {s n : Nat} {a : aS} {x : sT} (k : mK h s a) (v : vF (hI h 46) a x) (hn : n ≤ 90) : ∃ h', (∀ Q, WM (d + 3) mX9_chances [.ref (44 : Nat), .int (nI n)] h Q = Q (some none) h') ∧ kp h h' ∧ OI h' a x.1 n (2 ^ aN a) := by
  have h6 := k.2.2.1.2.2.1.1
  let A : Nat → Int64 := vp_updL (vp_updL (vp_updL (hJ h 44) 30 1) 31 0) 32 0
  have kA : kp h (wJ h 44 A) := ⟨rfl, rfl, fun b hb => ⟨rfl, by rw [hJ_wJ, if_neg (fun q => hb (by rw [q]; simp))]⟩, fun j _ => rfl⟩
  have k1 : mK (wJ h 44 A) s a := mK_kq k (kq_kp kA)
  obtain ⟨G, hG, e1⟩ := l_ch1 (d := d + 3) (h := wJ h 44 A) (y := nI n) k1.1 6 0 (by omega) (hJ (wJ h 44 A) 54) (fun j hj => by omega)
  rw [wJ_same] at e1
  have kB : kp (wJ h 44 A) (wJ (wJ h 44 A) 54 G) := ⟨rfl, rfl, fun b hb => ⟨rfl, by rw [hJ_wJ, if_neg (fun q => hb (by rw [q]; simp))]⟩, fun j _ => rfl⟩
  have k2 := mK_kq k1 (kq_kp kB)
  have l2 := fun Q => l_ch2 (d := d + 3) (h := wJ (wJ h 44 A) 54 G) (x := x) (y := nI n) k2 v (aN a) 0 (by omega) Q
  have j44 : hJ (wJ (wJ h 44 A) 54 G) 44 = A := by rw [hJ_wJ, if_neg (by decide), hJ_wJ, if_pos rfl]
  rw [j44] at l2
  have w1 : vp_updL A 30 (lN (whN a x.1 0)) = A := by
    funext j
    rw [updL_at]
    split
    · rename_i q; rw [q]; rfl
    · rfl
  rw [w1] at l2
  have ws : wJ (wJ (wJ h 44 A) 54 G) 44 A = wJ (wJ h 44 A) 54 G := by
    have := wJ_same (h := wJ (wJ h 44 A) 54 G) (a := 44)
    rw [j44] at this
    exact this
  rw [ws] at l2
  have kC : kp (wJ (wJ h 44 A) 54 G) (wJ (wJ (wJ h 44 A) 54 G) 44 (vp_updL A 30 (lN (whN a x.1 (aN a))))) := ⟨rfl, rfl, fun b hb => ⟨rfl, by rw [hJ_wJ, if_neg (fun q => hb (by rw [q]; simp))]⟩, fun j _ => rfl⟩
  have k3 := mK_kq k2 (kq_kp kC)
  obtain ⟨h', e3, k9, o9⟩ := l_chm (d := d) (n := n) (x := x) hn (2 ^ aN a) 0 (by omega) _ k3 v (by
    refine ⟨?_, ?_, ?_, fun j hj => ?_⟩
    · rw [hJ_wJ, if_pos rfl, updL_at, if_pos rfl]
    · rw [hJ_wJ, if_pos rfl, updL_at, if_neg (by decide)]; rfl
    · rw [hJ_wJ, if_pos rfl, updL_at, if_neg (by decide)]; rfl
    · rw [hJ_wJ, if_neg (by decide), hJ_wJ, if_pos rfl, hG j (by omega)]; rfl)
  refine ⟨h', fun Q => ?_, kp_tr kA (kp_tr kB (kp_tr kC k9)), o9⟩
  have e1 := e1 Q
  have l2 := l2 Q
  have e3 := e3 none none none none Q
  simp (implicitDefEqProofs := false) only [eX9_chances, rX9_chances_0, rX9_chances_0b, rX9_chances_1, rX9_chances_2, rX9_chances_5, rX9_chances_5b, rX9_chances_6, rX9_chances_7, rX9_chances_10, rX9_chances_10b, rX9_chances_11, rX9_chances_12, rX9_chances_15, rX9_chances_16, kA_44, kB_44, pCX9_chances, pSX9_chances, pOX9_chances, pLX9_chances, kl_I, kl_J, kl_R, kl_T, kl_N, Nat.le_refl, Nat.zero_le, List.map_nil, List.map_cons, List.sum_nil, List.sum_cons, c_I, c_J, c_R, c_T, va_rf, hI_wI, hJ_wJ, hR_wR, hI_J, hI_R, hJ_I, hJ_R, hR_I, hR_J, hN_I, hN_J, hN_R, wI_I, wJ_J, upd_at, updL_at, kR_s, Option.toList, List.append_nil, List.nil_append, List.cons_append, if_true, if_false, reduceIte, Bool.false_eq_true, not_true_eq_false, not_false_eq_true, true_and, and_true, false_and, and_false, true_or, or_true,  Nat.reduceEqDiff, Nat.reduceAdd, Nat.reduceLeDiff]
  change WP (d + 3) mX9_chances (0, 0) 17 [some (.ref (44 : Nat)), some (.int (nI n)), some (.int (nI 0)), none, none, none, none] [] (wJ h 44 A) Q = _
  rw [e1]
  simp (implicitDefEqProofs := false) only [rX9_chances_36, rX9_chances_37, kl_I, kl_J, kl_R, kl_T, kl_N, Nat.le_refl, Nat.zero_le, List.map_nil, List.map_cons, List.sum_nil, List.sum_cons, c_I, c_J, c_R, c_T, va_rf, hI_wI, hJ_wJ, hR_wR, hI_J, hI_R, hJ_I, hJ_R, hR_I, hR_J, hN_I, hN_J, hN_R, wI_I, wJ_J, upd_at, updL_at, kR_s, Option.toList, List.append_nil, List.nil_append, List.cons_append, if_true, if_false, reduceIte, Bool.false_eq_true, not_true_eq_false, not_false_eq_true, true_and, and_true, false_and, and_false, true_or, or_true,  Nat.reduceEqDiff, Nat.reduceAdd, Nat.reduceLeDiff]
  change WP (d + 3) mX9_chances (0, 0) 38 [some (.ref (44 : Nat)), some (.int (nI n)), some (.int (nI 0)), none, none, none, none] [] (wJ (wJ h 44 A) 54 G) Q = _
  rw [l2]
  simp (implicitDefEqProofs := false) only [rX9_chances_82, rX9_chances_83, kl_I, kl_J, kl_R, kl_T, kl_N, Nat.le_refl, Nat.zero_le, List.map_nil, List.map_cons, List.sum_nil, List.sum_cons, c_I, c_J, c_R, c_T, va_rf, hI_wI, hJ_wJ, hR_wR, hI_J, hI_R, hJ_I, hJ_R, hR_I, hR_J, hN_I, hN_J, hN_R, wI_I, wJ_J, upd_at, updL_at, kR_s, Option.toList, List.append_nil, List.nil_append, List.cons_append, if_true, if_false, reduceIte, Bool.false_eq_true, not_true_eq_false, not_false_eq_true, true_and, and_true, false_and, and_false, true_or, or_true,  Nat.reduceEqDiff, Nat.reduceAdd, Nat.reduceLeDiff]
  exact e3
theorem ov_b {a : aS} (w : aW a) {t y so x : Nat} : ovN a t y so x (2 ^ aN a) < 2 ^ 63 := by
  have h1 := ovN_le w (t := t) (y := y) (so := so) (x := x) (2 ^ aN a)
  have := p6 w.1
  omega
theorem wh_b {a : aS} (w : aW a) {t : Nat} : whN a t (aN a) < 2 ^ 63 := by
  have h1 := (whN_b (a := a) (t := t) (aN a)).2
  have : 100 ^ aN a ≤ 100 ^ 6 := Nat.pow_le_pow_right (by omega) w.1
  omega
theorem m_odds {d : Nat} {h : qH} {S : AS} {y z : Int32} {lo : Bool} (I : MI h S) : ms 0 (d + 10) mX9_odds [.ref (44 : Nat), .int y, .int z, .int (bI lo)] h (trS S (sOdds S y z lo).1) (some (.long (sOdds S y z lo).2)) := by
  have E : ∀ Q, WM (d + 10) mX9_odds [.ref (44 : Nat), .int y, .int z, .int (bI lo)] h Q = WP (d + 10) mX9_odds (0, 0) 5 [some (.ref (44 : Nat)), some (.int y), some (.int z), some (.int (bI lo)), none] [] (th h) Q := fun Q => by simp (implicitDefEqProofs := false) only [eX9_odds, rX9_odds_0, rX9_odds_0b, rX9_odds_1, rX9_odds_2, kA_44, kB_44, pCX9_odds, pSX9_odds, pOX9_odds, pLX9_odds, th, kl_I, kl_J, kl_R, kl_T, kl_N, Nat.le_refl, Nat.zero_le, List.map_nil, List.map_cons, List.sum_nil, List.sum_cons, c_I, c_J, c_R, c_T, va_rf, hI_wI, hJ_wJ, hR_wR, hI_J, hI_R, hJ_I, hJ_R, hR_I, hR_J, hN_I, hN_J, hN_R, wI_I, wJ_J, upd_at, updL_at, kR_s, Option.toList, List.append_nil, List.nil_append, List.cons_append, if_true, if_false, reduceIte, Bool.false_eq_true, not_true_eq_false, not_false_eq_true, true_and, and_true, false_and, and_false, true_or, or_true,  Nat.reduceEqDiff, Nat.reduceAdd, Nat.reduceLeDiff]
  rw [sOdds]
  by_cases c1 : aN (sA S) = 0
  · rw [c1, ix0]
    refine ms_of (v := 1) I (by decide) E ?_
    obtain ⟨F, r⟩ := MI_n (MI_th I) c1
    generalize th h = g at F r ⊢
    have rd := c_refusesDay (d := d + 8) (h := g) (b := false) (v := z) (lo := 0)
    rw [bI_f] at rd
    exact ⟨g, fun Q => by simp (implicitDefEqProofs := false) only [rX9_odds_5, rX9_odds_5b, rX9_odds_6, rX9_odds_6b, rX9_odds_7, rX9_odds_8, rX9_odds_11, rX9_odds_12, rX9_odds_13, rX9_odds_16, rX9_odds_18, rX9_odds_20, rX9_odds_23, rX9_odds_23b, rX9_odds_24, rX9_odds_26, rX9_odds_29, rX9_odds_30, kA_44, kB_44, c_isHouse0 r, rd, c_mrefused, show nI 1 = 1 from rfl, show ¬ (1 : Int32) ≤ 0 from by decide, show (-1 : Int32).toInt64 = -1 from by decide, pCX9_odds, pSX9_odds, pOX9_odds, pLX9_odds, pCX9_isHouse, pSX9_isHouse, pOX9_isHouse, pLX9_isHouse, pCX9_refusesDay, pSX9_refusesDay, pOX9_refusesDay, pLX9_refusesDay, pCX9_refused, pSX9_refused, pOX9_refused, pLX9_refused, kl_I, kl_J, kl_R, kl_T, kl_N, Nat.le_refl, Nat.zero_le, List.map_nil, List.map_cons, List.sum_nil, List.sum_cons, c_I, c_J, c_R, c_T, va_rf, hI_wI, hJ_wJ, hR_wR, hI_J, hI_R, hJ_I, hJ_R, hR_I, hR_J, hN_I, hN_J, hN_R, wI_I, wJ_J, upd_at, updL_at, kR_s, Option.toList, List.append_nil, List.nil_append, List.cons_append, if_true, if_false, reduceIte, Bool.false_eq_true, not_true_eq_false, not_false_eq_true, true_and, and_true, false_and, and_false, true_or, or_true,  Nat.reduceEqDiff, Nat.reduceAdd, Nat.reduceLeDiff], kp_refl⟩
  · have I1 := MI_th I
    obtain ⟨s, k, v, t1, t2, t3, t4, t5, ww⟩ := MI_y I1 c1
    have h6 := ww.1
    have ih := c_isHouse (d := d + 9) (y := y) k.2.1 k.2.2.1
    cases hx : ix y (aN (sA S)) with
    | none =>
      rw [hx] at ih
      refine ms_of (v := 1) I (by decide) E ?_
      generalize th h = g at k ih ⊢
      have rd := c_refusesDay (d := d + 8) (h := g) (b := false) (v := z) (lo := 0)
      rw [bI_f] at rd
      exact ⟨g, fun Q => by simp (implicitDefEqProofs := false) only [rX9_odds_5, rX9_odds_5b, rX9_odds_6, rX9_odds_6b, rX9_odds_7, rX9_odds_8, rX9_odds_11, rX9_odds_12, rX9_odds_13, rX9_odds_16, rX9_odds_18, rX9_odds_20, rX9_odds_23, rX9_odds_23b, rX9_odds_24, rX9_odds_26, rX9_odds_29, rX9_odds_30, kA_44, kB_44, ih, decide_false, bI_f, rd, c_mrefused, show nI 1 = 1 from rfl, show ¬ (1 : Int32) ≤ 0 from by decide, show (-1 : Int32).toInt64 = -1 from by decide, pCX9_odds, pSX9_odds, pOX9_odds, pLX9_odds, pCX9_isHouse, pSX9_isHouse, pOX9_isHouse, pLX9_isHouse, pCX9_refusesDay, pSX9_refusesDay, pOX9_refusesDay, pLX9_refusesDay, pCX9_refused, pSX9_refused, pOX9_refused, pLX9_refused, kl_I, kl_J, kl_R, kl_T, kl_N, Nat.le_refl, Nat.zero_le, List.map_nil, List.map_cons, List.sum_nil, List.sum_cons, c_I, c_J, c_R, c_T, va_rf, hI_wI, hJ_wJ, hR_wR, hI_J, hI_R, hJ_I, hJ_R, hR_I, hR_J, hN_I, hN_J, hN_R, wI_I, wJ_J, upd_at, updL_at, kR_s, Option.toList, List.append_nil, List.nil_append, List.cons_append, if_true, if_false, reduceIte, Bool.false_eq_true, not_true_eq_false, not_false_eq_true, true_and, and_true, false_and, and_false, true_or, or_true,  Nat.reduceEqDiff, Nat.reduceAdd, Nat.reduceLeDiff], kp_refl⟩
    | some i =>
      rw [hx] at ih
      obtain ⟨rfl, hi⟩ := ix_s (by omega) hx
      simp only
      have rd := c_refusesDay (d := d + 8) (h := th h) (b := true) (v := z) (lo := 0)
      rw [bI_t] at rd
      by_cases c2 : z < 0 ∨ 90 < z
      · rw [if_pos c2]
        refine ms_of (v := 2) I (by decide) E ?_
        generalize th h = g at k ih rd ⊢
        exact ⟨g, fun Q => by simp (implicitDefEqProofs := false) only [rX9_odds_5, rX9_odds_5b, rX9_odds_6, rX9_odds_6b, rX9_odds_7, rX9_odds_8, rX9_odds_11, rX9_odds_12, rX9_odds_13, rX9_odds_16, rX9_odds_18, rX9_odds_20, rX9_odds_23, rX9_odds_23b, rX9_odds_24, rX9_odds_26, rX9_odds_29, rX9_odds_30, kA_44, kB_44, ih, reduceCtorEq, decide_true, bI_t, rd, c2, c_mrefused, show nI 2 = 2 from rfl, show ¬ (2 : Int32) ≤ 0 from by decide, Bool.true_eq_false, show (-1 : Int32).toInt64 = -1 from by decide, pCX9_odds, pSX9_odds, pOX9_odds, pLX9_odds, pCX9_isHouse, pSX9_isHouse, pOX9_isHouse, pLX9_isHouse, pCX9_refusesDay, pSX9_refusesDay, pOX9_refusesDay, pLX9_refusesDay, pCX9_refused, pSX9_refused, pOX9_refused, pLX9_refused, kl_I, kl_J, kl_R, kl_T, kl_N, Nat.le_refl, Nat.zero_le, List.map_nil, List.map_cons, List.sum_nil, List.sum_cons, c_I, c_J, c_R, c_T, va_rf, hI_wI, hJ_wJ, hR_wR, hI_J, hI_R, hJ_I, hJ_R, hR_I, hR_J, hN_I, hN_J, hN_R, wI_I, wJ_J, upd_at, updL_at, kR_s, Option.toList, List.append_nil, List.nil_append, List.cons_append, if_true, if_false, reduceIte, Bool.false_eq_true, not_true_eq_false, not_false_eq_true, true_and, and_true, false_and, and_false, true_or, or_true,  Nat.reduceEqDiff, Nat.reduceAdd, Nat.reduceLeDiff], kp_refl⟩
      · rw [if_neg c2]
        refine ms_of (v := 0) I (by decide) E ?_
        generalize th h = g at k v ih rd ⊢
        obtain ⟨t, ht, rfl⟩ := dy c2
        rw [nI_cl (by omega)]
        obtain ⟨h1, e1, k1, o1⟩ := c_chances (d := d + 6) k v ht
        have F1 := (mK_kq k (kq_kp k1)).1
        have fr := c_fraction (d := d + 8) (h := h1) (lo := lo) (ov_b ww (t := (sX S).1) (y := t) (so := 0) (x := i)) (wh_b ww (t := (sX S).1)) (whN_b _).1
        have v6 : vp_in (nI i) 6 := nI_vp (by omega) (by decide)
        have cl : (nI i).toNatClampNeg = i := nI_cl (by omega)
        unfold chN
        rw [ov_64 ww]
        exact ⟨h1, fun Q => by simp (implicitDefEqProofs := false) only [rX9_odds_5, rX9_odds_5b, rX9_odds_6, rX9_odds_6b, rX9_odds_7, rX9_odds_8, rX9_odds_11, rX9_odds_12, rX9_odds_13, rX9_odds_16, rX9_odds_18, rX9_odds_20, rX9_odds_31, rX9_odds_31b, rX9_odds_32, rX9_odds_33, rX9_odds_36, rX9_odds_36b, rX9_odds_37, rX9_odds_37b, rX9_odds_38, rX9_odds_41, rX9_odds_42, rX9_odds_43, rX9_odds_43b, rX9_odds_44, rX9_odds_47, rX9_odds_48, rX9_odds_51, kA_44, kB_44, kA_54, kB_54, fin_44_5 F1, fin_44_15 F1, fin_44_16 F1, fin_44_17 F1, fin_44_18 F1, fin_44_21 F1, fin_44_23 F1, fin_44_24 F1, fin_44_25 F1, fin_44_29 F1, fin_44_33 F1, ih, reduceCtorEq, decide_true, bI_t, rd, c2, Bool.true_eq_false, show (0 : Int32) ≤ 0 from by decide, e1, v6, cl, o1.2.2.2 i hi, o1.1, fr, nI_0, pCX9_odds, pSX9_odds, pOX9_odds, pLX9_odds, pCX9_isHouse, pSX9_isHouse, pOX9_isHouse, pLX9_isHouse, pCX9_refusesDay, pSX9_refusesDay, pOX9_refusesDay, pLX9_refusesDay, pCX9_chances, pSX9_chances, pOX9_chances, pLX9_chances, pCX9_fraction, pSX9_fraction, pOX9_fraction, pLX9_fraction, kl_I, kl_J, kl_R, kl_T, kl_N, Nat.le_refl, Nat.zero_le, List.map_nil, List.map_cons, List.sum_nil, List.sum_cons, c_I, c_J, c_R, c_T, va_rf, hI_wI, hJ_wJ, hR_wR, hI_J, hI_R, hJ_I, hJ_R, hR_I, hR_J, hN_I, hN_J, hN_R, wI_I, wJ_J, upd_at, updL_at, kR_s, Option.toList, List.append_nil, List.nil_append, List.cons_append, if_true, if_false, reduceIte, Bool.false_eq_true, not_true_eq_false, not_false_eq_true, true_and, and_true, false_and, and_false, true_or, or_true,  Nat.reduceEqDiff, Nat.reduceAdd, Nat.reduceLeDiff], k1⟩
theorem m_quiet {d : Nat} {h : qH} {S : AS} {y : Int32} {lo : Bool} (I : MI h S) : ms 0 (d + 10) mX9_quiet [.ref (44 : Nat), .int y, .int (bI lo)] h (trS S (sQuiet S y lo).1) (some (.long (sQuiet S y lo).2)) := by
  rw [sQuiet]
  have E : ∀ Q, WM (d + 10) mX9_quiet [.ref (44 : Nat), .int y, .int (bI lo)] h Q = WP (d + 10) mX9_quiet (0, 0) 5 [some (.ref (44 : Nat)), some (.int y), some (.int (bI lo)), none] [] (th h) Q := fun Q => by simp (implicitDefEqProofs := false) only [eX9_quiet, rX9_quiet_0, rX9_quiet_0b, rX9_quiet_1, rX9_quiet_2, kA_44, kB_44, pCX9_quiet, pSX9_quiet, pOX9_quiet, pLX9_quiet, th, kl_I, kl_J, kl_R, kl_T, kl_N, Nat.le_refl, Nat.zero_le, List.map_nil, List.map_cons, List.sum_nil, List.sum_cons, c_I, c_J, c_R, c_T, va_rf, hI_wI, hJ_wJ, hR_wR, hI_J, hI_R, hJ_I, hJ_R, hR_I, hR_J, hN_I, hN_J, hN_R, wI_I, wJ_J, upd_at, updL_at, kR_s, Option.toList, List.append_nil, List.nil_append, List.cons_append, if_true, if_false, reduceIte, Bool.false_eq_true, not_true_eq_false, not_false_eq_true, true_and, and_true, false_and, and_false, true_or, or_true,  Nat.reduceEqDiff, Nat.reduceAdd, Nat.reduceLeDiff]
  by_cases c1 : aN (sA S) = 0
  · rw [if_pos c1]
    refine ms_of (v := 1) I (by decide) E ?_
    obtain ⟨F, r⟩ := MI_n (MI_th I) c1
    generalize th h = g at F r ⊢
    have rd := c_refusesDay (d := d + 8) (h := g) (b := false) (v := y) (lo := 0)
    rw [bI_f] at rd
    exact ⟨g, fun Q => by simp (implicitDefEqProofs := false) only [rX9_quiet_5, rX9_quiet_5b, rX9_quiet_6, rX9_quiet_6b, rX9_quiet_7, rX9_quiet_10, rX9_quiet_10b, rX9_quiet_13, rX9_quiet_14, rX9_quiet_17, rX9_quiet_18, rX9_quiet_19, rX9_quiet_20, rX9_quiet_23, rX9_quiet_24, rX9_quiet_25, rX9_quiet_28, rX9_quiet_28b, rX9_quiet_29, rX9_quiet_30, rX9_quiet_33, rX9_quiet_34, kA_44, kB_44, r, rd, c_mrefused, show nI 1 = 1 from rfl, show ¬ (1 : Int32) ≤ 0 from by decide, show (-1 : Int32).toInt64 = -1 from by decide, pCX9_quiet, pSX9_quiet, pOX9_quiet, pLX9_quiet, pCX9_refusesDay, pSX9_refusesDay, pOX9_refusesDay, pLX9_refusesDay, pCX9_refused, pSX9_refused, pOX9_refused, pLX9_refused, kl_I, kl_J, kl_R, kl_T, kl_N, Nat.le_refl, Nat.zero_le, List.map_nil, List.map_cons, List.sum_nil, List.sum_cons, c_I, c_J, c_R, c_T, va_rf, hI_wI, hJ_wJ, hR_wR, hI_J, hI_R, hJ_I, hJ_R, hR_I, hR_J, hN_I, hN_J, hN_R, wI_I, wJ_J, upd_at, updL_at, kR_s, Option.toList, List.append_nil, List.nil_append, List.cons_append, if_true, if_false, reduceIte, Bool.false_eq_true, not_true_eq_false, not_false_eq_true, true_and, and_true, false_and, and_false, true_or, or_true,  Nat.reduceEqDiff, Nat.reduceAdd, Nat.reduceLeDiff], kp_refl⟩
  · rw [if_neg c1]
    have I1 := MI_th I
    obtain ⟨s, k, v, t1, t2, t3, t4, t5, ww⟩ := MI_y I1 c1
    have rd := c_refusesDay (d := d + 8) (h := th h) (b := true) (v := y) (lo := 0)
    rw [bI_t] at rd
    by_cases c2 : y < 0 ∨ 90 < y
    · rw [if_pos c2]
      refine ms_of (v := 2) I (by decide) E ?_
      generalize th h = g at k v rd ⊢
      exact ⟨g, fun Q => by simp (implicitDefEqProofs := false) only [rX9_quiet_5, rX9_quiet_5b, rX9_quiet_6, rX9_quiet_6b, rX9_quiet_7, rX9_quiet_10, rX9_quiet_10b, rX9_quiet_13, rX9_quiet_14, rX9_quiet_17, rX9_quiet_18, rX9_quiet_19, rX9_quiet_20, rX9_quiet_23, rX9_quiet_24, rX9_quiet_25, rX9_quiet_28, rX9_quiet_28b, rX9_quiet_29, rX9_quiet_30, rX9_quiet_33, rX9_quiet_34, kA_44, kB_44, k.2.1, rd, c2, c_mrefused, show nI 2 = 2 from rfl, show ¬ (2 : Int32) ≤ 0 from by decide, Bool.true_eq_false, show (-1 : Int32).toInt64 = -1 from by decide, pCX9_quiet, pSX9_quiet, pOX9_quiet, pLX9_quiet, pCX9_refusesDay, pSX9_refusesDay, pOX9_refusesDay, pLX9_refusesDay, pCX9_refused, pSX9_refused, pOX9_refused, pLX9_refused, kl_I, kl_J, kl_R, kl_T, kl_N, Nat.le_refl, Nat.zero_le, List.map_nil, List.map_cons, List.sum_nil, List.sum_cons, c_I, c_J, c_R, c_T, va_rf, hI_wI, hJ_wJ, hR_wR, hI_J, hI_R, hJ_I, hJ_R, hR_I, hR_J, hN_I, hN_J, hN_R, wI_I, wJ_J, upd_at, updL_at, kR_s, Option.toList, List.append_nil, List.nil_append, List.cons_append, if_true, if_false, reduceIte, Bool.false_eq_true, not_true_eq_false, not_false_eq_true, true_and, and_true, false_and, and_false, true_or, or_true,  Nat.reduceEqDiff, Nat.reduceAdd, Nat.reduceLeDiff], kp_refl⟩
    · rw [if_neg c2]
      refine ms_of (v := 0) I (by decide) E ?_
      generalize th h = g at k v rd ⊢
      obtain ⟨t, ht, rfl⟩ := dy c2
      rw [nI_cl (by omega)]
      obtain ⟨h1, e1, k1, o1⟩ := c_chances (d := d + 6) k v ht
      have F1 := (mK_kq k (kq_kp k1)).1
      have fr := c_fraction (d := d + 8) (h := h1) (lo := lo) (ov_b ww (t := (sX S).1) (y := t) (so := 1) (x := 0)) (wh_b ww (t := (sX S).1)) (whN_b _).1
      unfold chN
      rw [ov_64 ww]
      exact ⟨h1, fun Q => by simp (implicitDefEqProofs := false) only [rX9_quiet_5, rX9_quiet_5b, rX9_quiet_6, rX9_quiet_6b, rX9_quiet_7, rX9_quiet_10, rX9_quiet_10b, rX9_quiet_13, rX9_quiet_14, rX9_quiet_17, rX9_quiet_18, rX9_quiet_19, rX9_quiet_20, rX9_quiet_23, rX9_quiet_24, rX9_quiet_25, rX9_quiet_35, rX9_quiet_35b, rX9_quiet_36, rX9_quiet_37, rX9_quiet_40, rX9_quiet_40b, rX9_quiet_41, rX9_quiet_41b, rX9_quiet_42, rX9_quiet_45, rX9_quiet_45b, rX9_quiet_46, rX9_quiet_49, rX9_quiet_50, rX9_quiet_53, kA_44, kB_44, k.2.1, rd, c2, Bool.true_eq_false, show (0 : Int32) ≤ 0 from by decide, e1, o1.2.1, o1.1, fr, nI_0, pCX9_quiet, pSX9_quiet, pOX9_quiet, pLX9_quiet, pCX9_refusesDay, pSX9_refusesDay, pOX9_refusesDay, pLX9_refusesDay, pCX9_chances, pSX9_chances, pOX9_chances, pLX9_chances, pCX9_fraction, pSX9_fraction, pOX9_fraction, pLX9_fraction, kl_I, kl_J, kl_R, kl_T, kl_N, Nat.le_refl, Nat.zero_le, List.map_nil, List.map_cons, List.sum_nil, List.sum_cons, c_I, c_J, c_R, c_T, va_rf, hI_wI, hJ_wJ, hR_wR, hI_J, hI_R, hJ_I, hJ_R, hR_I, hR_J, hN_I, hN_J, hN_R, wI_I, wJ_J, upd_at, updL_at, kR_s, Option.toList, List.append_nil, List.nil_append, List.cons_append, if_true, if_false, reduceIte, Bool.false_eq_true, not_true_eq_false, not_false_eq_true, true_and, and_true, false_and, and_false, true_or, or_true,  Nat.reduceEqDiff, Nat.reduceAdd, Nat.reduceLeDiff], k1⟩
theorem m_mean {d : Nat} {h : qH} {S : AS} {y : Int32} {lo : Bool} (I : MI h S) : ms 0 (d + 10) mX9_mean [.ref (44 : Nat), .int y, .int (bI lo)] h (trS S (sMean S y lo).1) (some (.long (sMean S y lo).2)) := by
  rw [sMean]
  have E : ∀ Q, WM (d + 10) mX9_mean [.ref (44 : Nat), .int y, .int (bI lo)] h Q = WP (d + 10) mX9_mean (0, 0) 5 [some (.ref (44 : Nat)), some (.int y), some (.int (bI lo)), none] [] (th h) Q := fun Q => by simp (implicitDefEqProofs := false) only [eX9_mean, rX9_mean_0, rX9_mean_0b, rX9_mean_1, rX9_mean_2, kA_44, kB_44, pCX9_mean, pSX9_mean, pOX9_mean, pLX9_mean, th, kl_I, kl_J, kl_R, kl_T, kl_N, Nat.le_refl, Nat.zero_le, List.map_nil, List.map_cons, List.sum_nil, List.sum_cons, c_I, c_J, c_R, c_T, va_rf, hI_wI, hJ_wJ, hR_wR, hI_J, hI_R, hJ_I, hJ_R, hR_I, hR_J, hN_I, hN_J, hN_R, wI_I, wJ_J, upd_at, updL_at, kR_s, Option.toList, List.append_nil, List.nil_append, List.cons_append, if_true, if_false, reduceIte, Bool.false_eq_true, not_true_eq_false, not_false_eq_true, true_and, and_true, false_and, and_false, true_or, or_true,  Nat.reduceEqDiff, Nat.reduceAdd, Nat.reduceLeDiff]
  by_cases c1 : aN (sA S) = 0
  · rw [if_pos c1]
    refine ms_of (v := 1) I (by decide) E ?_
    obtain ⟨F, r⟩ := MI_n (MI_th I) c1
    generalize th h = g at F r ⊢
    have rd := c_refusesDay (d := d + 8) (h := g) (b := false) (v := y) (lo := 0)
    rw [bI_f] at rd
    exact ⟨g, fun Q => by simp (implicitDefEqProofs := false) only [rX9_mean_5, rX9_mean_5b, rX9_mean_6, rX9_mean_6b, rX9_mean_7, rX9_mean_10, rX9_mean_10b, rX9_mean_13, rX9_mean_14, rX9_mean_17, rX9_mean_18, rX9_mean_19, rX9_mean_20, rX9_mean_23, rX9_mean_24, rX9_mean_25, rX9_mean_28, rX9_mean_28b, rX9_mean_29, rX9_mean_30, rX9_mean_33, rX9_mean_34, kA_44, kB_44, r, rd, c_mrefused, show nI 1 = 1 from rfl, show ¬ (1 : Int32) ≤ 0 from by decide, show (-1 : Int32).toInt64 = -1 from by decide, pCX9_mean, pSX9_mean, pOX9_mean, pLX9_mean, pCX9_refusesDay, pSX9_refusesDay, pOX9_refusesDay, pLX9_refusesDay, pCX9_refused, pSX9_refused, pOX9_refused, pLX9_refused, kl_I, kl_J, kl_R, kl_T, kl_N, Nat.le_refl, Nat.zero_le, List.map_nil, List.map_cons, List.sum_nil, List.sum_cons, c_I, c_J, c_R, c_T, va_rf, hI_wI, hJ_wJ, hR_wR, hI_J, hI_R, hJ_I, hJ_R, hR_I, hR_J, hN_I, hN_J, hN_R, wI_I, wJ_J, upd_at, updL_at, kR_s, Option.toList, List.append_nil, List.nil_append, List.cons_append, if_true, if_false, reduceIte, Bool.false_eq_true, not_true_eq_false, not_false_eq_true, true_and, and_true, false_and, and_false, true_or, or_true,  Nat.reduceEqDiff, Nat.reduceAdd, Nat.reduceLeDiff], kp_refl⟩
  · rw [if_neg c1]
    have I1 := MI_th I
    obtain ⟨s, k, v, t1, t2, t3, t4, t5, ww⟩ := MI_y I1 c1
    have rd := c_refusesDay (d := d + 8) (h := th h) (b := true) (v := y) (lo := 0)
    rw [bI_t] at rd
    by_cases c2 : y < 0 ∨ 90 < y
    · rw [if_pos c2]
      refine ms_of (v := 2) I (by decide) E ?_
      generalize th h = g at k v rd ⊢
      exact ⟨g, fun Q => by simp (implicitDefEqProofs := false) only [rX9_mean_5, rX9_mean_5b, rX9_mean_6, rX9_mean_6b, rX9_mean_7, rX9_mean_10, rX9_mean_10b, rX9_mean_13, rX9_mean_14, rX9_mean_17, rX9_mean_18, rX9_mean_19, rX9_mean_20, rX9_mean_23, rX9_mean_24, rX9_mean_25, rX9_mean_28, rX9_mean_28b, rX9_mean_29, rX9_mean_30, rX9_mean_33, rX9_mean_34, kA_44, kB_44, k.2.1, rd, c2, c_mrefused, show nI 2 = 2 from rfl, show ¬ (2 : Int32) ≤ 0 from by decide, Bool.true_eq_false, show (-1 : Int32).toInt64 = -1 from by decide, pCX9_mean, pSX9_mean, pOX9_mean, pLX9_mean, pCX9_refusesDay, pSX9_refusesDay, pOX9_refusesDay, pLX9_refusesDay, pCX9_refused, pSX9_refused, pOX9_refused, pLX9_refused, kl_I, kl_J, kl_R, kl_T, kl_N, Nat.le_refl, Nat.zero_le, List.map_nil, List.map_cons, List.sum_nil, List.sum_cons, c_I, c_J, c_R, c_T, va_rf, hI_wI, hJ_wJ, hR_wR, hI_J, hI_R, hJ_I, hJ_R, hR_I, hR_J, hN_I, hN_J, hN_R, wI_I, wJ_J, upd_at, updL_at, kR_s, Option.toList, List.append_nil, List.nil_append, List.cons_append, if_true, if_false, reduceIte, Bool.false_eq_true, not_true_eq_false, not_false_eq_true, true_and, and_true, false_and, and_false, true_or, or_true,  Nat.reduceEqDiff, Nat.reduceAdd, Nat.reduceLeDiff], kp_refl⟩
    · rw [if_neg c2]
      refine ms_of (v := 0) I (by decide) E ?_
      generalize th h = g at k v rd ⊢
      obtain ⟨t, ht, rfl⟩ := dy c2
      rw [nI_cl (by omega)]
      obtain ⟨h1, e1, k1, o1⟩ := c_chances (d := d + 6) k v ht
      have F1 := (mK_kq k (kq_kp k1)).1
      have fr := c_fraction (d := d + 8) (h := h1) (lo := lo) (ov_b ww (t := (sX S).1) (y := t) (so := 2) (x := 0)) (wh_b ww (t := (sX S).1)) (whN_b _).1
      unfold chN
      rw [ov_64 ww]
      exact ⟨h1, fun Q => by simp (implicitDefEqProofs := false) only [rX9_mean_5, rX9_mean_5b, rX9_mean_6, rX9_mean_6b, rX9_mean_7, rX9_mean_10, rX9_mean_10b, rX9_mean_13, rX9_mean_14, rX9_mean_17, rX9_mean_18, rX9_mean_19, rX9_mean_20, rX9_mean_23, rX9_mean_24, rX9_mean_25, rX9_mean_35, rX9_mean_35b, rX9_mean_36, rX9_mean_37, rX9_mean_40, rX9_mean_40b, rX9_mean_41, rX9_mean_41b, rX9_mean_42, rX9_mean_45, rX9_mean_45b, rX9_mean_46, rX9_mean_49, rX9_mean_50, rX9_mean_53, kA_44, kB_44, k.2.1, rd, c2, Bool.true_eq_false, show (0 : Int32) ≤ 0 from by decide, e1, o1.2.2.1, o1.1, fr, nI_0, pCX9_mean, pSX9_mean, pOX9_mean, pLX9_mean, pCX9_refusesDay, pSX9_refusesDay, pOX9_refusesDay, pLX9_refusesDay, pCX9_chances, pSX9_chances, pOX9_chances, pLX9_chances, pCX9_fraction, pSX9_fraction, pOX9_fraction, pLX9_fraction, kl_I, kl_J, kl_R, kl_T, kl_N, Nat.le_refl, Nat.zero_le, List.map_nil, List.map_cons, List.sum_nil, List.sum_cons, c_I, c_J, c_R, c_T, va_rf, hI_wI, hJ_wJ, hR_wR, hI_J, hI_R, hJ_I, hJ_R, hR_I, hR_J, hN_I, hN_J, hN_R, wI_I, wJ_J, upd_at, updL_at, kR_s, Option.toList, List.append_nil, List.nil_append, List.cons_append, if_true, if_false, reduceIte, Bool.false_eq_true, not_true_eq_false, not_false_eq_true, true_and, and_true, false_and, and_false, true_or, or_true,  Nat.reduceEqDiff, Nat.reduceAdd, Nat.reduceLeDiff], k1⟩
