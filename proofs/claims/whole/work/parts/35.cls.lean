/-! ===== the class between calls ===== -/
/-- the street, the story, what was ahead of acts, images, the tape, fault, trouble, place -/
abbrev AS : Type := aS × (sT × List sT × List sT) × (Nat × (Nat → Int32)) × (Nat × Nat × Nat)
def sA (S : AS) : aS := S.1
def sX (S : AS) : sT := S.2.1.1
def sP (S : AS) : List sT := S.2.1.2.1
def sM (S : AS) : List sT := S.2.1.2.2
def sTl (S : AS) : Nat := S.2.2.1.1
def sTb (S : AS) : Nat → Int32 := S.2.2.1.2
def sF (S : AS) : Nat := S.2.2.2.1
def sTr (S : AS) : Nat := S.2.2.2.2.1
def sPl (S : AS) : Nat := S.2.2.2.2.2
def trS (S : AS) (v : Nat) : AS := (S.1, S.2.1, S.2.2.1, S.2.2.2.1, v, S.2.2.2.2.2)
def tB (a : aS) (x : sT) : Prop := x.1 < 2 ^ aN a ∧ x.2.1 < 2 ^ aN a
def CI (h : qH) (S : AS) : Prop := ∃ s tu, Fin0 (hR h) ∧ (hR h 0 0 = some s ∧ hR h 0 1 = some (14 - s) ∧ hR h 32 0 = some s) ∧ cS h s (sA S) ∧ bT h (sA S) ∧ cC h (sA S) ∧ St h (sX S) tu (sP S) (sM S) ∧ wC h (sA S) ∧ gC h (sA S) ∧
  (tB (sA S) (sX S) ∧ (∀ p ∈ sP S, tB (sA S) p) ∧ ∀ p ∈ sM S, tB (sA S) p) ∧ (sTl S ≤ 900 ∧ hI h 25 1 = nI (sTl S) ∧ ∀ i, i < 900 → hI h 26 i = sTb S i) ∧ hI h 0 8 = nI (sF S) ∧ hI h 0 9 = nI (sTr S) ∧ (sTr S = 4 → hI h 27 10 = nI (sPl S))
/-- what a call of the class leaves as it is -/
def cf (h h' : qH) : Prop := hN h' = hN h ∧ ∀ b, 44 ≤ b → hI h' b = hI h b ∧ hJ h' b = hJ h b ∧ hR h' b = hR h b
theorem cf_refl {h : qH} : cf h h := ⟨rfl, fun _ _ => ⟨rfl, rfl, rfl⟩⟩
theorem cf_trans {h h1 h2 : qH} (a : cf h h1) (b : cf h1 h2) : cf h h2 := ⟨b.1.trans a.1, fun x hx => ⟨(b.2 x hx).1.trans (a.2 x hx).1, (b.2 x hx).2.1.trans (a.2 x hx).2.1, (b.2 x hx).2.2.trans (a.2 x hx).2.2⟩⟩
theorem cf_sx {L : List Nat} {h h' : qH} (x : sx L h h') (hL : ∀ b ∈ L, b < 44) : cf h h' := ⟨x.2.2.1, fun b hb => ⟨x.2.2.2 b (fun q => by have := hL b q; omega), by rw [x.2.1], by rw [x.1]⟩⟩
/-- trouble set -/
def tr (h : qH) (v : Int32) : qH := wI h 0 (upd (hI h 0) 9 v)
theorem tr_tr {h : qH} {v w : Int32} : tr (tr h v) w = tr h w := by
  unfold tr
  rw [wI_I, hI_wI, if_pos rfl, upd_upd]
theorem tr_sx {h : qH} {v : Int32} : sx [0] h (tr h v) := sx_w sx_refl (by simp)
theorem tr_cf {h : qH} {v : Int32} : cf h (tr h v) := cf_sx tr_sx (by simp)
theorem tr_R {h : qH} {v : Int32} : hR (tr h v) = hR h := rfl
theorem tr_I {h : qH} {v : Int32} {b : Nat} (hb : b ≠ 0) : hI (tr h v) b = hI h b := by unfold tr; rw [hI_wI, if_neg hb]
theorem cS_tr {h : qH} {s : Nat} {a : aS} {v : Int32} (w : cS h s a) : cS (tr h v) s a := cS_mv w (fun k _ => tr_I (by rcases w.1 with e | e <;> omega))
theorem cC_sx {L : List Nat} {h h' : qH} {a : aS} (k : cC h a) (x : sx L h h') (h1 : 32 ∉ L) (h2 : 36 ∉ L) : cC h' a := by
  unfold cC bC at *
  rw [x.2.2.2 32 h1, x.2.2.2 36 h2]
  exact k
theorem wM_sx {L : List Nat} {h h' : qH} {a : aS} {y : sT} (k : wM h a y) (x : sx L h h') (h1 : 37 ∉ L) (h2 : 38 ∉ L) : wM h' a y := by
  unfold wM WW at *
  rw [x.2.2.2 37 h1, x.2.2.2 38 h2]
  exact k
theorem wC_sx {L : List Nat} {h h' : qH} {a : aS} (k : wC h a) (x : sx L h h') (h1 : 37 ∉ L) (h2 : 38 ∉ L) : wC h' a := by
  rcases k with k | ⟨y, k⟩
  · exact .inl (by rw [x.2.2.2 37 h1]; exact k)
  · exact .inr ⟨y, wM_sx k x h1 h2⟩
theorem gM_sx {L : List Nat} {h h' : qH} {a : aS} (k : gM h a) (x : sx L h h') (h1 : 39 ∉ L) (h2 : 42 ∉ L) (h3 : 43 ∉ L) : gM h' a := by
  unfold gM tyH at *
  rw [x.2.2.2 39 h1]
  exact ⟨k.1, k.2.1, gA_sx k.2.2.1 x h2 h3, k.2.2.2⟩
theorem gC_sx {L : List Nat} {h h' : qH} {a : aS} (k : gC h a) (x : sx L h h') (h1 : 39 ∉ L) (h2 : 42 ∉ L) (h3 : 43 ∉ L) : gC h' a := by
  rcases k with k | k
  · exact .inl (by rw [x.2.2.2 39 h1]; exact k)
  · exact .inr (gM_sx k x h1 h2 h3)
theorem bT_sx {L : List Nat} {h h' : qH} {a : aS} (k : bT h a) (x : sx L h h') (h1 : 35 ∉ L) : bT h' a := by
  unfold bT at *
  rw [x.2.2.2 35 h1]
  exact k
theorem St_sx {L : List Nat} {h h' : qH} {y : sT} {tu : Nat} {ps im : List sT} (k : St h y tu ps im) (x : sx L h h') (h1 : 29 ∉ L) (h2 : 30 ∉ L) (h3 : 31 ∉ L) : St h' y tu ps im := by
  unfold St at *
  rw [x.2.2.2 29 h1, x.2.2.2 30 h2, x.2.2.2 31 h3]
  exact k
/-- caches alone have changed -/
theorem CI_mv {L : List Nat} {h h' : qH} {S : AS} (I : CI h S) (x : sx L h h') (hL : ∀ b ∈ L, 32 ≤ b ∧ b ≠ 35) (k : cC h' (sA S)) (wc : wC h' (sA S)) (gc : gC h' (sA S)) : CI h' S := by
  obtain ⟨s, tu, F, r, w, b, -, st, -, -, tb, tp, e8, e9, ep⟩ := I
  have nL : ∀ c, c < 32 → c ∉ L := fun c hc q => by have := (hL c q).1; omega
  refine ⟨s, tu, Fin_sx F x, by rw [x.1]; exact r, cS_sx w x (fun c hc => by have := (hL c hc).1; omega), bT_sx b x (fun q => (hL 35 q).2 rfl), k, St_sx st x (nL _ (by decide)) (nL _ (by decide)) (nL _ (by decide)), wc, gc, tb, ?_, ?_, ?_, ?_⟩
  · rw [x.2.2.2 25 (nL _ (by decide)), x.2.2.2 26 (nL _ (by decide))]; exact tp
  · rw [x.2.2.2 0 (nL _ (by decide))]; exact e8
  · rw [x.2.2.2 0 (nL _ (by decide))]; exact e9
  · rw [x.2.2.2 27 (nL _ (by decide))]; exact ep
theorem CI_tr {h : qH} {S : AS} (I : CI h S) {v : Nat} (hv : v ≠ 4) : CI (tr h (nI v)) (trS S v) := by
  obtain ⟨s, tu, F, r, w, b, k, st, wc, gc, tb, tp, e8, e9, ep⟩ := I
  have x := tr_sx (h := h) (v := nI v)
  refine ⟨s, tu, F, r, cS_tr w, bT_sx b x (by simp), cC_sx k x (by simp) (by simp), St_sx st x (by simp) (by simp) (by simp), wC_sx wc x (by simp) (by simp), gC_sx gc x (by simp) (by simp) (by simp), tb, ?_, ?_, ?_, fun q => absurd q hv⟩
  · rw [tr_I (by decide), tr_I (by decide)]; exact tp
  · unfold tr; rw [hI_wI, if_pos rfl, upd_at, if_neg (by decide)]; exact e8
  · unfold tr; rw [hI_wI, if_pos rfl, upd_at, if_pos rfl]; rfl
/-- a query: the answer, the trouble -/
def qy (d : Nat) (M : qM) (As : List Value) (h : qH) (S : AS) (v : Nat) (r : Option Value) : Prop := ∃ h', (∀ Q, WM d M As h Q = Q (some r) h') ∧ cf h h' ∧ CI h' (trS S v)
theorem qy_tr {d : Nat} {M : qM} {As : List Value} {h : qH} {S : AS} {v : Nat} {r : Option Value} (I : CI h S) (hv : v ≠ 4) (e : ∀ Q, WM d M As h Q = Q (some r) (tr h (nI v))) : qy d M As h S v r := ⟨_, e, tr_cf, CI_tr I hv⟩
theorem qy_mv {d : Nat} {M : qM} {As : List Value} {h h' : qH} {S : AS} {v : Nat} {r : Option Value} {L : List Nat} (I : CI h S) (hv : v ≠ 4) (e : ∀ Q, WM d M As h Q = Q (some r) h') (x : sx L (tr h (nI v)) h') (hL : ∀ b ∈ L, 32 ≤ b ∧ b ≠ 35 ∧ b < 44) (k : cC h' (sA S)) (wc : wC h' (sA S)) (gc : gC h' (sA S)) : qy d M As h S v r :=
  ⟨_, e, cf_trans tr_cf (cf_sx x (fun b hb => (hL b hb).2.2)), CI_mv (CI_tr I hv) x (fun b hb => ⟨(hL b hb).1, (hL b hb).2.1⟩) k wc gc⟩
theorem c_refuse {d : Nat} {h : qH} {v : Int32} : ∀ Q, WM d mX7_refuse [.ref (0 : Nat), .int v] h Q = Q (some (some (.int (-1)))) (tr h v) := by
  intro Q
  simp (implicitDefEqProofs := false) only [eX7_refuse, rX7_refuse_0, rX7_refuse_0b, rX7_refuse_1, rX7_refuse_2, rX7_refuse_5, rX7_refuse_6, kA_0, kB_0, pCX7_refuse, pSX7_refuse, pOX7_refuse, pLX7_refuse, kl_I, kl_J, kl_R, kl_T, kl_N, Nat.le_refl, Nat.zero_le, List.map_nil, List.map_cons, List.sum_nil, List.sum_cons, c_I, c_J, c_R, c_T, va_rf, hI_wI, hJ_wJ, hR_wR, hI_J, hI_R, hJ_I, hJ_R, hR_I, hR_J, hN_I, hN_J, hN_R, wI_I, wJ_J, upd_at, updL_at, kR_s, Option.toList, List.append_nil, List.nil_append, List.cons_append, if_true, if_false, reduceIte, Bool.false_eq_true, not_true_eq_false, not_false_eq_true, true_and, and_true, false_and, and_false, true_or, or_true,  Nat.reduceEqDiff, Nat.reduceAdd, Nat.reduceLeDiff]
  rfl
theorem c_refusedIf {d : Nat} {h : qH} {b : Bool} {v : Int32} : ∀ Q, WM d mX7_refusedIf [.ref (0 : Nat), .int (bI b), .int v] h Q = Q (some (some (.int (bI b)))) (tr h (if b = true then v else 0)) := by
  intro Q
  cases b with
  | false =>
    simp (implicitDefEqProofs := false) only [eX7_refusedIf, rX7_refusedIf_0, rX7_refusedIf_0b, rX7_refusedIf_1, rX7_refusedIf_2, rX7_refusedIf_5, rX7_refusedIf_6, rX7_refusedIf_9, rX7_refusedIf_10, rX7_refusedIf_13, rX7_refusedIf_14, kA_0, kB_0, pCX7_refusedIf, pSX7_refusedIf, pOX7_refusedIf, pLX7_refusedIf, bI, tr, kl_I, kl_J, kl_R, kl_T, kl_N, Nat.le_refl, Nat.zero_le, List.map_nil, List.map_cons, List.sum_nil, List.sum_cons, c_I, c_J, c_R, c_T, va_rf, hI_wI, hJ_wJ, hR_wR, hI_J, hI_R, hJ_I, hJ_R, hR_I, hR_J, hN_I, hN_J, hN_R, wI_I, wJ_J, upd_at, updL_at, kR_s, Option.toList, List.append_nil, List.nil_append, List.cons_append, if_true, if_false, reduceIte, Bool.false_eq_true, not_true_eq_false, not_false_eq_true, true_and, and_true, false_and, and_false, true_or, or_true,  Nat.reduceEqDiff, Nat.reduceAdd, Nat.reduceLeDiff]
  | true =>
    simp (implicitDefEqProofs := false) only [eX7_refusedIf, rX7_refusedIf_0, rX7_refusedIf_0b, rX7_refusedIf_1, rX7_refusedIf_2, rX7_refusedIf_5, rX7_refusedIf_6, rX7_refusedIf_9, rX7_refusedIf_10, rX7_refusedIf_13, rX7_refusedIf_14, kA_0, kB_0, pCX7_refusedIf, pSX7_refusedIf, pOX7_refusedIf, pLX7_refusedIf, bI, tr, show ¬ (1 : Int32) = 0 from by decide, kl_I, kl_J, kl_R, kl_T, kl_N, Nat.le_refl, Nat.zero_le, List.map_nil, List.map_cons, List.sum_nil, List.sum_cons, c_I, c_J, c_R, c_T, va_rf, hI_wI, hJ_wJ, hR_wR, hI_J, hI_R, hJ_I, hJ_R, hR_I, hR_J, hN_I, hN_J, hN_R, wI_I, wJ_J, upd_at, updL_at, kR_s, Option.toList, List.append_nil, List.nil_append, List.cons_append, if_true, if_false, reduceIte, Bool.false_eq_true, not_true_eq_false, not_false_eq_true, true_and, and_true, false_and, and_false, true_or, or_true,  Nat.reduceEqDiff, Nat.reduceAdd, Nat.reduceLeDiff]
theorem bI_t : bI true = 1 := rfl
theorem bI_f : bI false = 0 := rfl
theorem bI_0 {b : Bool} : (bI b = 0) = (b = false) := by cases b <;> simp [bI]
theorem c_noStreet {d : Nat} {h : qH} {s : Nat} {a : aS} (hf : hR h 0 0 = some s) (w : cS h s a) : ∀ Q, WM (d + 1) mX7_noStreet [.ref (0 : Nat)] h Q = Q (some (some (.int (bI (decide (aN a = 0)))))) (tr h (if aN a = 0 then 1 else 0)) := by
  intro Q
  have hs := w.1
  have n6 := w.2.1.1
  by_cases c : aN a = 0
  · have r := c_refusedIf (d := d) (h := h) (b := true) (v := 1)
    rw [bI_t] at r
    simp (implicitDefEqProofs := false) only [eX7_noStreet, rX7_noStreet_0, rX7_noStreet_0b, rX7_noStreet_1, rX7_noStreet_1b, rX7_noStreet_2, rX7_noStreet_5, rX7_noStreet_8, rX7_noStreet_11, rX7_noStreet_12, rX7_noStreet_15, rX7_noStreet_16, rX7_noStreet_17, rX7_noStreet_20, kA_0, kB_0, kS0 hs, nS hs, nSs hs, hf, pCX7_noStreet, pSX7_noStreet, pOX7_noStreet, pLX7_noStreet, pCX7_refusedIf, pSX7_refusedIf, pOX7_refusedIf, pLX7_refusedIf, w.2.2.1.2.1, c, nI_0, r, decide_true, bI_t, kl_I, kl_J, kl_R, kl_T, kl_N, Nat.le_refl, Nat.zero_le, List.map_nil, List.map_cons, List.sum_nil, List.sum_cons, c_I, c_J, c_R, c_T, va_rf, hI_wI, hJ_wJ, hR_wR, hI_J, hI_R, hJ_I, hJ_R, hR_I, hR_J, hN_I, hN_J, hN_R, wI_I, wJ_J, upd_at, updL_at, kR_s, Option.toList, List.append_nil, List.nil_append, List.cons_append, if_true, if_false, reduceIte, Bool.false_eq_true, not_true_eq_false, not_false_eq_true, true_and, and_true, false_and, and_false, true_or, or_true,  Nat.reduceEqDiff, Nat.reduceAdd, Nat.reduceLeDiff]
  · have r := c_refusedIf (d := d) (h := h) (b := false) (v := 1)
    rw [bI_f] at r
    have c' : ¬ nI (aN a) = 0 := nI_ne0 (by omega) (by omega)
    simp (implicitDefEqProofs := false) only [eX7_noStreet, rX7_noStreet_0, rX7_noStreet_0b, rX7_noStreet_1, rX7_noStreet_1b, rX7_noStreet_2, rX7_noStreet_5, rX7_noStreet_8, rX7_noStreet_11, rX7_noStreet_12, rX7_noStreet_15, rX7_noStreet_16, rX7_noStreet_17, rX7_noStreet_20, kA_0, kB_0, kS0 hs, nS hs, nSs hs, hf, pCX7_noStreet, pSX7_noStreet, pOX7_noStreet, pLX7_noStreet, pCX7_refusedIf, pSX7_refusedIf, pOX7_refusedIf, pLX7_refusedIf, w.2.2.1.2.1, c, c', r, decide_false, bI_f, kl_I, kl_J, kl_R, kl_T, kl_N, Nat.le_refl, Nat.zero_le, List.map_nil, List.map_cons, List.sum_nil, List.sum_cons, c_I, c_J, c_R, c_T, va_rf, hI_wI, hJ_wJ, hR_wR, hI_J, hI_R, hJ_I, hJ_R, hR_I, hR_J, hN_I, hN_J, hN_R, wI_I, wJ_J, upd_at, updL_at, kR_s, Option.toList, List.append_nil, List.nil_append, List.cons_append, if_true, if_false, reduceIte, Bool.false_eq_true, not_true_eq_false, not_false_eq_true, true_and, and_true, false_and, and_false, true_or, or_true,  Nat.reduceEqDiff, Nat.reduceAdd, Nat.reduceLeDiff]
theorem c_noHouse {d : Nat} {h : qH} {s : Nat} {a : aS} {y : Int32} (hf : hR h 0 0 = some s) (w : cS h s a) : ∀ Q, WM (d + 1) mX7_noHouse [.ref (0 : Nat), .int y] h Q = Q (some (some (.int (bI (decide (ix y (aN a) = none)))))) (tr h (if ix y (aN a) = none then 1 else 0)) := by
  intro Q
  have hs := w.1
  have n6 := w.2.1.1
  have r1 := c_refusedIf (d := d) (h := h) (b := true) (v := 1)
  rw [bI_t] at r1
  have r2 := c_refusedIf (d := d) (h := h) (b := false) (v := 1)
  rw [bI_f] at r2
  cases hx : ix y (aN a) with
  | none =>
    by_cases c : y < 0
    · simp (implicitDefEqProofs := false) only [eX7_noHouse, rX7_noHouse_0, rX7_noHouse_0b, rX7_noHouse_1, rX7_noHouse_2, rX7_noHouse_5, rX7_noHouse_6, rX7_noHouse_6b, rX7_noHouse_7, rX7_noHouse_10, rX7_noHouse_13, rX7_noHouse_16, rX7_noHouse_17, rX7_noHouse_20, rX7_noHouse_21, rX7_noHouse_22, rX7_noHouse_25, kA_0, kB_0, kS0 hs, nS hs, nSs hs, hf, pCX7_noHouse, pSX7_noHouse, pOX7_noHouse, pLX7_noHouse, pCX7_refusedIf, pSX7_refusedIf, pOX7_refusedIf, pLX7_refusedIf, c, r1, decide_true, bI_t, kl_I, kl_J, kl_R, kl_T, kl_N, Nat.le_refl, Nat.zero_le, List.map_nil, List.map_cons, List.sum_nil, List.sum_cons, c_I, c_J, c_R, c_T, va_rf, hI_wI, hJ_wJ, hR_wR, hI_J, hI_R, hJ_I, hJ_R, hR_I, hR_J, hN_I, hN_J, hN_R, wI_I, wJ_J, upd_at, updL_at, kR_s, Option.toList, List.append_nil, List.nil_append, List.cons_append, if_true, if_false, reduceIte, Bool.false_eq_true, not_true_eq_false, not_false_eq_true, true_and, and_true, false_and, and_false, true_or, or_true,  Nat.reduceEqDiff, Nat.reduceAdd, Nat.reduceLeDiff]
    · have c2 : nI (aN a) ≤ y := (ix_n hx).resolve_left c
      have c3 : ¬ y < nI (aN a) := Int32.not_lt.mpr c2
      simp (implicitDefEqProofs := false) only [eX7_noHouse, rX7_noHouse_0, rX7_noHouse_0b, rX7_noHouse_1, rX7_noHouse_2, rX7_noHouse_5, rX7_noHouse_6, rX7_noHouse_6b, rX7_noHouse_7, rX7_noHouse_10, rX7_noHouse_13, rX7_noHouse_16, rX7_noHouse_17, rX7_noHouse_20, rX7_noHouse_21, rX7_noHouse_22, rX7_noHouse_25, kA_0, kB_0, kS0 hs, nS hs, nSs hs, hf, pCX7_noHouse, pSX7_noHouse, pOX7_noHouse, pLX7_noHouse, pCX7_refusedIf, pSX7_refusedIf, pOX7_refusedIf, pLX7_refusedIf, w.2.2.1.2.1, c, c3, r1, decide_true, bI_t, kl_I, kl_J, kl_R, kl_T, kl_N, Nat.le_refl, Nat.zero_le, List.map_nil, List.map_cons, List.sum_nil, List.sum_cons, c_I, c_J, c_R, c_T, va_rf, hI_wI, hJ_wJ, hR_wR, hI_J, hI_R, hJ_I, hJ_R, hR_I, hR_J, hN_I, hN_J, hN_R, wI_I, wJ_J, upd_at, updL_at, kR_s, Option.toList, List.append_nil, List.nil_append, List.cons_append, if_true, if_false, reduceIte, Bool.false_eq_true, not_true_eq_false, not_false_eq_true, true_and, and_true, false_and, and_false, true_or, or_true,  Nat.reduceEqDiff, Nat.reduceAdd, Nat.reduceLeDiff]
  | some i =>
    obtain ⟨rfl, hi⟩ := ix_s (by omega) hx
    have c : ¬ nI i < 0 := nI_pos (by omega)
    have c2 : nI i < nI (aN a) := nI_lt hi (by omega)
    simp (implicitDefEqProofs := false) only [eX7_noHouse, rX7_noHouse_0, rX7_noHouse_0b, rX7_noHouse_1, rX7_noHouse_2, rX7_noHouse_5, rX7_noHouse_6, rX7_noHouse_6b, rX7_noHouse_7, rX7_noHouse_10, rX7_noHouse_13, rX7_noHouse_16, rX7_noHouse_17, rX7_noHouse_20, rX7_noHouse_21, rX7_noHouse_22, rX7_noHouse_25, kA_0, kB_0, kS0 hs, nS hs, nSs hs, hf, pCX7_noHouse, pSX7_noHouse, pOX7_noHouse, pLX7_noHouse, pCX7_refusedIf, pSX7_refusedIf, pOX7_refusedIf, pLX7_refusedIf, w.2.2.1.2.1, c, c2, r2, reduceCtorEq, decide_false, bI_f, kl_I, kl_J, kl_R, kl_T, kl_N, Nat.le_refl, Nat.zero_le, List.map_nil, List.map_cons, List.sum_nil, List.sum_cons, c_I, c_J, c_R, c_T, va_rf, hI_wI, hJ_wJ, hR_wR, hI_J, hI_R, hJ_I, hJ_R, hR_I, hR_J, hN_I, hN_J, hN_R, wI_I, wJ_J, upd_at, updL_at, kR_s, Option.toList, List.append_nil, List.nil_append, List.cons_append, if_true, if_false, reduceIte, Bool.false_eq_true, not_true_eq_false, not_false_eq_true, true_and, and_true, false_and, and_false, true_or, or_true,  Nat.reduceEqDiff, Nat.reduceAdd, Nat.reduceLeDiff]
theorem c_outside {d : Nat} {h : qH} {y lo hi : Int32} : ∀ Q, WM (d + 1) mX7_outside [.ref (0 : Nat), .int y, .int lo, .int hi] h Q = Q (some (some (.int (bI (decide (y < lo ∨ hi < y)))))) (tr h (if y < lo ∨ hi < y then 2 else 0)) := by
  intro Q
  have r1 := c_refusedIf (d := d) (h := h) (b := true) (v := 2)
  rw [bI_t] at r1
  have r2 := c_refusedIf (d := d) (h := h) (b := false) (v := 2)
  rw [bI_f] at r2
  by_cases c : y < lo
  · simp (implicitDefEqProofs := false) only [eX7_outside, rX7_outside_0, rX7_outside_0b, rX7_outside_1, rX7_outside_2, rX7_outside_3, rX7_outside_6, rX7_outside_7, rX7_outside_8, rX7_outside_11, rX7_outside_12, rX7_outside_15, rX7_outside_16, rX7_outside_17, rX7_outside_20, kA_0, kB_0, pCX7_outside, pSX7_outside, pOX7_outside, pLX7_outside, pCX7_refusedIf, pSX7_refusedIf, pOX7_refusedIf, pLX7_refusedIf, c, r1, decide_true, bI_t, kl_I, kl_J, kl_R, kl_T, kl_N, Nat.le_refl, Nat.zero_le, List.map_nil, List.map_cons, List.sum_nil, List.sum_cons, c_I, c_J, c_R, c_T, va_rf, hI_wI, hJ_wJ, hR_wR, hI_J, hI_R, hJ_I, hJ_R, hR_I, hR_J, hN_I, hN_J, hN_R, wI_I, wJ_J, upd_at, updL_at, kR_s, Option.toList, List.append_nil, List.nil_append, List.cons_append, if_true, if_false, reduceIte, Bool.false_eq_true, not_true_eq_false, not_false_eq_true, true_and, and_true, false_and, and_false, true_or, or_true,  Nat.reduceEqDiff, Nat.reduceAdd, Nat.reduceLeDiff]
  · by_cases c2 : hi < y
    · have c3 : ¬ y ≤ hi := Int32.not_le.mpr c2
      simp (implicitDefEqProofs := false) only [eX7_outside, rX7_outside_0, rX7_outside_0b, rX7_outside_1, rX7_outside_2, rX7_outside_3, rX7_outside_6, rX7_outside_7, rX7_outside_8, rX7_outside_11, rX7_outside_12, rX7_outside_15, rX7_outside_16, rX7_outside_17, rX7_outside_20, kA_0, kB_0, pCX7_outside, pSX7_outside, pOX7_outside, pLX7_outside, pCX7_refusedIf, pSX7_refusedIf, pOX7_refusedIf, pLX7_refusedIf, c, c2, c3, r1, decide_true, bI_t, kl_I, kl_J, kl_R, kl_T, kl_N, Nat.le_refl, Nat.zero_le, List.map_nil, List.map_cons, List.sum_nil, List.sum_cons, c_I, c_J, c_R, c_T, va_rf, hI_wI, hJ_wJ, hR_wR, hI_J, hI_R, hJ_I, hJ_R, hR_I, hR_J, hN_I, hN_J, hN_R, wI_I, wJ_J, upd_at, updL_at, kR_s, Option.toList, List.append_nil, List.nil_append, List.cons_append, if_true, if_false, reduceIte, Bool.false_eq_true, not_true_eq_false, not_false_eq_true, true_and, and_true, false_and, and_false, true_or, or_true,  Nat.reduceEqDiff, Nat.reduceAdd, Nat.reduceLeDiff]
    · have c3 : y ≤ hi := Int32.not_lt.mp c2
      simp (implicitDefEqProofs := false) only [eX7_outside, rX7_outside_0, rX7_outside_0b, rX7_outside_1, rX7_outside_2, rX7_outside_3, rX7_outside_6, rX7_outside_7, rX7_outside_8, rX7_outside_11, rX7_outside_12, rX7_outside_15, rX7_outside_16, rX7_outside_17, rX7_outside_20, kA_0, kB_0, pCX7_outside, pSX7_outside, pOX7_outside, pLX7_outside, pCX7_refusedIf, pSX7_refusedIf, pOX7_refusedIf, pLX7_refusedIf, c, c2, c3, r2, decide_false, bI_f, or_self, kl_I, kl_J, kl_R, kl_T, kl_N, Nat.le_refl, Nat.zero_le, List.map_nil, List.map_cons, List.sum_nil, List.sum_cons, c_I, c_J, c_R, c_T, va_rf, hI_wI, hJ_wJ, hR_wR, hI_J, hI_R, hJ_I, hJ_R, hR_I, hR_J, hN_I, hN_J, hN_R, wI_I, wJ_J, upd_at, updL_at, kR_s, Option.toList, List.append_nil, List.nil_append, List.cons_append, if_true, if_false, reduceIte, Bool.false_eq_true, not_true_eq_false, not_false_eq_true, true_and, and_true, false_and, and_false, true_or, or_true,  Nat.reduceEqDiff, Nat.reduceAdd, Nat.reduceLeDiff]
theorem c_shown {d : Nat} {h : qH} {y : Nat} (hy : y < 2 ^ 31) : ∀ Q, WM d mX7_shown [.int (nI y)] h Q = Q (some (some (.int (oI (if 1000 ≤ y then none else some y))))) h := by
  intro Q
  have e : (nI y < 1000) = (y < 1000) := nlt (x := y) (k := 1000) (c := 1000) rfl (by omega) (by omega)
  by_cases c : 1000 ≤ y
  · simp (implicitDefEqProofs := false) only [eX7_shown, rX7_shown_0, rX7_shown_1, rX7_shown_4, rX7_shown_7, rX7_shown_9, rX7_shown_12, rX7_shown_13, pCX7_shown, pSX7_shown, pOX7_shown, pLX7_shown, e, c, show ¬ y < 1000 from by omega, oI, kl_I, kl_J, kl_R, kl_T, kl_N, Nat.le_refl, Nat.zero_le, List.map_nil, List.map_cons, List.sum_nil, List.sum_cons, c_I, c_J, c_R, c_T, va_rf, hI_wI, hJ_wJ, hR_wR, hI_J, hI_R, hJ_I, hJ_R, hR_I, hR_J, hN_I, hN_J, hN_R, wI_I, wJ_J, upd_at, updL_at, kR_s, Option.toList, List.append_nil, List.nil_append, List.cons_append, if_true, if_false, reduceIte, Bool.false_eq_true, not_true_eq_false, not_false_eq_true, true_and, and_true, false_and, and_false, true_or, or_true,  Nat.reduceEqDiff, Nat.reduceAdd, Nat.reduceLeDiff]
  · simp (implicitDefEqProofs := false) only [eX7_shown, rX7_shown_0, rX7_shown_1, rX7_shown_4, rX7_shown_7, rX7_shown_9, rX7_shown_12, rX7_shown_13, pCX7_shown, pSX7_shown, pOX7_shown, pLX7_shown, e, c, show y < 1000 from by omega, oI, kl_I, kl_J, kl_R, kl_T, kl_N, Nat.le_refl, Nat.zero_le, List.map_nil, List.map_cons, List.sum_nil, List.sum_cons, c_I, c_J, c_R, c_T, va_rf, hI_wI, hJ_wJ, hR_wR, hI_J, hI_R, hJ_I, hJ_R, hR_I, hR_J, hN_I, hN_J, hN_R, wI_I, wJ_J, upd_at, updL_at, kR_s, Option.toList, List.append_nil, List.nil_append, List.cons_append, if_true, if_false, reduceIte, Bool.false_eq_true, not_true_eq_false, not_false_eq_true, true_and, and_true, false_and, and_false, true_or, or_true,  Nat.reduceEqDiff, Nat.reduceAdd, Nat.reduceLeDiff]
theorem c_burnEver {d : Nat} {h : qH} {s t : Nat} {a : aS} (F : Fin0 (hR h)) (hf : hR h 32 0 = some s) (w : cS h s a) (b : bT h a) (ht : t < 2 ^ aN a) : ∀ Q, WM (d + 2) mX7_burnEver [.ref (0 : Nat), .int (nI t)] h Q = Q (some (some (.int (nI (popc 6 (bbN a t 999)))))) h := by
  intro Q
  have bb := c_burntBy (d := d) F hf w b ht (y := 999) (by omega)
  have b6 : bbN a t 999 < 64 := Nat.lt_of_lt_of_le (bm_lt _ _) (p6 w.2.1.1)
  simp (implicitDefEqProofs := false) only [eX7_burnEver, rX7_burnEver_0, rX7_burnEver_0b, rX7_burnEver_1, rX7_burnEver_4, rX7_burnEver_5, rX7_burnEver_8, rX7_burnEver_11, rX7_burnEver_14, fin_0_2 F, fin_0_3 F, fin_0_4 F, fin_0_5 F, fin_0_6 F, fin_0_7 F, kA_0, kB_0, kA_32, kB_32, pCX7_burnEver, pSX7_burnEver, pOX7_burnEver, pLX7_burnEver, pCX0_burntBy, pSX0_burntBy, pOX0_burntBy, pLX0_burntBy, pCJ6_bitCount_0f7a4, pSJ6_bitCount_0f7a4, pOJ6_bitCount_0f7a4, pLJ6_bitCount_0f7a4, show (999 : Int32) = nI 999 from rfl, bb, c_bitCount b6, kl_I, kl_J, kl_R, kl_T, kl_N, Nat.le_refl, Nat.zero_le, List.map_nil, List.map_cons, List.sum_nil, List.sum_cons, c_I, c_J, c_R, c_T, va_rf, hI_wI, hJ_wJ, hR_wR, hI_J, hI_R, hJ_I, hJ_R, hR_I, hR_J, hN_I, hN_J, hN_R, wI_I, wJ_J, upd_at, updL_at, kR_s, Option.toList, List.append_nil, List.nil_append, List.cons_append, if_true, if_false, reduceIte, Bool.false_eq_true, not_true_eq_false, not_false_eq_true, true_and, and_true, false_and, and_false, true_or, or_true,  Nat.reduceEqDiff, Nat.reduceAdd, Nat.reduceLeDiff]
