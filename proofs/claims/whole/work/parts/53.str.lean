/-! ===== the class: street ===== -/
noncomputable def sStreet (S : AS) (y : Int32) : AS × Int32 := if y < 0 ∨ nI (sTl S) < y then (trS S 2, -1) else match parse (bB (sTb S)) y.toNatClampNeg with
  | .inl e => ((S.1, S.2.1, (0, sTb S), (e.1, 4, e.2)), -1)
  | .inr st => ((st.1, ((0, aPu st.1, 0), [], []), (0, sTb S), (0, 0, sPl S)), nI (aN st.1))
theorem cS_rx {h h' : qH} {s s' : Nat} {a : aS} (w : cS h s a) (x : rx s' h h') (e : s' = 14 - s) : cS h' s a := cS_mv w (fun k hk => x.2.2.2 _ (by have := w.1; omega) (by have := w.1; omega))
theorem hW_n {h : qH} {c b : Nat} {f : Nat → Int32} (n : ¬ b = c) : hI (wI h c f) b = hI h b := by rw [hI_wI, if_neg n]
set_option maxHeartbeats 1000000 in
theorem q_street {d : Nat} {h : qH} {S : AS} {y : Int32} (I : CI h S) : qs (d + 12) mX7_street [.ref (0 : Nat), .int y] h (sStreet S y).1 (some (.int (sStreet S y).2)) := by
  obtain ⟨s, tu, F, ⟨r0, r1, r2⟩, w, b, k, st, wc, gc, ⟨tbx, tbp, tbm⟩, ⟨tl, tp, tq⟩, e8, e9, ep⟩ := id I
  have hs := w.1
  have hs' : 14 - s = 1 ∨ 14 - s = 13 := by omega
  have ou := c_outside (d := d + 10) (h := h) (y := y) (lo := 0) (hi := nI (sTl S))
  rw [sStreet]
  by_cases c1 : y < 0 ∨ nI (sTl S) < y
  · rw [if_pos c1]
    refine qs_tr (v := 2) I (by decide) (fun Q => ?_)
    simp (implicitDefEqProofs := false) only [eX7_street, rX7_street_0, rX7_street_0b, rX7_street_1, rX7_street_2, rX7_street_3, rX7_street_3b, rX7_street_4, rX7_street_7, rX7_street_10, rX7_street_13, rX7_street_16, rX7_street_17, fin_0_2 F, fin_0_3 F, fin_0_4 F, fin_0_5 F, fin_0_6 F, fin_0_7 F, kA_0, kB_0, kA_25, kB_25, tp, pCX7_street, pSX7_street, pOX7_street, pLX7_street, pCX7_outside, pSX7_outside, pOX7_outside, pLX7_outside, ou, c1, decide_true, bI_t, show ¬ (1 : Int32) = 0 from by decide, show nI 2 = 2 from rfl, kl_I, kl_J, kl_R, kl_T, kl_N, Nat.le_refl, Nat.zero_le, List.map_nil, List.map_cons, List.sum_nil, List.sum_cons, c_I, c_J, c_R, c_T, va_rf, hI_wI, hJ_wJ, hR_wR, hI_J, hI_R, hJ_I, hJ_R, hR_I, hR_J, hN_I, hN_J, hN_R, wI_I, wJ_J, upd_at, updL_at, kR_s, Option.toList, List.append_nil, List.nil_append, List.cons_append, if_true, if_false, reduceIte, Bool.false_eq_true, not_true_eq_false, not_false_eq_true, true_and, and_true, false_and, and_false, true_or, or_true,  Nat.reduceEqDiff, Nat.reduceAdd, Nat.reduceLeDiff]
  · rw [if_neg c1]
    obtain ⟨n, hn, rfl⟩ : ∃ n, n ≤ sTl S ∧ y = nI n := nI_of2 (M := nI (sTl S)) (n := sTl S) (nI_toInt (by omega)) (fun q => c1 (.inl q)) (Int32.not_lt.mp (fun q => c1 (.inr q)))
    rw [nI_cl (by omega)]
    have F1 : Fin0 (hR (tr h 0)) := F
    have tq1 : ∀ i, i < 900 → hI (tr h 0) 26 i = sTb S i := fun i hi => by rw [tr_26]; exact tq i hi
    have rd := c_read (d := d + 2) (h := tr h 0) (s := 14 - s) (n := n) (tb := sTb S) hs' F1 (by omega) tq1
    let hr : qH := wR (tr h 0) 27 (va_up (hR (tr h 0) 27) 2 (some (14 - s)))
    have Fr : Fin0 (hR hr) := Fin_up F1 (by decide)
    have rr0 : ∀ b c, ¬ (b = 27 ∧ c = 2) → hR hr b c = hR h b c := fun b c q => by
      simp only [hr, tr_R]
      rw [hR_wR]
      by_cases e : b = 27
      · rw [if_pos e, vup_at, if_neg (fun q2 => q ⟨e, q2⟩), e]
      · rw [if_neg e]; rfl
    have hi0 : ∀ b, b ≠ 0 → hI hr b = hI h b := fun b hb => tr_I hb
    cases hp : parse (bB (sTb S)) n with
    | inl e =>
      rw [hp] at rd
      obtain ⟨h1, m1, m2, m3, m4⟩ := rd
      have F2 : Fin0 (hR h1) := by rw [m2.1]; exact Fr
      have q25 : hI h1 25 = hI h 25 := (m2.2.2.2 25 (by decide) (by omega)).trans (hi0 25 (by decide))
      have q0 : hI h1 0 = hI (tr h 0) 0 := m2.2.2.2 0 (by decide) (by omega)
      have qc : ∀ c, 28 ≤ c → hI h1 c = hI h c := fun c hc => (m2.2.2.2 c (by omega) (by omega)).trans (hi0 c (by omega))
      have q26 : hI h1 26 = hI h 26 := (m2.2.2.2 26 (by decide) (by omega)).trans (hi0 26 (by decide))
      have w2 : cS h1 s (sA S) := cS_rx (h := hr) (cS_tr w) m2 rfl
      let h4 : qH := tr (wI (wI h1 25 (upd (hI h1 25) 1 0)) 0 (upd (hI h1 0) 8 (nI e.1))) 4
      have x4 : ∀ c, c ≠ 0 → c ≠ 25 → hI h4 c = hI h1 c := fun c h0 h25 => by
        simp only [h4]
        rw [tr_I h0, hI_wI, if_neg h0, hI_wI, if_neg h25]
      have R4 : hR h4 = hR hr := m2.1
      have rf := c_refuse (d := d + 11) (h := wI (wI h1 25 (upd (hI h1 25) 1 0)) 0 (upd (hI h1 0) 8 (nI e.1))) (v := 4)
      refine ⟨h4, fun Q => ?_, ⟨m2.2.1, fun c hc => ⟨?_, ?_, ?_⟩⟩, s, tu, ?_, ⟨?_, ?_, ?_⟩, ?_, ?_, ?_, ?_, ?_, ?_, ⟨tbx, tbp, tbm⟩, ⟨by show 0 ≤ 900; omega, ?_, ?_⟩, ?_, ?_, ?_⟩
      · simp (implicitDefEqProofs := false) only [eX7_street, rX7_street_0, rX7_street_0b, rX7_street_1, rX7_street_2, rX7_street_3, rX7_street_3b, rX7_street_4, rX7_street_7, rX7_street_10, rX7_street_13, rX7_street_16, rX7_street_17, rX7_street_18, rX7_street_18b, rX7_street_19, rX7_street_22, rX7_street_22b, rX7_street_23, rX7_street_26, rX7_street_27, rX7_street_30, rX7_street_31, rX7_street_31b, rX7_street_32, rX7_street_35, rX7_street_36, rX7_street_39, rX7_street_39b, rX7_street_40, rX7_street_40b, rX7_street_41, rX7_street_44, rX7_street_47, rX7_street_50, rX7_street_51, rX7_street_54, rX7_street_54b, rX7_street_55, rX7_street_56, rX7_street_59, fin_0_2 F, fin_0_3 F, fin_0_4 F, fin_0_5 F, fin_0_6 F, fin_0_7 F, fin_0_2 F2, fin_0_3 F2, fin_0_4 F2, fin_0_5 F2, fin_0_6 F2, fin_0_7 F2, fin_27_0 F2, fin_27_1 F2, kA_0, kB_0, kA_25, kB_25, kA_27, kB_27, tp, r1, tr_R, tr_25, pCX7_street, pSX7_street, pOX7_street, pLX7_street, pCX7_outside, pSX7_outside, pOX7_outside, pLX7_outside, pCX2_read, pSX2_read, pOX2_read, pLX2_read, pCX7_refuse, pSX7_refuse, pOX7_refuse, pLX7_refuse, ou, c1, decide_false, bI_f, m1, m3, rf, hW_n (b := 27) (c := 25) (by decide), kl_I, kl_J, kl_R, kl_T, kl_N, Nat.le_refl, Nat.zero_le, List.map_nil, List.map_cons, List.sum_nil, List.sum_cons, c_I, c_J, c_R, c_T, va_rf, hI_wI, hJ_wJ, hR_wR, hI_J, hI_R, hJ_I, hJ_R, hR_I, hR_J, hN_I, hN_J, hN_R, wI_I, wJ_J, upd_at, updL_at, kR_s, Option.toList, List.append_nil, List.nil_append, List.cons_append, if_true, if_false, reduceIte, Bool.false_eq_true, not_true_eq_false, not_false_eq_true, true_and, and_true, false_and, and_false, true_or, or_true,  Nat.reduceEqDiff, Nat.reduceAdd, Nat.reduceLeDiff]
        rfl
      · rw [x4 c (by omega) (by omega), qc c (by omega)]
      · exact m2.2.2.1 c (by omega)
      · rw [R4]; funext z; exact rr0 c z (by omega)
      · rw [R4]; exact Fr
      · rw [R4, rr0 0 0 (by decide)]; exact r0
      · rw [R4, rr0 0 1 (by decide)]; exact r1
      · rw [R4, rr0 32 0 (by decide)]; exact r2
      · exact cS_mv w2 (fun k _ => x4 _ (by omega) (by omega))
      · intro t ht j hj; rw [x4 35 (by decide) (by decide), qc 35 (by decide)]; exact b t ht j hj
      · unfold cC bC at *; rw [x4 32 (by decide) (by decide), qc 32 (by decide), x4 36 (by decide) (by decide), qc 36 (by decide)]; exact k
      · unfold St at *; rw [x4 29 (by decide) (by decide), qc 29 (by decide), x4 30 (by decide) (by decide), qc 30 (by decide), x4 31 (by decide) (by decide), qc 31 (by decide)]; exact st
      · unfold wC wM WW at *; rw [x4 37 (by decide) (by decide), qc 37 (by decide), x4 38 (by decide) (by decide), qc 38 (by decide)]; exact wc
      · unfold gC gM gA tyH at *; rw [x4 39 (by decide) (by decide), qc 39 (by decide), x4 42 (by decide) (by decide), qc 42 (by decide), x4 43 (by decide) (by decide), qc 43 (by decide)]; exact gc
      · simp only [h4]; rw [tr_25, hI_wI, if_neg (by decide), hI_wI, if_pos rfl, upd_at, if_pos rfl]; rfl
      · intro i hi; rw [x4 26 (by decide) (by decide), q26]; exact tq i hi
      · simp only [h4, tr]; rw [hI_wI, if_pos rfl, upd_at, if_neg (by decide), hI_wI, if_pos rfl, upd_at, if_pos rfl]; rfl
      · simp only [h4, tr]; rw [hI_wI, if_pos rfl, upd_at, if_pos rfl]; rfl
      · intro _; rw [x4 27 (by decide) (by decide)]; exact m4
    | inr ps =>
      rw [hp] at rd
      obtain ⟨h1, m1, m2, t', m3⟩ := rd
      have F2 : Fin0 (hR h1) := m3.1
      have e27 : hI h1 27 9 = 0 := m3.2.2.2.2.2.2.2.2.2
      have q25 : hI h1 25 = hI h 25 := (m2.2.2.2 25 (by decide) (by omega)).trans (hi0 25 (by decide))
      have q0 : hI h1 0 = hI (tr h 0) 0 := m2.2.2.2 0 (by decide) (by omega)
      have qc : ∀ c, 28 ≤ c → hI h1 c = hI h c := fun c hc => (m2.2.2.2 c (by omega) (by omega)).trans (hi0 c (by omega))
      have q26 : hI h1 26 = hI h 26 := (m2.2.2.2 26 (by decide) (by omega)).trans (hi0 26 (by decide))
      have w2 : cS h1 (14 - s) ps.1 := m3.2.2.1
      have ww2 := w2.2.1
      have p64 := p6 ww2.1
      have pul := ww2.2.2.2.1
      -- the tape's end, the fault, the two streets
      let ha : qH := wI (wI h1 25 (upd (hI h1 25) 1 0)) 0 (upd (hI h1 0) 8 0)
      let hb1 : qH := wR ha 0 (va_up (hR ha 0) 1 (some s))
      let hb : qH := wR hb1 0 (va_up (hR hb1 0) 0 (some (14 - s)))
      have Fb : Fin0 (hR hb) := Fin_up (Fin_up F2 (by decide)) (by decide)
      have xb : ∀ c, c ≠ 0 → c ≠ 25 → hI hb c = hI h1 c := fun c h0 h25 => by
        show hI ha c = hI h1 c
        simp only [ha]
        rw [hI_wI, if_neg h0, hI_wI, if_neg h25]
      have b00 : hR hb 0 0 = some (14 - s) := by simp only [hb]; rw [hR_wR, if_pos rfl, vup_at, if_pos rfl]
      have b01 : hR hb 0 1 = some s := by simp only [hb]; rw [hR_wR, if_pos rfl, vup_at, if_neg (by decide)]; simp only [hb1]; rw [hR_wR, if_pos rfl, vup_at, if_pos rfl]
      have wb : cS hb (14 - s) ps.1 := cS_mv w2 (fun k hk => xb _ (by omega) (by omega))
      have Rb : ∀ c z, c ≠ 0 → hR hb c z = hR h1 c z := fun c z hc => by
        simp only [hb, hb1]
        rw [hR_wR, if_neg hc, hR_wR, if_neg hc]
        rfl
      obtain ⟨h5, g1, g2, g3⟩ := c_begin (d := d + 9) Fb wb
      let hg : qH := wI (wR hb 32 (va_up (hR hb 32) 0 (some (14 - s)))) 32 (upd (hI hb 32) 5 (-1))
      have Fg : Fin0 (hR hg) := Fin_up Fb (by decide)
      have F5 : Fin0 (hR h5) := Fin_sx Fg g2
      have xg : ∀ c, c ≠ 32 → hI hg c = hI hb c := fun c hc => by simp only [hg]; rw [hI_wI, if_neg hc]; rfl
      have st5 : St h5 (sX S) tu (sP S) (sM S) := by
        have e : ∀ c, c = 29 ∨ c = 30 ∨ c = 31 → hI h5 c = hI h c := fun c hc => by
          rw [g2.2.2.2 c (by simp; omega), xg c (by omega), xb c (by omega) (by omega), qc c (by omega)]
        unfold St at *
        rw [e 29 (by simp), e 30 (by simp), e 31 (by simp)]
        exact st
      obtain ⟨h6, j1, j2, j3⟩ := c_sBegin (d := d + 11) (w := aPu ps.1) (by omega) st5
      have F6 := Fin_sx F5 j2
      let h8 : qH := wI (wI h6 37 (upd (hI h6 37) 6 0)) 39 (upd (hI h6 39) 5 0)
      have x8 : ∀ c, c ≠ 37 → c ≠ 39 → hI h8 c = hI h6 c := fun c h37 h39 => by simp only [h8]; rw [hI_wI, if_neg h39, hI_wI, if_neg h37]
      have R8 : hR h8 = hR hg := (j2.1).trans g2.1
      have g32 : hR hg 32 0 = some (14 - s) := by simp only [hg, hR_I]; rw [hR_wR, if_pos rfl, vup_at, if_pos rfl]
      have gR : ∀ c z, ¬ (c = 32 ∧ z = 0) → hR hg c z = hR hb c z := fun c z q => by
        simp only [hg, hR_I]
        rw [hR_wR]
        by_cases e : c = 32
        · rw [if_pos e, vup_at, if_neg (fun q2 => q ⟨e, q2⟩), e]
        · rw [if_neg e]
      have c5 : ∀ c, c ≠ 33 → c ≠ 34 → c ≠ 35 → c ≠ 29 → hI h6 c = hI hg c := fun c h33 h34 h35 h29 => by
        rw [j2.2.2.2 c (by simp; exact h29), g2.2.2.2 c (by simp; exact ⟨h33, h34, h35⟩)]
      have wg : cS hg (14 - s) ps.1 := cS_mv wb (fun k hk => xg _ (by omega))
      have w5 : cS h5 (14 - s) ps.1 := cS_sx wg g2 (by simp)
      have w6 : cS h6 (14 - s) ps.1 := cS_sx w5 j2 (by simp)
      have w8 : cS h8 (14 - s) ps.1 := cS_mv w6 (fun k hk => x8 _ (by omega) (by omega))
      have r50 : hR h5 0 0 = some (14 - s) := by rw [g2.1, gR 0 0 (by decide)]; exact b00
      have r60 : hR h6 0 0 = some (14 - s) := by rw [j2.1]; exact r50
      refine ⟨h8, fun Q => ?_, ⟨?_, fun c hc => ⟨?_, ?_, ?_⟩⟩, 14 - s, tu, ?_, ⟨?_, ?_, ?_⟩, w8, ?_, ?_, ?_, ?_, ?_, ⟨?_, ?_, ?_⟩, ⟨by show 0 ≤ 900; omega, ?_, ?_⟩, ?_, ?_, ?_⟩
      · have u5 := w5.2.2.1.2.2.1
        have u8 := w8.2.2.1.2.1
        have pre : WM (d + 12) mX7_street [.ref (0 : Nat), .int (nI n)] h Q = WP (d + 12) mX7_street (0, 0) 60 [some (.ref (0 : Nat)), some (.int (nI n)), some (.int 1), none] [] ha Q := by
          simp (implicitDefEqProofs := false) only [eX7_street, rX7_street_0, rX7_street_0b, rX7_street_1, rX7_street_2, rX7_street_3, rX7_street_3b, rX7_street_4, rX7_street_7, rX7_street_10, rX7_street_13, rX7_street_16, rX7_street_17, rX7_street_18, rX7_street_18b, rX7_street_19, rX7_street_22, rX7_street_22b, rX7_street_23, rX7_street_26, rX7_street_27, rX7_street_30, rX7_street_31, rX7_street_31b, rX7_street_32, rX7_street_35, rX7_street_36, rX7_street_39, rX7_street_39b, rX7_street_40, rX7_street_40b, rX7_street_41, rX7_street_44, rX7_street_47, rX7_street_50, rX7_street_51, fin_0_2 F, fin_0_3 F, fin_0_4 F, fin_0_5 F, fin_0_6 F, fin_0_7 F, fin_0_2 F2, fin_0_3 F2, fin_0_4 F2, fin_0_5 F2, fin_0_6 F2, fin_0_7 F2, fin_27_0 F2, fin_27_1 F2, kA_0, kB_0, kA_25, kB_25, kA_27, kB_27, tp, r1, tr_R, tr_25, pCX7_street, pSX7_street, pOX7_street, pLX7_street, pCX7_outside, pSX7_outside, pOX7_outside, pLX7_outside, pCX2_read, pSX2_read, pOX2_read, pLX2_read, ou, c1, decide_false, bI_f, m1, e27, show ¬ (1 : Int32) = 0 from by decide, hW_n (b := 27) (c := 25) (by decide), kl_I, kl_J, kl_R, kl_T, kl_N, Nat.le_refl, Nat.zero_le, List.map_nil, List.map_cons, List.sum_nil, List.sum_cons, c_I, c_J, c_R, c_T, va_rf, hI_wI, hJ_wJ, hR_wR, hI_J, hI_R, hJ_I, hJ_R, hR_I, hR_J, hN_I, hN_J, hN_R, wI_I, wJ_J, upd_at, updL_at, kR_s, Option.toList, List.append_nil, List.nil_append, List.cons_append, if_true, if_false, reduceIte, Bool.false_eq_true, not_true_eq_false, not_false_eq_true, true_and, and_true, false_and, and_false, true_or, or_true,  Nat.reduceEqDiff, Nat.reduceAdd, Nat.reduceLeDiff]
          simp only [ha]
        have a00 : hR ha 0 0 = some s := by show hR h1 0 0 = some s; rw [m2.1, rr0 0 0 (by decide)]; exact r0
        have a01 : hR ha 0 1 = some (14 - s) := by show hR h1 0 1 = some (14 - s); rw [m2.1, rr0 0 1 (by decide)]; exact r1
        have Fa : Fin0 (hR ha) := F2
        have f25 : hR hb 0 5 = some 32 := fin_0_5 Fb
        have mid : WP (d + 12) mX7_street (0, 0) 60 [some (.ref (0 : Nat)), some (.int (nI n)), some (.int 1), none] [] ha Q = WP (d + 12) mX7_street (0, 0) 78 [some (.ref (0 : Nat)), some (.int (nI n)), some (.int 1), some (.ref (14 - s))] [] hb Q := by
          simp (implicitDefEqProofs := false) only [rX7_street_60, rX7_street_60b, rX7_street_61, rX7_street_64, rX7_street_65, rX7_street_65b, rX7_street_66, rX7_street_66b, rX7_street_67, rX7_street_70, rX7_street_73, rX7_street_73b, rX7_street_74, rX7_street_74b, rX7_street_75, kA_0, kB_0, a00, a01, pCX7_street, pSX7_street, pOX7_street, pLX7_street, kl_I, kl_J, kl_R, kl_T, kl_N, Nat.le_refl, Nat.zero_le, List.map_nil, List.map_cons, List.sum_nil, List.sum_cons, c_I, c_J, c_R, c_T, va_rf, hI_wI, hJ_wJ, hR_wR, hI_J, hI_R, hJ_I, hJ_R, hR_I, hR_J, hN_I, hN_J, hN_R, wI_I, wJ_J, upd_at, updL_at, kR_s, Option.toList, List.append_nil, List.nil_append, List.cons_append, if_true, if_false, reduceIte, Bool.false_eq_true, not_true_eq_false, not_false_eq_true, true_and, and_true, false_and, and_false, true_or, or_true,  Nat.reduceEqDiff, Nat.reduceAdd, Nat.reduceLeDiff]
          simp only [hb, hb1]
          rw [hR_wR, if_pos rfl]
        rw [pre, mid]
        simp (implicitDefEqProofs := false) only [rX7_street_78, rX7_street_78b, rX7_street_79, rX7_street_82, rX7_street_82b, rX7_street_83, rX7_street_86, fin_0_2 Fb, fin_0_3 Fb, fin_0_4 Fb, fin_0_5 Fb, fin_0_6 Fb, fin_0_7 Fb, kA_0, kB_0, kA_32, kB_32, b00, pCX7_street, pSX7_street, pOX7_street, pLX7_street, pCX0_begin, pSX0_begin, pOX0_begin, pLX0_begin, g1, kl_I, kl_J, kl_R, kl_T, kl_N, Nat.le_refl, Nat.zero_le, List.map_nil, List.map_cons, List.sum_nil, List.sum_cons, c_I, c_J, c_R, c_T, va_rf, hI_wI, hJ_wJ, hR_wR, hI_J, hI_R, hJ_I, hJ_R, hR_I, hR_J, hN_I, hN_J, hN_R, wI_I, wJ_J, upd_at, updL_at, kR_s, Option.toList, List.append_nil, List.nil_append, List.cons_append, if_true, if_false, reduceIte, Bool.false_eq_true, not_true_eq_false, not_false_eq_true, true_and, and_true, false_and, and_false, true_or, or_true,  Nat.reduceEqDiff, Nat.reduceAdd, Nat.reduceLeDiff]
        simp (implicitDefEqProofs := false) only [rX7_street_89, rX7_street_89b, rX7_street_90, rX7_street_93, rX7_street_93b, rX7_street_94, rX7_street_97, rX7_street_100, fin_0_2 F5, fin_0_3 F5, fin_0_4 F5, fin_0_5 F5, fin_0_6 F5, fin_0_7 F5, kA_0, kB_0, kA_29, kB_29, kS0 hs', nS hs', nSs hs', r50, u5, pCX7_street, pSX7_street, pOX7_street, pLX7_street, pCX3_begin, pSX3_begin, pOX3_begin, pLX3_begin, j1, kl_I, kl_J, kl_R, kl_T, kl_N, Nat.le_refl, Nat.zero_le, List.map_nil, List.map_cons, List.sum_nil, List.sum_cons, c_I, c_J, c_R, c_T, va_rf, hI_wI, hJ_wJ, hR_wR, hI_J, hI_R, hJ_I, hJ_R, hR_I, hR_J, hN_I, hN_J, hN_R, wI_I, wJ_J, upd_at, updL_at, kR_s, Option.toList, List.append_nil, List.nil_append, List.cons_append, if_true, if_false, reduceIte, Bool.false_eq_true, not_true_eq_false, not_false_eq_true, true_and, and_true, false_and, and_false, true_or, or_true,  Nat.reduceEqDiff, Nat.reduceAdd, Nat.reduceLeDiff]
        simp (implicitDefEqProofs := false) only [rX7_street_103, rX7_street_103b, rX7_street_104, rX7_street_107, rX7_street_108, rX7_street_111, rX7_street_111b, rX7_street_112, rX7_street_115, rX7_street_116, fin_0_2 F6, fin_0_3 F6, fin_0_4 F6, fin_0_5 F6, fin_0_6 F6, fin_0_7 F6, kA_0, kB_0, kA_37, kB_37, kA_39, kB_39, pCX7_street, pSX7_street, pOX7_street, pLX7_street, hW_n (b := 39) (c := 37) (by decide), kl_I, kl_J, kl_R, kl_T, kl_N, Nat.le_refl, Nat.zero_le, List.map_nil, List.map_cons, List.sum_nil, List.sum_cons, c_I, c_J, c_R, c_T, va_rf, hI_wI, hJ_wJ, hR_wR, hI_J, hI_R, hJ_I, hJ_R, hR_I, hR_J, hN_I, hN_J, hN_R, wI_I, wJ_J, upd_at, updL_at, kR_s, Option.toList, List.append_nil, List.nil_append, List.cons_append, if_true, if_false, reduceIte, Bool.false_eq_true, not_true_eq_false, not_false_eq_true, true_and, and_true, false_and, and_false, true_or, or_true,  Nat.reduceEqDiff, Nat.reduceAdd, Nat.reduceLeDiff]
        have r80 : hR h8 0 0 = some (14 - s) := r60
        change WP (d + 12) mX7_street (0, 0) 119 _ _ h8 Q = _
        simp (implicitDefEqProofs := false) only [rX7_street_119, rX7_street_119b, rX7_street_120, rX7_street_123, rX7_street_126, kA_0, kB_0, kS0 hs', nS hs', nSs hs', r80, u8, pCX7_street, pSX7_street, pOX7_street, pLX7_street, kl_I, kl_J, kl_R, kl_T, kl_N, Nat.le_refl, Nat.zero_le, List.map_nil, List.map_cons, List.sum_nil, List.sum_cons, c_I, c_J, c_R, c_T, va_rf, hI_wI, hJ_wJ, hR_wR, hI_J, hI_R, hJ_I, hJ_R, hR_I, hR_J, hN_I, hN_J, hN_R, wI_I, wJ_J, upd_at, updL_at, kR_s, Option.toList, List.append_nil, List.nil_append, List.cons_append, if_true, if_false, reduceIte, Bool.false_eq_true, not_true_eq_false, not_false_eq_true, true_and, and_true, false_and, and_false, true_or, or_true,  Nat.reduceEqDiff, Nat.reduceAdd, Nat.reduceLeDiff]
      · show hN h6 = hN h; rw [j2.2.2.1, g2.2.2.1]; exact m2.2.1
      · rw [x8 c (by omega) (by omega), c5 c (by omega) (by omega) (by omega) (by omega), xg c (by omega), xb c (by omega) (by omega), qc c (by omega)]
      · show hJ h6 c = hJ h c; rw [j2.2.1, g2.2.1]; exact m2.2.2.1 c (by omega)
      · rw [R8]; funext z; rw [gR c z (by omega), Rb c z (by omega), m2.1]; exact rr0 c z (by omega)
      · rw [R8]; exact Fg
      · rw [R8, gR 0 0 (by decide)]; exact b00
      · rw [R8, gR 0 1 (by decide), b01]; congr 1; omega
      · rw [R8]; exact g32
      · intro t ht j hj; rw [x8 35 (by decide) (by decide), j2.2.2.2 35 (by simp)]; exact g3 t ht j hj
      · refine .inl ?_
        rw [x8 32 (by decide) (by decide), c5 32 (by decide) (by decide) (by decide) (by decide)]
        simp only [hg]
        rw [hI_wI, if_pos rfl, upd_at, if_pos rfl]
      · have e : ∀ c, c = 29 ∨ c = 30 ∨ c = 31 → hI h8 c = hI h6 c := fun c hc => x8 c (by omega) (by omega)
        unfold St at *
        rw [e 29 (by simp), e 30 (by simp), e 31 (by simp)]
        exact j3
      · refine .inl ?_
        simp only [h8]
        rw [hI_wI, if_neg (by decide), hI_wI, if_pos rfl, upd_at, if_pos rfl]
      · refine .inl ?_
        simp only [h8]
        rw [hI_wI, if_pos rfl, upd_at, if_pos rfl]
      · exact ⟨Nat.pow_pos (by omega), pul⟩
      · intro p hp'; cases hp'
      · intro p hp'; cases hp'
      · rw [x8 25 (by decide) (by decide), c5 25 (by decide) (by decide) (by decide) (by decide), xg 25 (by decide)]
        show hI ha 25 1 = nI 0
        simp only [ha]
        rw [hI_wI, if_neg (by decide), hI_wI, if_pos rfl, upd_at, if_pos rfl]; rfl
      · intro i hi; rw [x8 26 (by decide) (by decide), c5 26 (by decide) (by decide) (by decide) (by decide), xg 26 (by decide), xb 26 (by decide) (by decide), q26]; exact tq i hi
      · rw [x8 0 (by decide) (by decide), c5 0 (by decide) (by decide) (by decide) (by decide), xg 0 (by decide)]
        show hI ha 0 8 = nI 0
        simp only [ha]
        rw [hI_wI, if_pos rfl, upd_at, if_pos rfl]; rfl
      · rw [x8 0 (by decide) (by decide), c5 0 (by decide) (by decide) (by decide) (by decide), xg 0 (by decide)]
        show hI ha 0 9 = nI 0
        simp only [ha]
        rw [hI_wI, if_pos rfl, upd_at, if_neg (by decide), q0, tr, hI_wI, if_pos rfl, upd_at, if_pos rfl]; rfl
      · intro z; cases z
