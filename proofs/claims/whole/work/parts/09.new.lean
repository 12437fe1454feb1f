/-! ===== new cells, what is outside, natives ===== -/
section
variable {p : Program} {l : Launch} {e : Env} {R : Room} {s : State} {m : MethodId} {args : Array Value} {below : List Frame} {meth : Method} {c : Code} {Q : State → Prop} {M : qM}
variable {dC : Nat → ClassId} {dI : Nat → Nat → Nat} {cB cI cJ : ClassId} {ek : Nat → Value} {adK adV : Nat → Nat} {A : Nat → Prop} {ad0 : Nat → Nat} {h0 : qH}
theorem hI_wN {h : qH} {b : Nat} (hb : b ≠ hN h) : hI (wN h) b = hI h b := by
  have h1 : b ≠ h.2.2.2 := hb
  simp only [hI, wN, va_up, if_neg h1]
theorem hJ_wN {h : qH} {b : Nat} (hb : b ≠ hN h) : hJ (wN h) b = hJ h b := by
  have h1 : b ≠ h.2.2.2 := hb
  simp only [hJ, wN, va_up, if_neg h1]
theorem hR_wN {h : qH} {b : Nat} (hb : b ≠ hN h) : hR (wN h) b = hR h b := by
  have h1 : b ≠ h.2.2.2 := hb
  simp only [hR, wN, va_up, if_neg h1]
theorem hI_wNn {h : qH} : hI (wN h) (hN h) = fun _ => 0 := by simp [hI, wN, va_up, hN]
theorem hJ_wNn {h : qH} : hJ (wN h) (hN h) = fun _ => 0 := by simp [hJ, wN, va_up, hN]
theorem hR_wNn {h : qH} : hR (wN h) (hN h) = fun _ => none := by simp [hR, wN, va_up, hN]
theorem hN_wN {h : qH} : hN (wN h) = hN h + 1 := rfl
theorem hwf_wN {h : qH} (w : hwf h) : hwf (wN h) := by
  intro a ha k b hb
  by_cases q : a = hN h
  · subst q
    rw [hR_wNn] at hb
    cases hb
  · rw [hR_wN q] at hb
    have h1 : a < hN h := by rw [hN_wN] at ha; omega
    rw [hN_wN]
    have := w a h1 k b hb
    omega
theorem qcel_wN {ad : Nat → Nat} {h : qH} {q b : Nat} (w : hwf h) (hb : b < hN h) : qcel cB cI cJ (va_up ad (hN h) q) (wN h) b = qcel cB cI cJ ad h b := by
  have hne : b ≠ hN h := by omega
  simp only [qcel, hI_wN hne, hJ_wN hne]
  congr 4
  refine congrArg (Prod.mk _) (congrArg (fun f => List.map f _) (funext fun k => ?_))
  simp only [fv, hI_wN hne, hJ_wN hne, hR_wN hne]
  cases hr : hR h b k with
  | none => rfl
  | some z =>
    have hz := w b hb k z hr
    have : z ≠ hN h := by omega
    simp only [Option.map_some, va_up, if_neg this]
theorem qw_push {ad : Nat → Nat} {h : qH} {q : Nat} (w : hwf h) : qw cB cI cJ ad h ++ [(q, qcel cB cI cJ (va_up ad (hN h) q) (wN h) (hN h))] = qw cB cI cJ (va_up ad (hN h) q) (wN h) := by
  simp only [qw, hN_wN, List.range_succ, List.map_append, List.map_cons, List.map_nil]
  congr 1
  · apply List.map_congr_left
    intro b hb
    have h1 : b < hN h := by simpa using hb
    have h2 : b ≠ hN h := by omega
    rw [qcel_wN w h1]
    simp only [va_up, if_neg h2]
  · simp only [va_up, if_true]
theorem qWd_push {ad : Nat → Nat} {h : qH} {H H1 : Heap} {locs : List Loc} {q : Nat} {E : va_E} (w : qWd s dC dI cB cI cJ A ad0 h0 ad h H locs) (hP : va_P (dC, dI) vwCl (qw cB cI cJ ad h ++ [(q, E)]) H1) (hD : va_D A (qw cB cI cJ ad h ++ [(q, E)])) (hS : va_S A s.heap H1 locs) (hE : E = qcel cB cI cJ (va_up ad (hN h) q) (wN h) (hN h)) (hs : hN h < SCR) : qWd s dC dI cB cI cJ A ad0 h0 (va_up ad (hN h) q) (wN h) H1 locs := by
  subst hE
  rw [qw_push w.2.2.2.1] at hP hD
  refine ⟨hP, hD, hS, hwf_wN w.2.2.2.1, by rw [hN_wN]; have := w.2.2.2.2.1; omega, fun a ha => ?_, fun b hb => ?_⟩
  · have := w.2.2.2.2.1
    have h1 : a ≠ hN h := by omega
    simp only [va_up, if_neg h1]
    exact w.2.2.2.2.2.1 a ha
  · rw [hI_wN (by omega)]
    exact w.2.2.2.2.2.2 b hb
theorem clF_spec {o k ci : Nat} (h : clF o k = some ci) : ci < 10 ∧ Cond.classLink (nmC o) k (nmC ci) ∈ WT ∧ Cond.instantiable (nmC ci) (nFT ci) ∈ WT ∧ Cond.initialized (nmC ci) ∈ WT := by
  unfold clF at h
  cases hf : clT.find? (fun e => e.1 == (o, k)) with
  | none => rw [hf] at h; cases h
  | some e =>
    rw [hf] at h
    have h1 : e.1 = (o, k) := by simpa using List.find?_some hf
    have h2 := List.mem_of_find?_eq_some hf
    have h4 : e.2 = ci := by simpa using h
    have h3 := List.all_eq_true.mp clT_w e h2
    simp only [Bool.and_eq_true, decide_eq_true_eq, h1, h4] at h3
    obtain ⟨⟨⟨⟨⟨⟨g1, g2⟩, g3⟩, g4⟩, g5⟩, g6⟩, g7⟩ := h3
    exact ⟨g4, WT_in g1 g5, WT_in g2 g6, WT_in g3 g7⟩
theorem V_new (F : qFx p R s m args meth c M dC dI cB cI cJ ek adK adV A) {u : Nat × Nat} {pc k ci : Nat} {ls : qL} {st : List Value} {h : qH} (hd : decode (mB M) pc = .ok (.new k, 3)) (hc : clF (mO M) k = some ci) (hk : (kd (hN h)).1 = ci) (h1 : u.1 + 1 ≤ mC M) (h2 : u.2 + nFT ci ≤ mS M) (kk : VV p l e R s m args below meth c Q M dC dI cB cI cJ ek A ad0 h0 (u.1 + 1, u.2 + nFT ci) (pc + 3) ls (.ref (hN h) :: st) (wN h)) : VV p l e R s m args below meth c Q M dC dI cB cI cJ ek A ad0 h0 u pc ls st h := by
  intro ad H locs ms w lh os ol
  obtain ⟨hc10, w1, w2, w3⟩ := clF_spec hc
  refine va_new (ci := ci) (C := nmC ci) (T := tTT ci) (N := nFT ci) (fs := (List.range (nFT ci)).map (fun k => defaultValue (fTT ci k))) F.1 F.2.1 (Ts := WT) F.2.2.2.2.1 (uw_in hc10) (fTT ci) (ty_ok hc10) F.2.2.2.1 (F.2.2.2.2.1 _ w1) (F.2.2.2.2.1 _ w2) (F.2.2.2.2.1 _ w3) F.2.2.2.2.2.1 w.1 w.2.1 w.2.2.1 F.2.2.2.2.2.2.1 (vw_at hc10) ?_ (by have := F.2.2.2.2.2.2.2.2.2.2.2.2.1; omega) (by have := F.2.2.2.2.2.2.2.2.2.2.2.2.2; omega) hd (fun q H1 hP hD hS => ?_)
  · intro j hj
    simp [vp_V, hj]
  · have hE : (.inr (ci, (List.range (nFT ci)).map (fun k => defaultValue (fTT ci k))) : va_E) = qcel cB cI cJ (va_up ad (hN h) q) (wN h) (hN h) := by
      rw [qcel_obj hk hc10]
      congr 2
      apply List.map_congr_left
      intro j hj
      have hj2 : j < nFT ci := by simpa using hj
      have ho := okT_ok hc10 j hj2
      simp only [fv, hI_wNn, hJ_wNn, hR_wNn]
      cases ht : fTT ci j <;> rw [ht] at ho <;> first | rfl | (simp [okT] at ho)
    have w2 := qWd_push w hP hD hS hE (kd_lt (by omega))
    have hup : ∀ a, a < hN h → va_up ad (hN h) q a = ad a := fun a ha => by
      have : a ≠ hN h := by omega
      simp only [va_up, if_neg this]
    have g := kk (va_up ad (hN h) q) H1 locs ms w2 (lH_up hup ol lh) ⟨Nat.lt_succ_self _, okS_le (Nat.le_succ _) os⟩ (okL_le (Nat.le_succ _) ol)
    rw [List.map_cons, tv_upS hup os] at g
    simp only [tv, va_up, if_true] at g
    exact g
def atF : Nat → FieldType
  | 10 => .byte
  | 11 => .int
  | _ => .long
theorem V_newa (F : qFx p R s m args meth c M dC dI cB cI cJ ek adK adV A) {u : Nat × Nat} {pc : Nat} {t : ArrayType} {n : Int32} {ls : qL} {st : List Value} {h : qH} (hd : decode (mB M) pc = .ok (.newarray t, 2)) (hk : akd t = some (kd (hN h)).1) (hn : ¬ n < 0) (hn2 : n.toNatClampNeg = (kd (hN h)).2) (hb : (kd (hN h)).2 ≤ 60000) (h1 : u.1 + 1 ≤ mC M) (h2 : u.2 + (kd (hN h)).2 ≤ mS M) (kk : VV p l e R s m args below meth c Q M dC dI cB cI cJ ek A ad0 h0 (u.1 + 1, u.2 + (kd (hN h)).2) (pc + 2) ls (.ref (hN h) :: st) (wN h)) : VV p l e R s m args below meth c Q M dC dI cB cI cJ ek A ad0 h0 u pc ls (.int n :: st) h := by
  intro ad H locs ms w lh os ol
  have hup : ∀ q a, a < hN h → va_up ad (hN h) q a = ad a := fun q a ha => by
    have : a ≠ hN h := by omega
    simp only [va_up, if_neg this]
  have fin : ∀ (q : Nat) (H1 : Heap), qWd s dC dI cB cI cJ A ad0 h0 (va_up ad (hN h) q) (wN h) H1 locs → W p l e R s m args below meth c H1 locs (u.1 + 1) (u.2 + (kd (hN h)).2) Q (F0 m (pc + 2) ms (.ref q :: st.map (tv ek ad))) := by
    intro q H1 w2
    have g := kk (va_up ad (hN h) q) H1 locs ms w2 (lH_up (hup q) ol lh) ⟨Nat.lt_succ_self _, okS_le (Nat.le_succ _) os.2⟩ (okL_le (Nat.le_succ _) ol)
    rw [List.map_cons, tv_upS (hup q) os.2] at g
    simp only [tv, va_up, if_true] at g
    exact g
  have hK := F.2.2.2.2.2.1
  cases t with
  | byte =>
    have hk' : (kd (hN h)).1 = 10 := by simpa [akd] using hk.symm
    refine va_newa (atype := .byte) (a0 := ((kd (hN h)).2, .inl (fun _ => 0))) F.1 F.2.1 (F.2.2.2.2.1 _ (WT_in (ar_w .byte (by simp)).1 (ar_w .byte (by simp)).2)) rfl hK w.1 w.2.1 w.2.2.1 F.2.2.2.2.2.2.1 (fun cA => rfl) hn hn2 (by show _ * 1 ≤ _; omega) (by have := F.2.2.2.2.2.2.2.2.2.2.2.2.1; omega) (by have := F.2.2.2.2.2.2.2.2.2.2.2.2.2; omega) hd (fun q cA H1 hK2 hP hD hS => ?_)
    have e1 : s.vm.findClass ("[" ++ (FieldType.byte).toString) = some cA := (hK2.2 3 (cA, .byte) rfl).2
    have e2 : s.vm.findClass ("[" ++ (FieldType.byte).toString) = some cB := (hK.2 0 (cB, .byte) rfl).2
    cases e1.symm.trans e2
    exact fin q H1 (qWd_push w hP hD hS (by rw [qcel_10 hk', hI_wNn]) (kd_lt (by omega)))
  | int =>
    have hk' : (kd (hN h)).1 = 11 := by simpa [akd] using hk.symm
    refine va_newa (atype := .int) (a0 := ((kd (hN h)).2, .inl (fun _ => 0))) F.1 F.2.1 (F.2.2.2.2.1 _ (WT_in (ar_w .int (by simp)).1 (ar_w .int (by simp)).2)) rfl hK w.1 w.2.1 w.2.2.1 F.2.2.2.2.2.2.1 (fun cA => rfl) hn hn2 (by show _ * 4 ≤ _; omega) (by have := F.2.2.2.2.2.2.2.2.2.2.2.2.1; omega) (by have := F.2.2.2.2.2.2.2.2.2.2.2.2.2; omega) hd (fun q cA H1 hK2 hP hD hS => ?_)
    have e1 : s.vm.findClass ("[" ++ (FieldType.int).toString) = some cA := (hK2.2 3 (cA, .int) rfl).2
    have e2 : s.vm.findClass ("[" ++ (FieldType.int).toString) = some cI := (hK.2 1 (cI, .int) rfl).2
    cases e1.symm.trans e2
    exact fin q H1 (qWd_push w hP hD hS (by rw [qcel_11 hk', hI_wNn]) (kd_lt (by omega)))
  | long =>
    have hk' : (kd (hN h)).1 = 12 := by simpa [akd] using hk.symm
    refine va_newa (atype := .long) (a0 := ((kd (hN h)).2, .inr (.inl (fun _ => 0)))) F.1 F.2.1 (F.2.2.2.2.1 _ (WT_in (ar_w .long (by simp)).1 (ar_w .long (by simp)).2)) rfl hK w.1 w.2.1 w.2.2.1 F.2.2.2.2.2.2.1 (fun cA => rfl) hn hn2 (by show _ * 8 ≤ _; omega) (by have := F.2.2.2.2.2.2.2.2.2.2.2.2.1; omega) (by have := F.2.2.2.2.2.2.2.2.2.2.2.2.2; omega) hd (fun q cA H1 hK2 hP hD hS => ?_)
    have e1 : s.vm.findClass ("[" ++ (FieldType.long).toString) = some cA := (hK2.2 3 (cA, .long) rfl).2
    have e2 : s.vm.findClass ("[" ++ (FieldType.long).toString) = some cJ := (hK.2 2 (cJ, .long) rfl).2
    cases e1.symm.trans e2
    exact fin q H1 (qWd_push w hP hD hS (by rw [qcel_12 hk', hJ_wNn]) (kd_lt (by omega)))
  | _ => simp [akd] at hk
theorem V_copy (F : qFx p R s m args meth c M dC dI cB cI cJ ek adK adV A) (hfr : 1 ≤ R.frames) (hlo : 60 ≤ R.locals) {u : Nat × Nat} {pc k a b : Nat} {N : qM} {n sp dp : Int32} {ls : qL} {h : qH} (hd : decode (mB M) pc = .ok (.invokestatic k, 3)) (hl : mlF ml14T (mO M) k = some N) (ha : (kd a).1 = 11) (hb : (kd b).1 = 11) (h1 : ¬ sp < 0) (h2 : ¬ dp < 0) (h3 : ¬ n < 0) (h4 : sp.toNatClampNeg + n.toNatClampNeg ≤ (kd b).2) (h5 : dp.toNatClampNeg + n.toNatClampNeg ≤ (kd a).2) (kk : VV p l e R s m args below meth c Q M dC dI cB cI cJ ek A ad0 h0 u (pc + 3) ls [] (wI h a (va_cpy (hI h b) (hI h a) sp.toNatClampNeg dp.toNatClampNeg n.toNatClampNeg))) : VV p l e R s m args below meth c Q M dC dI cB cI cJ ek A ad0 h0 u pc ls [.int n, .int dp, .ref a, .int sp, .ref b] h := by
  intro ad H locs ms w lh os ol
  have hea := qw_at (cB := cB) (cI := cI) (cJ := cJ) (ad := ad) os.2.2.1
  have heb := qw_at (cB := cB) (cI := cI) (cJ := cJ) (ad := ad) os.2.2.2.2.1
  rw [qcel_11 ha] at hea
  rw [qcel_11 hb] at heb
  have hm := mlF_mem hl
  have g0 := ml10_g
  simp only [Bool.and_eq_true] at g0
  have hlk := F.2.2.2.2.1 _ (WT_in (pos_mem (w := fun e : (Nat × Nat) × qM => Cond.methodLink (nmC e.1.1) e.1.2 arraycopyName) ml14_w hm) (List.all_eq_true.mp g0.1.1.1.1.1.2 _ hm))
  refine va_copyi F.1 F.2.1 (by rw [F.2.2.1]; exact lh.2.1.symm) F.2.2.2.1 hlk (F.2.2.2.2.1 _ (WT_in jd_w.2.1.1 jd_w.2.1.2)) (F.2.2.2.2.1 _ (WT_in jd_w.2.2.1.1 jd_w.2.2.1.2)) (F.2.2.2.2.1 _ (WT_in jd_w.2.2.2.1 jd_w.2.2.2.2)) F.2.2.2.2.2.1 w.1 w.2.1 w.2.2.1 b a 1 1 (ty := .int) heb hea rfl rfl rfl h1 h2 h3 h4 h5 (fun _ _ => rfl) hfr (by simpa using (show nativeFrameWords "java/lang/System" "arraycopy" 5 + 11 ≤ R.locals from Nat.le_trans (by decide +kernel) hlo)) hd (fun H1 locs1 hP hD hS => kk ad H1 locs1 ms (qWd_set w hP hD hS ?_ rfl (fun b hb => qcel_I hb) w.2.2.2.1 (fun b q => ?_)) lh trivial ol)
  · rw [qcel_11 ha, hI_wI, if_pos rfl]
  · rw [hI_wI, if_neg]
    have := kd_lt (a := a) (by omega)
    omega
theorem V_objI (F : qFx p R s m args meth c M dC dI cB cI cJ ek adK adV A) (hfr : 1 ≤ R.frames) (hlo : 60 ≤ R.locals) {u : Nat × Nat} {pc k a : Nat} {N : qM} {ls : qL} {h : qH} (hd : decode (mB M) pc = .ok (.invokespecial k, 3)) (hl : mlF ml10T (mO M) k = some N) (kk : VV p l e R s m args below meth c Q M dC dI cB cI cJ ek A ad0 h0 u (pc + 3) ls [] h) : VV p l e R s m args below meth c Q M dC dI cB cI cJ ek A ad0 h0 u pc ls [.ref a] h := by
  intro ad H locs ms w lh os ol
  have hm := mlF_mem hl
  have g0 := ml10_g
  simp only [Bool.and_eq_true] at g0
  have hlk := F.2.2.2.2.1 _ (WT_in (pos_mem (w := fun e : (Nat × Nat) × qM => Cond.methodLink (nmC e.1.1) e.1.2 objectInit) ml10_w hm) (List.all_eq_true.mp g0.1.1.1.1.1.1 _ hm))
  have hc := F.2.2.2.2.1 _ (WT_in (pos_mem (w := id) mm_c (e := Cond.code objectInit ⟨#[0xb1]⟩ 1 none) (by simp)) (mm_g _ (by simp)))
  exact W.objInit F.1 F.2.1 F.2.2.2.1 hlk (F.2.2.2.2.1 _ (WT_in jd_w.1.1 jd_w.1.2)) hc rfl (by show ms.size = _; rw [lh.2.1, F.2.2.1]) rfl hd hfr (by show 2 * 0 + 0 + 12 ≤ _; omega) (kk ad H locs ms w lh trivial ol)
theorem V_max (F : qFx p R s m args meth c M dC dI cB cI cJ ek adK adV A) (hfr : 1 ≤ R.frames) (hlo : 60 ≤ R.locals) {u : Nat × Nat} {pc k : Nat} {x y : Int32} {N : qM} {ls : qL} {st : List Value} {h : qH} (hd : decode (mB M) pc = .ok (.invokestatic k, 3)) (hl : mlF ml11T (mO M) k = some N) (h1 : u.1 ≤ mC M) (h2 : u.2 ≤ mS M) (h3 : (st.map fun v => v.category).sum ≤ 8) (kk : VV p l e R s m args below meth c Q M dC dI cB cI cJ ek A ad0 h0 u (pc + 3) ls (.int (if x < y then y else x) :: st) h) : VV p l e R s m args below meth c Q M dC dI cB cI cJ ek A ad0 h0 u pc ls (.int y :: .int x :: st) h := by
  intro ad H locs ms w lh os ol
  have hm := mlF_mem hl
  have g0 := ml10_g
  simp only [Bool.and_eq_true] at g0
  have hlk := F.2.2.2.2.1 _ (WT_in (pos_mem (w := fun e : (Nat × Nat) × qM => Cond.methodLink (nmC e.1.1) e.1.2 Lib.Math.max.name) ml11_w hm) (List.all_eq_true.mp g0.1.2 _ hm))
  have hc := F.2.2.2.2.1 _ (WT_in (pos_mem (w := id) mm_c (e := Cond.code Lib.Math.max.name Lib.Math.max.code 2 (some .int)) (by simp)) (mm_g _ (by simp)))
  exact va_mmax F.1 F.2.1 (by rw [F.2.2.1]; exact lh.2.1.symm) F.2.2.2.1 hlk (F.2.2.2.2.1 _ (WT_in (mm_w _ (by simp)).1 (mm_w _ (by simp)).2)) (F.2.2.2.2.1 _ (WT_in (mm_w _ (by simp)).1 (mm_w _ (by simp)).2)) hc hfr (by rw [tv_catS F.2.2.2.2.2.2.2.2.2.2.2.1.1]; omega) (Nat.le_trans h1 F.2.2.2.2.2.2.2.2.2.2.2.2.1) (Nat.le_trans h2 F.2.2.2.2.2.2.2.2.2.2.2.2.2) hd (kk ad H locs ms w lh ⟨trivial, os.2.2⟩ ol)
theorem V_min (F : qFx p R s m args meth c M dC dI cB cI cJ ek adK adV A) (hfr : 1 ≤ R.frames) (hlo : 60 ≤ R.locals) {u : Nat × Nat} {pc k : Nat} {x y : Int32} {N : qM} {ls : qL} {st : List Value} {h : qH} (hd : decode (mB M) pc = .ok (.invokestatic k, 3)) (hl : mlF ml12T (mO M) k = some N) (h1 : u.1 ≤ mC M) (h2 : u.2 ≤ mS M) (h3 : (st.map fun v => v.category).sum ≤ 8) (kk : VV p l e R s m args below meth c Q M dC dI cB cI cJ ek A ad0 h0 u (pc + 3) ls (.int (if y < x then y else x) :: st) h) : VV p l e R s m args below meth c Q M dC dI cB cI cJ ek A ad0 h0 u pc ls (.int y :: .int x :: st) h := by
  intro ad H locs ms w lh os ol
  have hm := mlF_mem hl
  have g0 := ml10_g
  simp only [Bool.and_eq_true] at g0
  have hlk := F.2.2.2.2.1 _ (WT_in (pos_mem (w := fun e : (Nat × Nat) × qM => Cond.methodLink (nmC e.1.1) e.1.2 Lib.Math.min.name) ml12_w hm) (List.all_eq_true.mp (of_decide_eq_true g0.2) _ hm))
  have hc := F.2.2.2.2.1 _ (WT_in (pos_mem (w := id) mm_c (e := Cond.code Lib.Math.min.name Lib.Math.min.code 2 (some .int)) (by simp)) (mm_g _ (by simp)))
  exact va_mmin F.1 F.2.1 (by rw [F.2.2.1]; exact lh.2.1.symm) F.2.2.2.1 hlk (F.2.2.2.2.1 _ (WT_in (mm_w _ (by simp)).1 (mm_w _ (by simp)).2)) (F.2.2.2.2.1 _ (WT_in (mm_w _ (by simp)).1 (mm_w _ (by simp)).2)) hc hfr (by rw [tv_catS F.2.2.2.2.2.2.2.2.2.2.2.1.1]; omega) (Nat.le_trans h1 F.2.2.2.2.2.2.2.2.2.2.2.2.1) (Nat.le_trans h2 F.2.2.2.2.2.2.2.2.2.2.2.2.2) hd (kk ad H locs ms w lh ⟨trivial, os.2.2⟩ ol)
end
