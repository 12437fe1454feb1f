/-! ===== fields, arrays, new cells ===== -/
theorem pos_mem {α : Type} {L : List α} {w : α → Cond} {P : List Nat} {tbl : List Cond} (h : L.map (fun e => some (w e)) = P.map (fun i => tbl[i]?)) {e : α} (he : e ∈ L) : w e ∈ tbl := by
  have h1 : some (w e) ∈ L.map (fun e => some (w e)) := List.mem_map.mpr ⟨e, he, rfl⟩
  rw [h] at h1
  obtain ⟨i, -, hi⟩ := List.mem_map.mp h1
  exact List.mem_of_getElem? hi
theorem mlF_mem {L : List ((Nat × Nat) × qM)} {o k : Nat} {N : qM} (h : mlF L o k = some N) : ((o, k), N) ∈ L := by
  unfold mlF at h
  cases hf : L.find? (fun e => e.1 == (o, k)) with
  | none => rw [hf] at h; cases h
  | some e =>
    rw [hf] at h
    have h1 := List.find?_some hf
    have h2 := List.mem_of_find?_eq_some hf
    have h3 : e.1 = (o, k) := by simpa using h1
    have h4 : e.2 = N := by simpa using h
    rw [← h3, ← h4]
    exact h2
theorem fl_spec {o k ci f : Nat} {n : Bool} (h : fl o k = some (ci, f, n)) : ci < 10 ∧ f < nFT ci ∧ (tTT ci f).1 = nmC ci ∧ ((n = false ∧ Cond.fieldLink (nmC o) k (nmC ci) (tTT ci f).2.1 (tTT ci f).2.2.1 ∈ WT) ∨ (n = true ∧ ((o, k), ci, f) ∈ fnT)) := by
  unfold fl at h
  cases hf : flT.find? (fun e => e.1 == (o, k)) with
  | some e =>
    rw [hf] at h
    simp only [Option.some.injEq, Prod.mk.injEq] at h
    obtain ⟨rfl, rfl, rfl⟩ := h
    have h1 : e.1 = (o, k) := by simpa using List.find?_some hf
    have h2 := List.mem_of_find?_eq_some hf
    have h3 := List.all_eq_true.mp flT_g e h2
    simp only [Bool.and_eq_true, decide_eq_true_eq] at h3
    refine ⟨h3.1.2, h3.1.1.2, h3.2, Or.inl ⟨rfl, ?_⟩⟩
    have h4 := WT_in (pos_mem flT_w h2) h3.1.1.1
    unfold flW at h4
    rw [h1] at h4
    exact h4
  | none =>
    rw [hf] at h
    cases hg : fnT.find? (fun e => e.1 == (o, k)) with
    | none => rw [hg] at h; cases h
    | some e =>
      rw [hg] at h
      simp only [Option.map_some, Option.some.injEq, Prod.mk.injEq] at h
      obtain ⟨rfl, rfl, rfl⟩ := h
      have h1 : e.1 = (o, k) := by simpa using List.find?_some hg
      have h2 := List.mem_of_find?_eq_some hg
      have h3 := List.all_eq_true.mp fnT_g e h2
      simp only [Bool.and_eq_true, decide_eq_true_eq] at h3
      refine ⟨h3.1.2, h3.1.1, h3.2, Or.inr ⟨rfl, ?_⟩⟩
      rw [← h1]
      exact h2
theorem lt10 {P : Nat → Prop} (h0 : P 0) (h1 : P 1) (h2 : P 2) (h3 : P 3) (h4 : P 4) (h5 : P 5) (h6 : P 6) (h7 : P 7) (h8 : P 8) (h9 : P 9) {i : Nat} (hi : i < 10) : P i := by
  rcases (show i = 0 ∨ i = 1 ∨ i = 2 ∨ i = 3 ∨ i = 4 ∨ i = 5 ∨ i = 6 ∨ i = 7 ∨ i = 8 ∨ i = 9 by omega) with rfl | rfl | rfl | rfl | rfl | rfl | rfl | rfl | rfl | rfl <;> assumption
theorem vw_at {i : Nat} (hi : i < 10) : vwCl[i]? = some (nmC i, tTT i, nFT i) := lt10 (P := fun i => vwCl[i]? = some (nmC i, tTT i, nFT i)) rfl rfl rfl rfl rfl rfl rfl rfl rfl rfl hi
theorem uw_in {i : Nat} (hi : i < 10) : ∀ w ∈ u_ws (nmC i) (tTT i) (nFT i), w ∈ WT := lt10 (P := fun i => ∀ w ∈ u_ws (nmC i) (tTT i) (nFT i), w ∈ WT) (fun w h => WT_in (qin0 w h).1 (qin0 w h).2) (fun w h => WT_in (qin1 w h).1 (qin1 w h).2) (fun w h => WT_in (qin2 w h).1 (qin2 w h).2) (fun w h => WT_in (qin3 w h).1 (qin3 w h).2) (fun w h => WT_in (qin4 w h).1 (qin4 w h).2) (fun w h => WT_in (qin5 w h).1 (qin5 w h).2) (fun w h => WT_in (qin6 w h).1 (qin6 w h).2) (fun w h => WT_in (qin7 w h).1 (qin7 w h).2) (fun w h => WT_in (qin8 w h).1 (qin8 w h).2) (fun w h => WT_in (qin9 w h).1 (qin9 w h).2) hi
theorem ty_ok {i : Nat} (hi : i < 10) : ∀ k, k < nFT i → parseFieldDescriptor (tTT i k).2.2.1 = some (fTT i k) := lt10 (P := fun i => ∀ k, k < nFT i → parseFieldDescriptor (tTT i k).2.2.1 = some (fTT i k)) tyX0_ok tyX1_ok tyX2_ok tyX3_ok tyX4_ok tyX5_ok tyX6_ok tyX7_ok tyX8_ok tyX9_ok hi
theorem nm_ok {i : Nat} (hi : i < 10) : ∀ a, a < nFT i → ∀ b, b < nFT i → a ≠ b → (tTT i a).2.1 ≠ (tTT i b).2.1 := lt10 (P := fun i => ∀ a, a < nFT i → ∀ b, b < nFT i → a ≠ b → (tTT i a).2.1 ≠ (tTT i b).2.1) nmX0 nmX1 nmX2 nmX3 nmX4 nmX5 nmX6 nmX7 nmX8 nmX9 hi
def okT : FieldType → Bool
  | .int | .boolean | .long | .object _ | .array _ => true
  | _ => false
theorem okT_ok {i : Nat} (hi : i < 10) : ∀ k, k < nFT i → okT (fTT i k) = true := lt10 (P := fun i => ∀ k, k < nFT i → okT (fTT i k) = true) (by decide +kernel) (by decide +kernel) (by decide +kernel) (by decide +kernel) (by decide +kernel) (by decide +kernel) (by decide +kernel) (by decide +kernel) (by decide +kernel) (by decide +kernel) hi
theorem kd_lt {a : Nat} (h : (kd a).1 ≤ 12) : a < SCR := by
  rcases Nat.lt_or_ge a SCR with q | q
  · exact q
  · exfalso
    have h1 : ¬ a < 57 := by unfold SCR at q; omega
    have h2 : ¬ a < SCR := by omega
    simp only [kd, if_neg h1, if_neg h2] at h
    omega
theorem okv_fvP {h : qH} (w : hwf h) {a : Nat} (ha : a < hN h) (k : Nat) (t : FieldType) : okv (hN h) (fvP h a k t) := by
  cases t with
  | object _ => simp only [fvP]; cases e : hR h a k with
    | none => trivial
    | some b => exact w a ha k b e
  | array _ => simp only [fvP]; cases e : hR h a k with
    | none => trivial
    | some b => exact w a ha k b e
  | _ => trivial
theorem qcel_obj {cB cI cJ : ClassId} {ad : Nat → Nat} {h : qH} {a ci : Nat} (hk : (kd a).1 = ci) (hc : ci < 10) : qcel cB cI cJ ad h a = .inr (ci, (List.range (nFT ci)).map (fun k => fv ad h a k (fTT ci k))) := by
  subst hk
  simp only [qcel]
  rw [if_neg (by omega), if_neg (by omega), if_neg (by omega)]
section
variable {p : Program} {l : Launch} {e : Env} {R : Room} {s : State} {m : MethodId} {args : Array Value} {below : List Frame} {meth : Method} {c : Code} {Q : State → Prop} {M : qM}
variable {dC : Nat → ClassId} {dI : Nat → Nat → Nat} {cB cI cJ : ClassId} {ek : Nat → Value} {adK adV : Nat → Nat} {A : Nat → Prop} {ad0 : Nat → Nat} {h0 : qH}
theorem V_get (F : qFx p R s m args meth c M dC dI cB cI cJ ek adK adV A) {u : Nat × Nat} {pc k a ci f : Nat} {n : Bool} {ls : qL} {st : List Value} {h : qH} (hd : decode (mB M) pc = .ok (.getfield k, 3)) (hf : fl (mO M) k = some (ci, f, n)) (hk : (kd a).1 = ci) (kk : VV p l e R s m args below meth c Q M dC dI cB cI cJ ek A ad0 h0 u (pc + 3) ls (fvP h a f (fTT ci f) :: st) h) : VV p l e R s m args below meth c Q M dC dI cB cI cJ ek A ad0 h0 u pc ls (.ref a :: st) h := by
  intro ad H locs ms w lh os ol
  obtain ⟨hc, hfn, hdc, hw⟩ := fl_spec hf
  have ha : a < hN h := os.1
  have he := qw_at (cB := cB) (cI := cI) (cJ := cJ) (ad := ad) ha
  rw [qcel_obj hk hc] at he
  have hv : ((List.range (nFT ci)).map (fun k => fv ad h a k (fTT ci k)))[f]? = some (fv ad h a f (fTT ci f)) := by simp [hfn]
  have g := kk ad H locs ms w lh ⟨okv_fvP w.2.2.2.1 ha _ _, os.2⟩ ol
  rw [List.map_cons, fv_tv] at g
  rcases hw with ⟨-, hw⟩ | ⟨-, hw⟩
  · exact va_get F.1 F.2.1 (Ts := WT) F.2.2.2.2.1 (uw_in hc) F.2.2.2.1 F.2.2.2.2.2.1 w.1 a he (vw_at hc) f hfn (F.2.2.2.2.1 _ hw) (fun _ q => by rw [← hdc]; exact q) hv hd g
  · exact va_getN (host := RX9) F.1 F.2.1 (Ts := WT) F.2.2.2.2.1 (uw_in hc) F.2.2.2.1 F.2.2.2.2.2.1 w.1 a he (vw_at hc) f hfn (va_Nw.use rfl (F.2.2.2.2.2.2.2.2.2.2.1.2.2.1 _ hw)) (fun _ q => by rw [← hdc]; exact q) hv hd g
/-- a cell has changed -/
theorem qWd_set {ad : Nat → Nat} {h h1 : qH} {H H1 : Heap} {locs locs1 : List Loc} {a : Nat} {E : va_E} (w : qWd s dC dI cB cI cJ A ad0 h0 ad h H locs) (hP : va_P (dC, dI) vwCl ((qw cB cI cJ ad h).set a (ad a, E)) H1) (hD : va_D A ((qw cB cI cJ ad h).set a (ad a, E))) (hS : va_S A s.heap H1 locs1) (hE : E = qcel cB cI cJ ad h1 a) (hn : hN h1 = hN h) (hb : ∀ b, b ≠ a → qcel cB cI cJ ad h1 b = qcel cB cI cJ ad h b) (hw : hwf h1) (hs : ∀ b, SCR ≤ b → hI h1 b = hI h b) : qWd s dC dI cB cI cJ A ad0 h0 ad h1 H1 locs1 := by
  subst hE
  rw [qw_set hn hb] at hP hD
  exact ⟨hP, hD, hS, hw, by rw [hn]; exact w.2.2.2.2.1, w.2.2.2.2.2.1, fun b q => (hs b q).trans (w.2.2.2.2.2.2 b q)⟩
theorem hI_wI {h : qH} {a b : Nat} {f : Nat → Int32} : hI (wI h a f) b = if b = a then f else hI h b := by
  simp only [hI, wI, va_up]
theorem hJ_wJ {h : qH} {a b : Nat} {f : Nat → Int64} : hJ (wJ h a f) b = if b = a then f else hJ h b := by
  simp only [hJ, wJ, va_up]
theorem hR_wR {h : qH} {a b : Nat} {f : Nat → Option Nat} : hR (wR h a f) b = if b = a then f else hR h b := by
  simp only [hR, wR, va_up]
theorem rng_set {f g : Nat → Value} {n k : Nat} {v : Value} (hk : k < n) (h1 : g k = v) (h2 : ∀ j, j ≠ k → g j = f j) : ((List.range n).map f).set k v = (List.range n).map g := by
  apply List.ext_getElem?
  intro i
  by_cases hi : i < n
  · by_cases hik : i = k
    · subst hik
      rw [List.getElem?_set_self (by simpa using hi)]
      simp [hi, h1]
    · rw [List.getElem?_set_ne (Ne.symm hik)]
      simp [hi, h2 i hik]
  · rw [List.getElem?_eq_none (by simp; omega), List.getElem?_eq_none (by simp; omega)]
/-- what a field's setting does -/
theorem sfP_spec {h h1 : qH} {a f : Nat} {t : FieldType} {v : Value} (e : sfP h a f t v = some h1) (hw : hwf h) (ha : a < hN h) (hv : okv (hN h) v) (ha2 : a < SCR) (ek : Nat → Value) (ad : Nat → Nat) :
    hN h1 = hN h ∧ hwf h1 ∧ (∀ b, SCR ≤ b → hI h1 b = hI h b) ∧ (∀ cB cI cJ b, b ≠ a → qcel cB cI cJ ad h1 b = qcel cB cI cJ ad h b) ∧ narrow t (tv ek ad v) = tv ek ad v ∧ fits t (tv ek ad v) = true ∧ (fv ad h1 a f t = tv ek ad v) ∧ ∀ j, j ≠ f → ∀ t', fv ad h1 a j t' = fv ad h a j t' := by
  unfold sfP at e
  split at e
  · rename_i x
    cases e
    refine ⟨rfl, hw, fun b _ => rfl, fun cB cI cJ b hb => qcel_J hb, rfl, rfl, ?_, fun j hj t' => ?_⟩
    · simp only [fv, hJ_wJ, if_true, vp_updL, tv]
    · simp only [fv, hJ_wJ, if_true, vp_updL, if_neg hj]
      rfl
  · rename_i x b
    cases e
    refine ⟨rfl, ?_, fun b _ => rfl, fun cB cI cJ b hb => qcel_R hb, rfl, rfl, ?_, fun j hj t' => ?_⟩
    · intro z hz k q hq
      rw [hR_wR] at hq
      split at hq
      · simp only [va_up] at hq
        split at hq
        · cases hq; exact hv
        · exact hw a ha k q hq
      · exact hw z hz k q hq
    · simp only [fv, hR_wR, if_true, va_up, Option.map_some, va_rf, tv]
    · simp only [fv, hR_wR, if_true, va_up, if_neg hj]
      rfl
  · rename_i x b
    cases e
    refine ⟨rfl, ?_, fun b _ => rfl, fun cB cI cJ b hb => qcel_R hb, rfl, rfl, ?_, fun j hj t' => ?_⟩
    · intro z hz k q hq
      rw [hR_wR] at hq
      split at hq
      · simp only [va_up] at hq
        split at hq
        · cases hq; exact hv
        · exact hw a ha k q hq
      · exact hw z hz k q hq
    · simp only [fv, hR_wR, if_true, va_up, Option.map_some, va_rf, tv]
    · simp only [fv, hR_wR, if_true, va_up, if_neg hj]
      rfl
  · rename_i x
    cases e
    refine ⟨rfl, hw, fun b q => by rw [hI_wI, if_neg (by omega)], fun cB cI cJ b hb => qcel_I hb, rfl, rfl, ?_, fun j hj t' => ?_⟩
    · simp only [fv, hI_wI, if_true, upd, tv]
    · simp only [fv, hI_wI, if_true, upd, if_neg hj]
      rfl
  · rename_i x
    split at e
    · rename_i hx
      cases e
      refine ⟨rfl, hw, fun b q => by rw [hI_wI, if_neg (by omega)], fun cB cI cJ b hb => qcel_I hb, ?_, ?_, ?_, fun j hj t' => ?_⟩
      · rcases hx with rfl | rfl <;> rfl
      · rcases hx with rfl | rfl <;> rfl
      · simp only [fv, hI_wI, if_true, upd, tv]
      · simp only [fv, hI_wI, if_true, upd, if_neg hj]
        rfl
    · cases e
  · cases e
theorem V_put (F : qFx p R s m args meth c M dC dI cB cI cJ ek adK adV A) {u : Nat × Nat} {pc k a ci f : Nat} {n : Bool} {ls : qL} {st : List Value} {h h1 : qH} {v : Value} (hd : decode (mB M) pc = .ok (.putfield k, 3)) (hf : fl (mO M) k = some (ci, f, n)) (hk : (kd a).1 = ci) (hfin : (tTT ci f).2.2.2 = false ∨ (n = false ∧ (mY M).name = "<init>" ∧ nmC ci = nmC (mO M))) (hs : sfP h a f (fTT ci f) v = some h1) (kk : VV p l e R s m args below meth c Q M dC dI cB cI cJ ek A ad0 h0 u (pc + 3) ls st h1) : VV p l e R s m args below meth c Q M dC dI cB cI cJ ek A ad0 h0 u pc ls (v :: .ref a :: st) h := by
  intro ad H locs ms w lh os ol
  obtain ⟨hc, hfn, hdc, hw⟩ := fl_spec hf
  have ha : a < hN h := os.2.1
  have he := qw_at (cB := cB) (cI := cI) (cJ := cJ) (ad := ad) ha
  rw [qcel_obj hk hc] at he
  obtain ⟨e1, e2, e3, e4, e5, e6, e7, e8⟩ := sfP_spec hs w.2.2.2.1 ha os.1 (kd_lt (by omega)) ek ad
  have hE : (.inr (ci, ((List.range (nFT ci)).map (fun k => fv ad h a k (fTT ci k))).set f (tv ek ad v)) : va_E) = qcel cB cI cJ ad h1 a := by
    rw [qcel_obj hk hc, rng_set hfn e7 (fun j hj => e8 j hj _)]
  have g : ∀ (H1 : Heap) (locs1 : List Loc), va_P (dC, dI) vwCl ((qw cB cI cJ ad h).set a (ad a, .inr (ci, ((List.range (nFT ci)).map (fun k => fv ad h a k (fTT ci k))).set f (tv ek ad v)))) H1 → va_D A ((qw cB cI cJ ad h).set a (ad a, .inr (ci, ((List.range (nFT ci)).map (fun k => fv ad h a k (fTT ci k))).set f (tv ek ad v)))) → va_S A s.heap H1 locs1 → W p l e R s m args below meth c H1 locs1 u.1 u.2 Q (F0 m (pc + 3) ms (st.map (tv ek ad))) :=
    fun H1 locs1 hP hD hS => kk ad H1 locs1 ms (qWd_set w hP hD hS hE e1 (e4 cB cI cJ) e2 e3) lh (by rw [e1]; exact os.2.2) (by rw [e1]; exact ol)
  rcases hw with ⟨-, hw⟩ | ⟨hn, hw⟩
  · cases hq : (tTT ci f).2.2.2 with
    | false => exact va_put F.1 F.2.1 (Ts := WT) F.2.2.2.2.1 (uw_in hc) (fTT ci) (ty_ok hc) (nm_ok hc) F.2.2.2.1 F.2.2.2.2.2.1 w.1 w.2.1 w.2.2.1 a he (vw_at hc) f hfn (F.2.2.2.2.1 _ hw) (fun _ q => by rw [← hdc]; exact q) hq (ty_ok hc f hfn) e5 e6 (by simpa using hfn) hd g
    | true =>
      rcases hfin with q | ⟨-, q1, q2⟩
      · rw [hq] at q; cases q
      · exact va_putF F.1 F.2.1 (Ts := WT) F.2.2.2.2.1 (uw_in hc) (fTT ci) (ty_ok hc) (nm_ok hc) F.2.2.2.1 F.2.2.2.2.2.1 w.1 w.2.1 w.2.2.1 a he (vw_at hc) f hfn (F.2.2.2.2.1 _ hw) (fun _ q => by rw [← hdc]; exact q) hq (by rw [F.2.2.2.2.2.2.2.2.2.1]; exact q1) (by rw [hdc]; exact q2) (ty_ok hc f hfn) e5 e6 (by simpa using hfn) hd g
  · rcases hfin with q | ⟨q, -, -⟩
    · exact va_putN (host := RX9) F.1 F.2.1 (Ts := WT) F.2.2.2.2.1 (uw_in hc) (fTT ci) (ty_ok hc) (nm_ok hc) F.2.2.2.1 F.2.2.2.2.2.1 w.1 w.2.1 w.2.2.1 a he (vw_at hc) f hfn (va_Nw.use rfl (F.2.2.2.2.2.2.2.2.2.2.1.2.2.1 _ hw)) (fun _ q => by rw [← hdc]; exact q) q (ty_ok hc f hfn) e5 e6 (by simpa using hfn) hd g
    · rw [hn] at q; cases q
theorem V_iald (F : qFx p R s m args meth c M dC dI cB cI cJ ek adK adV A) {u : Nat × Nat} {pc a : Nat} {i : Int32} {ls : qL} {st : List Value} {h : qH} (hd : decode (mB M) pc = .ok (.iaload, 1)) (hk : (kd a).1 = 11) (hi : vp_in i (kd a).2) (kk : VV p l e R s m args below meth c Q M dC dI cB cI cJ ek A ad0 h0 u (pc + 1) ls (.int (hI h a i.toNatClampNeg) :: st) h) : VV p l e R s m args below meth c Q M dC dI cB cI cJ ek A ad0 h0 u pc ls (.int i :: .ref a :: st) h := by
  intro ad H locs ms w lh os ol
  have he := qw_at (cB := cB) (cI := cI) (cJ := cJ) (ad := ad) os.2.1
  simp only [qcel, hk] at he
  exact va_iald F.1 F.2.1 F.2.2.2.2.2.1 w.1 a 1 (by simpa using he) rfl hi hd (kk ad H locs ms w lh ⟨trivial, os.2.2⟩ ol)
theorem V_bald (F : qFx p R s m args meth c M dC dI cB cI cJ ek adK adV A) {u : Nat × Nat} {pc a : Nat} {i : Int32} {ls : qL} {st : List Value} {h : qH} (hd : decode (mB M) pc = .ok (.baload, 1)) (hk : (kd a).1 = 10) (hi : vp_in i (kd a).2) (kk : VV p l e R s m args below meth c Q M dC dI cB cI cJ ek A ad0 h0 u (pc + 1) ls (.int (hI h a i.toNatClampNeg) :: st) h) : VV p l e R s m args below meth c Q M dC dI cB cI cJ ek A ad0 h0 u pc ls (.int i :: .ref a :: st) h := by
  intro ad H locs ms w lh os ol
  have he := qw_at (cB := cB) (cI := cI) (cJ := cJ) (ad := ad) os.2.1
  simp only [qcel, hk] at he
  exact va_bald F.1 F.2.1 F.2.2.2.2.2.1 w.1 a 0 (by simpa using he) rfl hi hd (kk ad H locs ms w lh ⟨trivial, os.2.2⟩ ol)
theorem V_lald (F : qFx p R s m args meth c M dC dI cB cI cJ ek adK adV A) {u : Nat × Nat} {pc a : Nat} {i : Int32} {ls : qL} {st : List Value} {h : qH} (hd : decode (mB M) pc = .ok (.laload, 1)) (hk : (kd a).1 = 12) (hi : vp_in i (kd a).2) (kk : VV p l e R s m args below meth c Q M dC dI cB cI cJ ek A ad0 h0 u (pc + 1) ls (.long (hJ h a i.toNatClampNeg) :: st) h) : VV p l e R s m args below meth c Q M dC dI cB cI cJ ek A ad0 h0 u pc ls (.int i :: .ref a :: st) h := by
  intro ad H locs ms w lh os ol
  have he := qw_at (cB := cB) (cI := cI) (cJ := cJ) (ad := ad) os.2.1
  simp only [qcel, hk] at he
  exact va_lald F.1 F.2.1 F.2.2.2.2.2.1 w.1 a 2 (by simpa using he) rfl hi hd (kk ad H locs ms w lh ⟨trivial, os.2.2⟩ ol)
theorem qcel_11 {ad : Nat → Nat} {h : qH} {a : Nat} (hk : (kd a).1 = 11) : qcel cB cI cJ ad h a = .inl (cI, (kd a).2, .inl (hI h a)) := by simp [qcel, hk]
theorem qcel_10 {ad : Nat → Nat} {h : qH} {a : Nat} (hk : (kd a).1 = 10) : qcel cB cI cJ ad h a = .inl (cB, (kd a).2, .inl (hI h a)) := by simp [qcel, hk]
theorem qcel_12 {ad : Nat → Nat} {h : qH} {a : Nat} (hk : (kd a).1 = 12) : qcel cB cI cJ ad h a = .inl (cJ, (kd a).2, .inr (.inl (hJ h a))) := by simp [qcel, hk]
theorem V_iast (F : qFx p R s m args meth c M dC dI cB cI cJ ek adK adV A) {u : Nat × Nat} {pc a : Nat} {i x : Int32} {ls : qL} {st : List Value} {h : qH} (hd : decode (mB M) pc = .ok (.iastore, 1)) (hk : (kd a).1 = 11) (hi : vp_in i (kd a).2) (kk : VV p l e R s m args below meth c Q M dC dI cB cI cJ ek A ad0 h0 u (pc + 1) ls st (wI h a (upd (hI h a) i.toNatClampNeg x))) : VV p l e R s m args below meth c Q M dC dI cB cI cJ ek A ad0 h0 u pc ls (.int x :: .int i :: .ref a :: st) h := by
  intro ad H locs ms w lh os ol
  have he := qw_at (cB := cB) (cI := cI) (cJ := cJ) (ad := ad) os.2.2.1
  rw [qcel_11 hk] at he
  refine va_iast F.1 F.2.1 F.2.2.2.2.2.1 w.1 w.2.1 w.2.2.1 a 1 he rfl hi hd (fun H1 locs1 hP hD hS => kk ad H1 locs1 ms (qWd_set w hP hD hS ?_ rfl (fun b hb => qcel_I hb) w.2.2.2.1 (fun b q => ?_)) lh os.2.2.2 ol)
  · rw [qcel_11 hk, hI_wI, if_pos rfl]
  · rw [hI_wI, if_neg]
    have := kd_lt (a := a) (by omega)
    omega
theorem V_bast (F : qFx p R s m args meth c M dC dI cB cI cJ ek adK adV A) {u : Nat × Nat} {pc a : Nat} {i x : Int32} {ls : qL} {st : List Value} {h : qH} (hd : decode (mB M) pc = .ok (.bastore, 1)) (hk : (kd a).1 = 10) (hi : vp_in i (kd a).2) (kk : VV p l e R s m args below meth c Q M dC dI cB cI cJ ek A ad0 h0 u (pc + 1) ls st (wI h a (upd (hI h a) i.toNatClampNeg (vp_nar .byte x)))) : VV p l e R s m args below meth c Q M dC dI cB cI cJ ek A ad0 h0 u pc ls (.int x :: .int i :: .ref a :: st) h := by
  intro ad H locs ms w lh os ol
  have he := qw_at (cB := cB) (cI := cI) (cJ := cJ) (ad := ad) os.2.2.1
  rw [qcel_10 hk] at he
  refine va_bast F.1 F.2.1 F.2.2.2.2.2.1 w.1 w.2.1 w.2.2.1 a 0 he rfl hi hd (fun H1 locs1 hP hD hS => kk ad H1 locs1 ms (qWd_set w hP hD hS ?_ rfl (fun b hb => qcel_I hb) w.2.2.2.1 (fun b q => ?_)) lh os.2.2.2 ol)
  · rw [qcel_10 hk, hI_wI, if_pos rfl]
  · rw [hI_wI, if_neg]
    have := kd_lt (a := a) (by omega)
    omega
theorem V_last (F : qFx p R s m args meth c M dC dI cB cI cJ ek adK adV A) {u : Nat × Nat} {pc a : Nat} {i : Int32} {x : Int64} {ls : qL} {st : List Value} {h : qH} (hd : decode (mB M) pc = .ok (.lastore, 1)) (hk : (kd a).1 = 12) (hi : vp_in i (kd a).2) (kk : VV p l e R s m args below meth c Q M dC dI cB cI cJ ek A ad0 h0 u (pc + 1) ls st (wJ h a (vp_updL (hJ h a) i.toNatClampNeg x))) : VV p l e R s m args below meth c Q M dC dI cB cI cJ ek A ad0 h0 u pc ls (.long x :: .int i :: .ref a :: st) h := by
  intro ad H locs ms w lh os ol
  have he := qw_at (cB := cB) (cI := cI) (cJ := cJ) (ad := ad) os.2.2.1
  rw [qcel_12 hk] at he
  refine va_last F.1 F.2.1 F.2.2.2.2.2.1 w.1 w.2.1 w.2.2.1 a 2 he rfl hi hd (fun H1 locs1 hP hD hS => kk ad H1 locs1 ms (qWd_set w hP hD hS ?_ rfl (fun b hb => qcel_J hb) w.2.2.2.1 (fun b q => rfl)) lh os.2.2.2 ol)
  rw [qcel_12 hk, hJ_wJ, if_pos rfl]
theorem V_alen (F : qFx p R s m args meth c M dC dI cB cI cJ ek adK adV A) {u : Nat × Nat} {pc a : Nat} {ls : qL} {st : List Value} {h : qH} (hd : decode (mB M) pc = .ok (.arraylength, 1)) (hk : 10 ≤ (kd a).1 ∧ (kd a).1 ≤ 12) (kk : VV p l e R s m args below meth c Q M dC dI cB cI cJ ek A ad0 h0 u (pc + 1) ls (.int (Int32.ofNat (kd a).2) :: st) h) : VV p l e R s m args below meth c Q M dC dI cB cI cJ ek A ad0 h0 u pc ls (.ref a :: st) h := by
  intro ad H locs ms w lh os ol
  have he := qw_at (cB := cB) (cI := cI) (cJ := cJ) (ad := ad) os.1
  have g := kk ad H locs ms w lh ⟨trivial, os.2⟩ ol
  rcases (show (kd a).1 = 10 ∨ (kd a).1 = 11 ∨ (kd a).1 = 12 by omega) with q | q | q
  · rw [qcel_10 q] at he
    exact va_alen F.1 F.2.1 F.2.2.2.2.2.1 w.1 a 0 he rfl rfl hd g
  · rw [qcel_11 q] at he
    exact va_alen F.1 F.2.1 F.2.2.2.2.2.1 w.1 a 1 he rfl rfl hd g
  · rw [qcel_12 q] at he
    exact va_alen F.1 F.2.1 F.2.2.2.2.2.1 w.1 a 2 he rfl rfl hd g
end
