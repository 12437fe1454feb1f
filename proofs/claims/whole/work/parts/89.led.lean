/-! ===== the law's own led on the machine ===== -/
theorem thO : ∀ w ∈ Cond.classLink RX7 282 tX :: Cond.initialized tX :: thL.filter vx_no, vx_ot w = true := by decide +kernel
theorem thG : ∀ w ∈ (thL.filter vx_no).filter goodWord, w ∈ lw_tbl := by decide +kernel
theorem thB : ∀ w ∈ (thL.filter vx_no).filter (fun w => !goodWord w), w ∈ thW := by decide +kernel
theorem thC : Cond.castable tX tX ∈ thW := by decide +kernel
def isDC : Cond → Bool
  | .declares _ => true
  | .castable _ _ => true
  | _ => false
theorem thW_k : thW.all isDC = true := by decide +kernel
theorem thW_o : thW.all (fun w => w.onTables) = true := by decide +kernel
theorem thW_w {s U : State} (hW : s.WarmedH U.vm) (h : ∀ w ∈ thW, va_Nw w s) : ∀ w ∈ thW, va_Nw w U := by
  intro w hw
  have k := List.all_eq_true.mp thW_k w hw
  cases w <;> first | exact va_Nw.warmD hW (h _ hw) | exact va_Nw.warmC hW (h _ hw) | (simp [isDC] at k)
theorem thW_s {s U : State} (hv : s.vm = U.vm) (h : ∀ w ∈ thW, va_Nw w s) : ∀ w ∈ thW, va_Nw w U := fun w hw => va_Nw.same (List.all_eq_true.mp thW_o w hw) hv (h w hw)
theorem led_w : ∀ w ∈ [Cond.codeWith yL_led cL_led 4 (some .int) [(0, 9, 12, 13)], Cond.static yL_led, Cond.methodLink (nmC 20) 7 (mY mX7_led), Cond.methodLink (nmC 20) 204 yL_led, Cond.classLink (nmC 20) 13 tX, Cond.classLink RX7 282 tX, Cond.initialized tX], w ∈ lw_tbl ∧ goodWord w = true := by decide +kernel
theorem bd_u1 {α : Type} {k : Nat → Reader DecodeError α} {b : ByteArray} {pc : Nat} (q : b.size ≤ pc) : ∃ e, Reader.runAt (Reader.u1 >>= k) b pc = .error e := by
  refine ⟨HasTruncated.truncated pc, ?_⟩
  have e : Reader.runAt (Reader.u1 (ε := DecodeError)) b pc = .error (HasTruncated.truncated pc) := by
    unfold Reader.runAt Reader.u1
    simp only [ReaderT.run, StateT.run, Bind.bind, ReaderT.bind, StateT.bind, Except.bind, MonadReader.read, readThe, MonadReaderOf.read, ReaderT.read, MonadState.get, getThe, MonadStateOf.get, StateT.get, Pure.pure, StateT.pure, Except.pure, liftM, monadLift, MonadLift.monadLift, ReaderT.pure]
    rw [dif_neg (Nat.not_lt.mpr q)]
    rfl
  show (Reader.runAt (Reader.u1 (ε := DecodeError)) b pc >>= fun x => Reader.runAt (k x.1) b x.2) = _
  rw [e]
  rfl
theorem decode_lt {b : ByteArray} {pc : Nat} {x : Instr × Nat} (h : decode b pc = .ok x) : pc < b.size := by
  rcases Nat.lt_or_ge pc b.size with q | q
  · exact q
  · exfalso
    unfold decode at h
    have : ∃ e, Reader.runAt (Decoder.instr pc) b pc = .error e := by
      unfold Decoder.instr
      exact bd_u1 q
    obtain ⟨e, he⟩ := this
    rw [he] at h
    cases h
theorem d51 : ∀ pc, pc < 62 → decode cX7_led pc = .ok (.new 282, 3) → pc = 51 := by decide +kernel
section
variable {p : Program} {l : Launch} {e : Env} {R : Room} {s : State} {m : MethodId} {args : Array Value} {below : List Frame} {meth : Method} {c : Code} {Q : State → Prop} {M : qM}
variable {dC : Nat → ClassId} {dI : Nat → Nat → Nat} {cB cI cJ : ClassId} {ek : Nat → Value} {adK adV : Nat → Nat} {A : Nat → Prop} {ad0 : Nat → Nat} {h0 : qH}
/-- a callee's premise: the world, and what a throw needs -/
def qPreT (dC : Nat → ClassId) (dI : Nat → Nat → Nat) (cB cI cJ : ClassId) (ek : Nat → Value) (adK adV : Nat → Nat) (ad : Nat → Nat) (h : qH) (sz : Nat) (As : List Value) : Array Value → State → Prop := fun a U =>
  qPre dC dI cB cI cJ ek adK adV ad h sz As a U ∧ (∀ w ∈ thW, va_Nw w U) ∧ (∃ sa, vk_R RX7 284 "no such house that never burns" sa U) ∧ vx_Zq Bundle.tN "UNASSIGNED_STACK" Bundle.steD (va_A (qw cB cI cJ ad h) sz) U U.heap ∧ vx_Zq Bundle.tN "SUPPRESSED_SENTINEL" Bundle.listD (va_A (qw cB cI cJ ad h) sz) U U.heap
theorem qPreT_blind {ad : Nat → Nat} {h : qH} {sz : Nat} {As : List Value} : FrameBlind (qPreT dC dI cB cI cJ ek adK adV ad h sz As) := by
  intro a U g mk q
  obtain ⟨q1, q2, ⟨sa, q3⟩, q4, q5⟩ := q
  exact ⟨qpre_blind a U g mk q1, thW_s (s := U) (U := U.calling g mk a) rfl q2, ⟨sa, vk_R.same (u := U) (U := U.calling g mk a) rfl q3⟩, vx_Zq.moved (u := U) (U := U.calling g mk a) (Vm.Alike.refl U.vm) q4, vx_Zq.moved (u := U) (U := U.calling g mk a) (Vm.Alike.refl U.vm) q5⟩
theorem qPreT_at {ad : Nat → Nat} {h : qH} {H : Heap} {locs : List Loc} {As : List Value} (F : qFx p R s m args meth c M dC dI cB cI cJ ek adK adV A) (w : qWd s dC dI cB cI cJ A ad0 h0 ad h H locs) (t1 : ∀ w ∈ thW, va_Nw w s) (t2 : ∃ sa, vk_R RX7 284 "no such house that never burns" sa s) (z1 : vx_Zq Bundle.tN "UNASSIGNED_STACK" Bundle.steD A s s.heap) (z2 : vx_Zq Bundle.tN "SUPPRESSED_SENTINEL" Bundle.listD A s s.heap) : ∀ U : State, U.heap = H → s.WarmedH U.vm → qPreT dC dI cB cI cJ ek adK adV ad h H.size As (As.map (tv ek ad)).toArray U := by
  intro U hU hW
  obtain ⟨sa, t2⟩ := t2
  refine ⟨qpre_at F w U hU hW, thW_w hW t1, ⟨sa, vk_R.warm hW t2⟩, ?_, ?_⟩
  · rw [hU]; exact vx_Zq.moved hW.alike (vx_Zq.narrow (vx_Zq.kept z1 w.2.2.1.2.1) (qfree F w))
  · rw [hU]; exact vx_Zq.moved hW.alike (vx_Zq.narrow (vx_Zq.kept z2 w.2.2.1.2.1) (qfree F w))
end
set_option maxHeartbeats 4000000 in
/-- NextBell.led: it returns or it throws -/
theorem met_led {l : Launch} {dC : Nat → ClassId} {dI : Nat → Nat → Nat} {cB cI cJ : ClassId} {ek : Nat → Value} {adK adV : Nat → Nat} {n : Nat} (ih : Snd l dC dI cB cI cJ ek adK adV n) (hE : qEk ek adK adV) (hl : l.stackTraces = false) {d b : Nat} {i : Int32} {h h2 : qH} {r2 : Option (Option Value)} (hr : run n d mX7_led ((0, 0), 0, la (mL mX7_led) [.ref b, .int i], [], h) = some (r2, h2)) (oA : okS (hN h) [.ref b, .int i]) (hw : hwf h) (ad : Nat → Nat) (sz : Nat) :
    vx_Met l (mY mX7_led) (mCode mX7_led :: WT) (qRm d mX7_led) (qPreT dC dI cB cI cJ ek adK adV ad h sz [.ref b, .int i]) (va_Qi (S := Unit) (fun r _ => r2 = some (some (.int r))) (fun _ t => qBk dC dI cB cI cJ ad h (va_A (qw cB cI cJ ad h) sz) h2 t) (va_A (qw cB cI cJ ad h) sz))
      (vx_X (S := Unit) (fun _ => r2 = none) (fun E _ t => E = tX ∧ qBk dC dI cB cI cJ ad h (va_A (qw cB cI cJ ad h) sz) h2 t) (va_A (qw cB cI cJ ad h) sz)) (mC mX7_led) (mS mX7_led) (va_A (qw cB cI cJ ad h) sz) := by
  obtain ⟨g1, g2, g3, g4, g5, g6⟩ := mAll_in led_a
  refine vx_ofW (cc := mB mX7_led) (maxL := mL mX7_led) (ret := mT mX7_led) g4 rfl ?_
  intro p e s m args below meth c s₁ B hml htb hv
  obtain ⟨⟨rfl, hsz, hP, hK, hD0, hX⟩, t1, ⟨sa, t2⟩, z1, z2⟩ := hv
  subst hsz
  have hts := atoms_spec (ws := mCode mX7_led :: WT) B.pre
  have hown : s.vm.findClass (mY mX7_led).cls = some m.cls := findClass_of_methodNamed B.named
  rw [g6] at hown
  have F : qFx p (qRm d mX7_led) s m ([.ref b, .int i].map (tv ek ad)).toArray meth c mX7_led dC dI cB cI cJ ek adK adV (va_A (qw cB cI cJ ad h) s.heap.size) :=
    ⟨B.exec, B.bytes, hml, hown, fun w hw => hts w (List.mem_cons_of_mem _ hw), hK, fun q hq => Or.inr hq, B.returns, B.notSynchronized, (name_of_methodNamed B.named B.method).1, hX, hE, Nat.le_refl _, Nat.le_refl _⟩
  rw [lg_entry_eq]
  refine ih d mX7_led (0, 0) 0 (la (mL mX7_led) [.ref b, .int i]) [] h r2 h2 hr p e (qRm d mX7_led) s m _ below meth c _ (va_A (qw cB cI cJ ad h) s.heap.size) ad h F (fun q => absurd q (by decide)) (Nat.le_refl _) (Nat.le_refl _) ?_ ?_ ad s.heap [] _ ⟨hP, hD0.self, va_S.rf, hw, Nat.le_refl _, fun _ _ => rfl, fun _ _ => rfl⟩ (la_lH hE.1 (show (2 : Nat) ≤ 4 by decide)) trivial (okL_la _ _ oA)
  · intro v hv' ad' H locs ms u pc w hrt k1 k2
    subst hv'
    rcases hrt with ⟨x, t, rfl, q1, q2, q3⟩ | ⟨x, rfl, q1, q3⟩ | ⟨rfl, q1, q3⟩
    · exact vx_ret (W.widen (k := mC mX7_led) (n := mS mX7_led) k1 k2 (W.zret F.1 F.2.1 (by rw [F.2.2.2.2.2.2.2.1]; exact q1) q2 (fun t ht _ => ⟨⟨x, (), rfl, rfl, ad', by rw [ht]; exact w.1, w.2.1, w.2.2.2.1, w.2.2.2.2.1, w.2.2.2.2.2.1, w.2.2.2.2.2.2⟩, w.2.2.1.F ht⟩) w.2.2.1.2.2 q3 B.notSynchronized))
    · cases q1
    · cases q1
  · intro hn ad' H locs ms u pc w hms k1 k2 h7 hd
    have h51 : pc = 51 := d51 pc (Nat.lt_of_lt_of_le (decode_lt hd) (by decide +kernel)) hd
    subst h51
    have hWT : ∀ w ∈ WT, w.before ([.ref b, .int i].map (tv ek ad)).toArray s = true := F.2.2.2.2.1
    refine th_throw (text := "no such house that never burns") (sa := sa) (A := va_A (qw cB cI cJ ad h) s.heap.size) F.1 F.2.1 hl hown (hWT _ (WT_in (led_w _ (by simp)).1 (led_w _ (by simp)).2)) (hWT _ (WT_in (led_w _ (by simp)).1 (led_w _ (by simp)).2)) t2 ?_ thO z1 z2 w.2.2.1 (hms.trans hml.symm) dX7_led_51 dX7_led_54 dX7_led_55 dX7_led_58 dX7_led_61 (fun x hx => (htb x hx).elim) ?_ ?_ k1 k2 B.notSynchronized ?_ w.2.2.1.2.2 k1 k2
    · exact vx_hat (B := thW) (fun w hw => hWT w (WT_in (thG w hw) (List.mem_filter.mp hw).2)) thB (fun w hw => va_Nw.use (List.all_eq_true.mp thW_o w hw) (t1 w hw))
    · show 5 < d + 8; omega
    · show 0 + (13 * (2 + 1) + 43) ≤ 60 * (d + 8); omega
    · intro t hA hz hk
      exact ⟨(), hn, ⟨rfl, ad', w.1.kept (fun k q hq => hk q.1 (vx_lt w.1 hq)), w.2.1, w.2.2.2.1, w.2.2.2.2.1, w.2.2.2.2.2.1, w.2.2.2.2.2.2⟩, ⟨Nat.le_trans w.2.2.1.1 hz, fun q h1 h2 => by rw [hk q (Nat.lt_of_lt_of_le h1 w.2.2.1.1)]; exact w.2.2.1.2.1 q h1 h2⟩⟩
def mL_led : qM := (20, yL_led, cL_led, 4, (Option.some FieldType.int), 3, 1, 6)
def wL_led : Cond := .codeWith yL_led cL_led 4 (some .int) [(0, 9, 12, 13)]
def qRmL (d : Nat) : Room := { frames := d + 10, cells := 1, slots := 6, locals := 60 * (d + 10) }
/-- what the law's led leaves, of what NextBell.led left -/
def lOut (a : Nat) (r2 : Option (Option Value)) (h2 : qH) (z : Int32) (h3 : qH) : Prop := (∃ v : Int32, r2 = some (some (.int v)) ∧ z = 0 ∧ h3 = wJ h2 a (vp_updL (hJ h2 a) 0 v.toInt64)) ∨ (r2 = none ∧ z = 1 ∧ h3 = h2)
theorem led_sel : Cond.selects (nmC 7) (mY mX7_led) (mY mX7_led) ∈ lw_tbl ∧ goodWord (Cond.selects (nmC 7) (mY mX7_led) (mY mX7_led)) = true ∧ Cond.instanceMethod (mY mX7_led) ∈ lw_tbl ∧ goodWord (Cond.instanceMethod (mY mX7_led)) = true := by decide +kernel
set_option maxHeartbeats 4000000 in
/-- NextBellLaw.led -/
theorem met_lawled {l : Launch} {dC : Nat → ClassId} {dI : Nat → Nat → Nat} {cB cI cJ : ClassId} {ek : Nat → Value} {adK adV : Nat → Nat} {n : Nat} (ih : Snd l dC dI cB cI cJ ek adK adV n) (hE : qEk ek adK adV) (hl : l.stackTraces = false) {d a b : Nat} {i z : Int32} {h h2 h3 : qH} {r2 : Option (Option Value)} (hr : run n d mX7_led ((0, 0), 0, la (mL mX7_led) [.ref b, .int i], [], h) = some (r2, h2)) (ho : lOut a r2 h2 z h3) (ka : kd a = (12, 1)) (kb : (kd b).1 = 7) (oA : okS (hN h) [.ref b, .int i, .ref a]) (hw : hwf h) (ad : Nat → Nat) (sz : Nat) :
    Met l yL_led (wL_led :: WT) (qRmL d) (qPreT dC dI cB cI cJ ek adK adV ad h sz [.ref b, .int i, .ref a]) (qPs dC dI cB cI cJ ad h sz (some (.int z)) h3) 1 6 (va_A (qw cB cI cJ ad h) sz) := by
  refine va_MetW (cc := cL_led) (maxL := 4) (ret := some .int) (hh := [(0, 9, 12, 13)]) (by decide +kernel) rfl ?_
  intro p e s m args below meth c s₁ B hml hv
  obtain ⟨⟨rfl, hsz, hP, hK, hD0, hX⟩, t1, t2, z1, z2⟩ := hv
  subst hsz
  have hts := atoms_spec (ws := wL_led :: WT) B.pre
  have hown : s.vm.findClass (nmC 20) = some m.cls := findClass_of_methodNamed B.named
  have htab : c.exceptionTable.toList = [] ++ ⟨0, 9, 12, 13⟩ :: [] := vx_table (x := yL_led) B (hts _ List.mem_cons_self)
  have F : qFx p (qRmL d) s m ([Value.ref b, .int i, .ref a].map (tv ek ad)).toArray meth c mL_led dC dI cB cI cJ ek adK adV (va_A (qw cB cI cJ ad h) s.heap.size) :=
    ⟨B.exec, B.bytes, hml, hown, fun w hw => hts w (List.mem_cons_of_mem _ hw), hK, fun q hq => Or.inr hq, B.returns, B.notSynchronized, (name_of_methodNamed B.named B.method).1, hX, hE, Nat.le_refl _, Nat.le_refl _⟩
  have hWT : ∀ w ∈ WT, w.before ([Value.ref b, .int i, .ref a].map (tv ek ad)).toArray s = true := F.2.2.2.2.1
  obtain ⟨g1, g2, g3, g4, g5, g6⟩ := mAll_in led_a
  have cb : CallB (qRmL d) s ([Value.ref b, .int i, .ref a].map (tv ek ad)).toArray (nmC (mO mL_led)) 7 (mY mX7_led) (mB mX7_led) (mL mX7_led) (mT mX7_led) (mCode mX7_led :: WT) (qRm d mX7_led) (mC mX7_led) (mS mX7_led) (mA mX7_led) := by
    refine callB_of (mA mX7_led) hWT (GoodWT (fun w hw => (List.mem_cons.mp hw).elim (fun q => q ▸ g1) id)) rfl rfl rfl (by rw [g6]; exact hWT _ (WT_in (ini_w _ g2).1 (ini_w _ g2).2)) (hWT _ (WT_in (led_w _ (by simp [mO, mL_led])).1 (led_w _ (by simp [mO, mL_led])).2)) g3 ⟨?_, ?_⟩
    · show d + 8 + 1 ≤ d + 10
      omega
    · show 8 + (mL mX7_led + 11) + 60 * (d + 8) ≤ 60 * (d + 10)
      have : mL mX7_led ≤ 40 := g5
      omega
  -- behind the call, where it returned
  have back : ∀ {r : Int32}, r2 = some (some (.int r)) → VV p l e (qRmL d) s m ([Value.ref b, .int i, .ref a].map (tv ek ad)).toArray below meth c (MQ below (qPs dC dI cB cI cJ ad h s.heap.size (some (.int z)) h3) ([Value.ref b, .int i, .ref a].map (tv ek ad)).toArray s 1 6 (va_A (qw cB cI cJ ad h) s.heap.size)) mL_led dC dI cB cI cJ ek (va_A (qw cB cI cJ ad h) s.heap.size) ad h (1, 6) 7 (la 4 [.ref b, .int i, .ref a]) [.int r, .int (Int32.ofInt 0), .ref a] h2 := by
    intro r hr2
    obtain ⟨v, hv1, rfl, rfl⟩ : ∃ v : Int32, r2 = some (some (.int v)) ∧ z = 0 ∧ h3 = wJ h2 a (vp_updL (hJ h2 a) 0 v.toInt64) := by
      rcases ho with q | ⟨q, -⟩
      · exact q
      · rw [q] at hr2; cases hr2
    rw [hr2] at hv1
    cases hv1
    refine V_i2l F dL_led_7 ?_
    refine V_last F dL_led_8 (by rw [ka]) (by rw [ka]; unfold vp_in; decide) ?_
    refine V_goto F (t := 15) dL_led_9 (by decide) ?_
    refine V_iconst F dL_led_15 ?_
    intro ad' H locs ms w lh os ol
    exact W.zret F.1 F.2.1 (ty := .int) (by rw [F.2.2.2.2.2.2.2.1]; rfl) rfl (fun t ht _ => ⟨⟨rfl, ad', by rw [ht]; exact w.1, w.2.1, w.2.2.2.1, w.2.2.2.2.1, w.2.2.2.2.2.1, w.2.2.2.2.2.2⟩, w.2.2.1.F ht⟩) w.2.2.1.2.2 dL_led_16 B.notSynchronized
  have V0 : VV p l e (qRmL d) s m ([Value.ref b, .int i, .ref a].map (tv ek ad)).toArray below meth c (MQ below (qPs dC dI cB cI cJ ad h s.heap.size (some (.int z)) h3) ([Value.ref b, .int i, .ref a].map (tv ek ad)).toArray s 1 6 (va_A (qw cB cI cJ ad h) s.heap.size)) mL_led dC dI cB cI cJ ek (va_A (qw cB cI cJ ad h) s.heap.size) ad h (0, 0) 0 (la 4 [.ref b, .int i, .ref a]) [] h := by
    refine V_aload_n F (a := a) dL_led_0 rfl ?_
    refine V_iconst F dL_led_1 ?_
    refine V_aload_n F (a := b) dL_led_2 rfl ?_
    refine V_iload_n F (x := i) dL_led_3 rfl ?_
    intro ad1 H locs ms w lh os ol
    have hM := met_led ih hE hl hr ⟨oA.1, oA.2.1, trivial⟩ w.2.2.2.1 ad1 H.size
    have hcell := va_recv F.2.2.2.2.2.1 w.1 (vw_at (show 7 < 10 by decide)) (by have := qw_at (cB := cB) (cI := cI) (cJ := cJ) (ad := ad1) (h := h) (a := b) oA.1; rw [qcel_obj kb (by decide)] at this; exact this)
    have hrun := vx_runV (C := nmC 7) (b := ad1 b) (As := [Value.int i]) (rest := [Value.int (Int32.ofInt 0), .ref (ad1 a)]) (Ts := WT) (locs := locs) (cells := 0) (slots := 0) (g := F0 m 4 ms [Value.int i, .ref (ad1 b), .int (Int32.ofInt 0), .ref (ad1 a)]) (l := l) (e := e) (below := below) (meth := meth) ⟨F.1, F.2.1, F.2.2.1, F.2.2.2.1, F.2.2.2.2.1⟩ hM ⟨cb, hWT _ (WT_in led_sel.2.2.1 led_sel.2.2.2), hWT _ (WT_in led_sel.1 led_sel.2.1)⟩ ⟨qPreT_blind, hcell, fun U hU hW => qPreT_at (As := [.ref b, .int i]) F w t1 t2 z1 z2 U hU hW⟩ rfl rfl lh.2.1 rfl (lv_room (show (2 : Nat) ≤ 8 by decide)) dL_led_4 ⟨Nat.le_refl 1, Nat.le_refl 6⟩
    refine vx_calli hrun w.2.2.1 (fun q _ hq => qfree F w q hq) (qfree F w) (fun q _ hq => qfree F w q hq) ?_ ?_
    · intro E ce q9 _ t H1 locs1 ht _ hn hB hz hk hS hce hcv hcl
      obtain ⟨rfl, ad2, b1, b2, b3, b4, b5, b6⟩ := hB
      rw [ht] at b1
      obtain ⟨rfl, rfl⟩ : z = 1 ∧ h3 = h2 := by
        rcases ho with ⟨v, q, -⟩ | ⟨-, q1, q2⟩
        · rw [hn] at q; cases q
        · exact ⟨q1, q2⟩
      have w1 : qWd s dC dI cB cI cJ (va_A (qw cB cI cJ ad h) s.heap.size) ad h ad2 h3 H1 locs1 := ⟨b1, b2.weaken (fun _ q _ hq => qfree F w q.1 hq), hS, b3, Nat.le_trans w.2.2.2.2.1 b4, fun a ha => (b5 a (Nat.lt_of_lt_of_le ha w.2.2.2.2.1)).trans (w.2.2.2.2.2.1 a ha), fun a ha => (b6 a ha).trans (w.2.2.2.2.2.2 a ha)⟩
      refine vx_catch (own := nmC 20) (name := tX) (E := tX) (ce := ce) hown [] ⟨0, 9, 12, 13⟩ [] htab (fun z hz => nomatch hz) (by decide) (by decide) (hWT _ (WT_in (led_w _ (by simp)).1 (led_w _ (by simp)).2)) (va_Nw.use rfl (t1 _ thC)) hce hcv hcl ?_
      refine lv_astore_n F.1 F.2.1 (i := 3) dL_led_12 rfl lh.2 (by decide) rfl (fun ms' hms' => ?_)
      refine lv_iconst F.1 F.2.1 dL_led_13 rfl ?_
      exact W.zret F.1 F.2.1 (ty := .int) (by rw [F.2.2.2.2.2.2.2.1]; rfl) rfl (fun t ht _ => ⟨⟨rfl, ad2, by rw [ht]; exact w1.1, w1.2.1, w1.2.2.2.1, w1.2.2.2.2.1, w1.2.2.2.2.2.1, w1.2.2.2.2.2.2⟩, w1.2.2.1.F ht⟩) w1.2.2.1.2.2 dL_led_14 B.notSynchronized
    · intro r _ t H1 locs1 ht _ hn hB hz hk hS
      obtain ⟨ad2, b1, b2, b3, b4, b5, b6⟩ := hB
      rw [ht] at b1
      have w1 : qWd s dC dI cB cI cJ (va_A (qw cB cI cJ ad h) s.heap.size) ad h ad2 h2 H1 locs1 := ⟨b1, b2.weaken (fun _ q _ hq => qfree F w q.1 hq), hS, b3, Nat.le_trans w.2.2.2.2.1 b4, fun a ha => (b5 a (Nat.lt_of_lt_of_le ha w.2.2.2.2.1)).trans (w.2.2.2.2.2.1 a ha), fun a ha => (b6 a ha).trans (w.2.2.2.2.2.2 a ha)⟩
      have g := back hn ad2 H1 locs1 ms w1 (lH_up b5 ol lh) ⟨trivial, trivial, Nat.lt_of_lt_of_le oA.2.2.1 b4, trivial⟩ (okL_le b4 ol)
      simp only [List.map_cons, List.map_nil, tv, b5 a oA.2.2.1] at g
      exact g
  rw [lg_entry_eq]
  exact V0 ad s.heap [] _ ⟨hP, hD0.self, va_S.rf, hw, Nat.le_refl _, fun _ _ => rfl, fun _ _ => rfl⟩ (la_lH hE.1 (show (3 : Nat) ≤ 4 by decide)) trivial (okL_la _ _ oA)
theorem rmL_f {d X : Nat} (h : d + 1 + 12 ≤ X) : d + 10 + 1 ≤ X := by omega
theorem rmL_l {d X : Nat} (h : 60 * (d + 1 + 12) ≤ X) : 8 + (4 + 11) + 60 * (d + 10) ≤ X := by
  have e : 60 * (d + 1 + 12) = 60 * (d + 10) + 60 * 3 := by rw [show d + 1 + 12 = (d + 10) + 3 by omega, Nat.mul_add]
  rw [e] at h
  generalize 60 * (d + 10) = Y at h ⊢
  omega
theorem lOut_of {c : qC} {a : Nat} {r2 : Option (Option Value)} {h2 h3 : qH} {u : Nat × Nat} {pc : Nat} {ls : qL} {st : List Value} {z : Int32} {u1 : Nat × Nat} {pc1 : Nat} {ls1 : qL} {st1 : List Value} {h1 : qH} (hb : bck (u, pc, ls, st, h1) (some a) r2 h2 = some (u1, pc1, ls1, .int z :: st1, h3)) : lOut a r2 h2 z h3 := by
  match r2, hb with
  | none, hb => cases hb; exact Or.inr ⟨rfl, rfl, rfl⟩
  | some none, hb => cases hb
  | some (some (.int v)), hb => cases hb; exact Or.inl ⟨v, rfl, rfl, rfl⟩
  | some (some (.long _)), hb => cases hb
  | some (some (.float _)), hb => cases hb
  | some (some (.double _)), hb => cases hb
  | some (some .null), hb => cases hb
  | some (some (.ref _)), hb => cases hb
  | some (some (.retAddr _)), hb => cases hb
set_option maxHeartbeats 4000000 in
/-- the plain machine is sound, the law's led included -/
theorem sound_all {l : Launch} {dC : Nat → ClassId} {dI : Nat → Nat → Nat} {cB cI cJ : ClassId} {ek : Nat → Value} {adK adV : Nat → Nat} (hE : qEk ek adK adV) : ∀ n, Snd l dC dI cB cI cJ ek adK adV n := by
  refine sound hE ?_
  intro n ih d u pc ls st h h2 h3 M r2 a b k i N' z hrun hb ka kb hd hml c1 c2 c3 p e R s m args below meth c Q A ad0 h0 F hfr hlo G kk
  intro ad H locs ms w lh os ol
  have hm := mlF_mem hml
  obtain ⟨hM20, rfl⟩ : mO M = 20 ∧ k = 204 := by
    simp only [ml17T, List.mem_cons, List.not_mem_nil, or_false, Prod.mk.injEq] at hm
    exact hm.1
  obtain ⟨-, hl, t1, t2, z1, z2, f1, f2⟩ := G hM20
  obtain ⟨oa, -, ob, ost⟩ := os
  have hM := met_lawled ih hE hl hrun (lOut_of (c := ((0, 0), 0, [], [], h)) hb) ka kb ⟨ob, trivial, oa, trivial⟩ w.2.2.2.1 ad H.size
  have hrest : ((st.map (tv ek ad)).map fun v => v.category).sum ≤ 8 := by rw [tv_catS hE.1]; exact c3
  have hcw : vx_CSW R s args (nmC (mO M)) 204 yL_led cL_led 4 (some .int) [(0, 9, 12, 13)] (wL_led :: WT) (qRmL d) 1 6 3 := by
    refine vx_cwSW 3 F.2.2.2.2.1 (GoodWT ?_) rfl rfl rfl (by decide +kernel) ⟨?_, ?_⟩
    · rw [hM20]
      have key : ∀ w ∈ va_wsS (nmC 20) 204 yL_led [wL_led], w ∈ lw_tbl ∧ goodWord w = true := by decide +kernel
      intro w hw
      unfold va_wsS at hw key
      rcases List.mem_append.mp hw with q | q
      · exact WT_in (key w (List.mem_append_left _ q)).1 (key w (List.mem_append_left _ q)).2
      · rcases List.mem_cons.mp q with q | q
        · rw [q]
          exact WT_in (key wL_led (List.mem_append_right _ List.mem_cons_self)).1 (key wL_led (List.mem_append_right _ List.mem_cons_self)).2
        · exact q
    · exact rmL_f f1
    · exact rmL_l f2
  have hf : u.1 + 1 ≤ R.cells ∧ u.2 + 6 ≤ R.slots := ⟨Nat.le_trans c1 F.2.2.2.2.2.2.2.2.2.2.2.2.1, Nat.le_trans c2 F.2.2.2.2.2.2.2.2.2.2.2.2.2⟩
  refine qgo (v := some (.int z)) (h1 := h3) (mc := 1) (ms' := 6) F w lh ost ol ⟨trivial, trivial⟩ rfl (fun _ => rfl) (vx_runSW (As := [Value.ref b, .int i, .ref a].map (tv ek ad)) (Ts := WT) ⟨F.1, F.2.1, F.2.2.1, F.2.2.2.1, F.2.2.2.2.1⟩ hM hcw ⟨qPreT_blind, fun U hU hW => qPreT_at F w t1 t2 z1 z2 U hU hW⟩ rfl rfl lh.2.1 rfl (lv_room hrest) hd hf) kk
