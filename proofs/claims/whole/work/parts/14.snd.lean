theorem rm_ok {a d L : Nat} (h7 : a ≤ 40) (hlo : 60 * (d + 1 + 8) ≤ L) : 8 + (a + 11) + 60 * (d + 8) ≤ L := by
  have h1 : 60 * (d + 1 + 8) = 60 * (d + 8) + 60 := by rw [show d + 1 + 8 = (d + 8) + 1 from by rw [Nat.add_right_comm], Nat.mul_add]
  rw [h1] at hlo
  generalize 60 * (d + 8) = X at hlo ⊢
  omega
theorem ml2_o : ∀ q ∈ ml2T, ¬ mO q.2 = 32 := by decide +kernel
theorem ml3_o : ∀ q ∈ ml3T, ¬ mO q.2 = 32 := by decide +kernel
theorem kd_b (b : Nat) : (kd b).1 < 13 ∨ (kd b).1 = 99 := by
  unfold kd
  split
  · rename_i h
    have : ∀ b, b < 57 → ((kdT.getD b (99, 0)).1 < 13 ∨ (kdT.getD b (99, 0)).1 = 99) := by decide +kernel
    exact this b h
  · split
    · have : ∀ b, b < 13 → ((kdU.getD b (99, 0)).1 < 13 ∨ (kdU.getD b (99, 0)).1 = 99) := by decide +kernel
      exact this _ (Nat.mod_lt _ (by omega))
    · exact Or.inr rfl
/-- what is answered is no reference -/
theorem run_ret : ∀ {n d : Nat} {M : qM} {x : qC} {v : Option Value} {h : qH}, run n d M x = some (some v, h) → (∀ (ek : Nat → Value) (ad : Nat → Nat), v.toList.map (tv ek ad) = v.toList) ∧ ∀ {k : Nat}, okS k v.toList := by
  intro n
  induction n with
  | zero => intro d M x v h hr; simp [run] at hr
  | succ n ih =>
    intro d M x v h hr
    rw [run] at hr
    cases hs : stp M x.1 x.2.1 x.2.2.1 x.2.2.2.1 x.2.2.2.2 with
    | none => rw [hs] at hr; simp at hr
    | some a =>
      rw [hs] at hr
      match a, hs, hr with
      | .inl c1, hs, hr => exact ih hr
      | .inr (.inr r), hs, hr =>
        simp only [Option.some.injEq, Prod.mk.injEq] at hr
        obtain ⟨rfl, -⟩ := hr
        rcases stp_ret hs with ⟨v', hv, hrt, -⟩ | ⟨hv, -⟩
        · cases hv
          refine ⟨fun ek ad => ?_, okS_nr hrt⟩
          rcases hrt with ⟨x, t, rfl, -⟩ | ⟨x, rfl, -⟩ | ⟨rfl, -⟩ <;> rfl
        · cases hv
      | .inr (.inl (N, As, c1, o)), hs, hr =>
        match d with
        | 0 => simp at hr
        | d + 1 =>
          simp only at hr
          cases hq : run n d N ((0, 0), 0, la (mL N) As, [], c1.2.2.2.2) with
          | none => rw [hq] at hr; simp at hr
          | some y =>
            rw [hq] at hr
            simp only at hr
            cases hb : bck c1 o y.1 y.2 with
            | none => rw [hb] at hr; simp at hr
            | some c2 => rw [hb] at hr; exact ih hr
/-! ===== sound: the whole ===== -/
section
variable {p : Program} {l : Launch} {e : Env} {R : Room} {s : State} {m : MethodId} {args : Array Value} {below : List Frame} {meth : Method} {c : Code} {Q : State → Prop} {M : qM}
variable {dC : Nat → ClassId} {dI : Nat → Nat → Nat} {cB cI cJ : ClassId} {ek : Nat → Value} {adK adV : Nat → Nat} {A : Nat → Prop} {ad0 : Nat → Nat} {h0 : qH}
/-- a callee's world lies in the caller's -/
theorem qfree {ad : Nat → Nat} {h : qH} {H : Heap} {locs : List Loc} (F : qFx p R s m args meth c M dC dI cB cI cJ ek adK adV A) (w : qWd s dC dI cB cI cJ A ad0 h0 ad h H locs) : ∀ q, va_A (qw cB cI cJ ad h) H.size q → A q := by
  intro q hq
  rcases hq with ⟨k, z, hk⟩ | hq
  · exact w.2.1.2 k _ hk
  · exact F.2.2.2.2.2.2.1 q (Nat.le_trans w.2.2.1.1 hq)
theorem qpre_blind {ad : Nat → Nat} {h : qH} {sz : Nat} {As : List Value} : FrameBlind (qPre dC dI cB cI cJ ek adK adV ad h sz As) := by
  intro a U g mk q
  obtain ⟨q0, q1, q2, q3, q4, q5⟩ := q
  exact ⟨q0, q1, q2, va_K.moved (u := U) (U := U.calling g mk a) (Vm.Alike.refl U.vm) q3, q4, qX.same (u := U) (U := U.calling g mk a) rfl q5⟩
theorem qpre_at {ad : Nat → Nat} {h : qH} {H : Heap} {locs : List Loc} {As : List Value} (F : qFx p R s m args meth c M dC dI cB cI cJ ek adK adV A) (w : qWd s dC dI cB cI cJ A ad0 h0 ad h H locs) : ∀ U : State, U.heap = H → s.WarmedH U.vm → qPre dC dI cB cI cJ ek adK adV ad h H.size As (As.map (tv ek ad)).toArray U := by
  intro U hU hW
  refine ⟨rfl, by rw [hU], by rw [hU]; exact w.1, va_K.moved hW.alike F.2.2.2.2.2.1, w.2.1.weaken (fun _ _ _ _ => trivial), ?_⟩
  rw [hU]
  exact qX.warm hW (qX.narrow (qfree F w) (qX.kept w.2.2.1.2.1 F.2.2.2.2.2.2.2.2.2.2.1))
/-- goes on behind a call -/
theorem qgo {ad : Nat → Nat} {h h1 : qH} {H : Heap} {locs : List Loc} {ms : Array Slot} {u : Nat × Nat} {pc mc ms' : Nat} {ls : qL} {st : List Value} {st0 : List Value} {v : Option Value} (F : qFx p R s m args meth c M dC dI cB cI cJ ek adK adV A) (w : qWd s dC dI cB cI cJ A ad0 h0 ad h H locs) (lh : lH ek ad ls ms (mL M)) (os : okS (hN h) st) (ol : okL (hN h) ls) (hv : okS (hN h1) v.toList) (hv2 : v.toList.map (tv ek ad) = v.toList) (hv3 : ∀ ad', v.toList.map (tv ek ad') = v.toList) {a : Array Value}
    (hr : va_Run p l e R s m args below meth c H locs u.1 u.2 mc ms' (F0 m pc ms st0) (st.map (tv ek ad)) (qPs dC dI cB cI cJ ad h H.size v h1 a) (va_A (qw cB cI cJ ad h) H.size))
    (kk : VV p l e R s m args below meth c Q M dC dI cB cI cJ ek A ad0 h0 (u.1 + mc, u.2 + ms') (pc + 3) ls (v.toList ++ st) h1) : W p l e R s m args below meth c H locs u.1 u.2 Q (F0 m pc ms st0) := by
  refine qcall (v := v) (B := qBk dC dI cB cI cJ ad h (va_A (qw cB cI cJ ad h) H.size) h1) (A1 := va_A (qw cB cI cJ ad h) H.size) (fun _ _ _ q => q) hr w.2.2.1 (fun q _ hq => qfree F w q hq) (qfree F w) (fun t H1 locs1 ht hB hz hS => ?_)
  obtain ⟨ad1, b1, b2, b3, b4, b5, b6⟩ := hB
  rw [ht] at b1
  have w1 : qWd s dC dI cB cI cJ A ad0 h0 ad1 h1 H1 locs1 := ⟨b1, b2.weaken (fun _ q _ hq => qfree F w q.1 hq), hS, b3, Nat.le_trans w.2.2.2.2.1 b4, fun a ha => (b5 a (Nat.lt_of_lt_of_le ha w.2.2.2.2.1)).trans (w.2.2.2.2.2.1 a ha), fun a ha => (b6 a ha).trans (w.2.2.2.2.2.2 a ha)⟩
  have g := kk ad1 H1 locs1 ms w1 (lH_up b5 ol lh) (okS_app.mpr ⟨hv, okS_le b4 os⟩) (okL_le b4 ol)
  rw [List.map_append, hv3, tv_upS b5 os] at g
  exact g
end
set_option maxRecDepth 100000 in
set_option maxHeartbeats 8000000 in
theorem sound {l : Launch} {dC : Nat → ClassId} {dI : Nat → Nat → Nat} {cB cI cJ : ClassId} {ek : Nat → Value} {adK adV : Nat → Nat} (hE : qEk ek adK adV)
    (hLed : ∀ n, Snd l dC dI cB cI cJ ek adK adV n → ∀ (d : Nat) (u : Nat × Nat) (pc : Nat) (ls : qL) (st : List Value) (h h2 h3 : qH) (M : qM) (r2 : Option (Option Value)) (a b k : Nat) (i : Int32) (N' : qM) (z : Int32),
      run n d mX7_led ((0, 0), 0, la (mL mX7_led) [.ref b, .int i], [], h) = some (r2, h2) → bck ((u.1 + mC mX7_led, u.2 + mS mX7_led), pc + 3, ls, st, h) (some a) r2 h2 = some ((u.1 + mC mX7_led, u.2 + mS mX7_led), pc + 3, ls, .int z :: st, h3) → kd a = (12, 1) → (kd b).1 = 7 → decode (mB M) pc = .ok (.invokestatic k, 3) → mlF ml17T (mO M) k = some N' → u.1 + mC mX7_led ≤ mC M → u.2 + mS mX7_led ≤ mS M → (st.map fun v => v.category).sum ≤ 8 →
      ∀ (p : Program) (e : Env) (R : Room) (s : State) (m : MethodId) (args : Array Value) (below : List Frame) (meth : Method) (c : Code) (Q : State → Prop) (A : Nat → Prop) (ad0 : Nat → Nat) (h0 : qH), qFx p R s m args meth c M dC dI cB cI cJ ek adK adV A → (d + 1) + 8 ≤ R.frames → 60 * ((d + 1) + 8) ≤ R.locals →
      (mO M = 20 → qSc s A ek h0 ∧ qTh l s A (d + 1) R) → VV p l e R s m args below meth c Q M dC dI cB cI cJ ek A ad0 h0 (u.1 + mC mX7_led, u.2 + mS mX7_led) (pc + 3) ls (.int z :: st) h3 → VV p l e R s m args below meth c Q M dC dI cB cI cJ ek A ad0 h0 u pc ls (.ref a :: .int i :: .ref b :: st) h) :
    ∀ n, Snd l dC dI cB cI cJ ek adK adV n := by
  intro n
  induction n with
  | zero => intro d M u pc ls st h r h1 hr; simp [run] at hr
  | succ n ih =>
    intro d M u pc ls st h r h1 hr p e R s m args below meth c Q A ad0 h0 F G hfr hlo cR cT
    rw [run] at hr
    cases hs : stp M u pc ls st h with
    | none => simp only [hs] at hr; cases hr
    | some x =>
      simp only [hs] at hr
      match x, hs, hr with
      | .inl (u1, pc1, ls1, st1, h2), hs, hr =>
        exact snd_step F (fun q => (G q).1) (by omega) (by omega) hs (ih d M u1 pc1 ls1 st1 h2 r h1 hr p e R s m args below meth c Q A ad0 h0 F G hfr hlo cR cT)
      | .inr (.inr r'), hs, hr =>
        simp only [Option.some.injEq, Prod.mk.injEq] at hr
        obtain ⟨rfl, rfl⟩ := hr
        intro ad H locs ms w lh os ol
        rcases stp_ret hs with ⟨v, rfl, hrt, rfl, h2, h3⟩ | ⟨rfl, rfl, ⟨b1, b2⟩, h2, h3⟩
        · have e1 : v.toList.map (tv ek ad) = v.toList := by rcases hrt with ⟨x, t, rfl, -⟩ | ⟨x, rfl, -⟩ | ⟨rfl, -⟩ <;> rfl
          rw [e1]
          exact cR v rfl ad H locs ms u pc w hrt h2 h3
        · exact cT rfl ad H locs ms u pc w lh.2.1 b1 b2 h2 h3
      | .inr (.inl (N, As, (u1, pc1, ls1, st1, h2), o)), hs, hr =>
        obtain ⟨rfl, rfl, rfl, rfl, c1, c2, c3, c4, hcase⟩ := stp_call hs
        cases d with
        | zero => simp at hr
        | succ d =>
          simp only at hr
          cases hrun : run n d N ((0, 0), 0, la (mL N) As, [], h2) with
          | none => rw [hrun] at hr; simp at hr
          | some y =>
            obtain ⟨r2, h3⟩ := y
            rw [hrun] at hr
            simp only at hr
            cases hb : bck ((u.1 + mC N, u.2 + mS N), pc + 3, ls1, st1, h2) o r2 h3 with
            | none => rw [hb] at hr; simp at hr
            | some c5 =>
              rw [hb] at hr
              simp only at hr
              rcases hcase with ⟨rfl, rfl, hkind⟩ | ⟨a, i, b, k, N', rfl, rfl, rfl, rfl, q1, q2, q3, q4⟩
              · cases r2 with
                | none => simp [bck] at hb
                | some v =>
                  simp only [bck, Option.some.injEq] at hb
                  subst hb
                  have kk := ih (d + 1) M _ _ _ _ _ r h1 hr p e R s m args below meth c Q A ad0 h0 F G hfr hlo cR cT
                  intro ad H locs ms w lh os ol
                  obtain ⟨oA, o1⟩ := okS_app.mp os
                  have oA' : okS (hN h2) As := by have := okS_rev oA; rwa [List.reverse_reverse] at this
                  rw [List.map_append, List.map_reverse]
                  have hrest : ((st1.map (tv ek ad)).map fun v => v.category).sum ≤ 8 := by rw [tv_catS hE.1]; exact c3
                  have hrm : (qRm d N).frames + 1 ≤ R.frames ∧ mL N ≤ 40 → 8 + (mL N + 11) + (qRm d N).locals ≤ R.locals := by
                    intro q
                    show 8 + (mL N + 11) + 60 * (d + 8) ≤ R.locals
                    exact rm_ok q.2 hlo
                  have hf : u.1 + mC N ≤ R.cells ∧ u.2 + mS N ≤ R.slots := ⟨Nat.le_trans c1 F.2.2.2.2.2.2.2.2.2.2.2.2.1, Nat.le_trans c2 F.2.2.2.2.2.2.2.2.2.2.2.2.2⟩
                  have fin : ∀ (hmem : N ∈ mAll), (∀ (hM : Met l (mY N) (mCode N :: WT) (qRm d N) (qPre dC dI cB cI cJ ek adK adV ad h2 H.size As) (qPs dC dI cB cI cJ ad h2 H.size v h3) (mC N) (mS N) (va_A (qw cB cI cJ ad h2) H.size)), va_Run p l e R s m args below meth c H locs u.1 u.2 (mC N) (mS N) (F0 m pc ms ((As.map (tv ek ad)).reverse ++ st1.map (tv ek ad))) (st1.map (tv ek ad)) (qPs dC dI cB cI cJ ad h2 H.size v h3 (As.map (tv ek ad)).toArray) (va_A (qw cB cI cJ ad h2) H.size)) → W p l e R s m args below meth c H locs u.1 u.2 Q (F0 m pc ms ((As.map (tv ek ad)).reverse ++ st1.map (tv ek ad))) := by
                    intro hmem hgo
                    have hM := met_of ih hE hrun hmem c4 oA' w.2.2.2.1 ad H.size
                    have hv : (∀ ad', v.toList.map (tv ek ad') = v.toList) ∧ okS (hN h3) v.toList := by
                      have hq := run_ret hrun
                      exact ⟨fun ad' => hq.1 ek ad', hq.2⟩
                    exact qgo F w lh o1 ol hv.2 (hv.1 ad) hv.1 (hgo hM) kk
                  have hini : ∀ {q : Nat}, q ∈ [0, 1, 2, 3, 4, 5, 6, 7, 8, 9, 20, 31, 32, 33, 34] → Cond.initialized (nmC q) ∈ WT := fun hq => WT_in (ini_w _ hq).1 (ini_w _ hq).2
                  have hgw := ml10_g
                  simp only [Bool.and_eq_true] at hgw
                  have cB' : ∀ (hmem : N ∈ mAll) {k : Nat} (hlk : Cond.methodLink (nmC (mO M)) k (mY N) ∈ WT), CallB R s args (nmC (mO M)) k (mY N) (mB N) (mL N) (mT N) (mCode N :: WT) (qRm d N) (mC N) (mS N) (mA N) := by
                    intro hmem k hlk
                    obtain ⟨g1, g2, g3, g4, g5, g6⟩ := mAll_in hmem
                    exact callB_of (mA N) F.2.2.2.2.1 (GoodWT (fun w hw => (List.mem_cons.mp hw).elim (fun q => q ▸ g1) id)) rfl rfl rfl (by rw [g6]; exact F.2.2.2.2.1 _ (hini g2)) (F.2.2.2.2.1 _ hlk) g3 ⟨by show d + 8 + 1 ≤ _; omega, hrm ⟨by show d + 8 + 1 ≤ _; omega, g5⟩⟩
                  rcases hkind with ⟨k, hd, hl, hrc, hlen⟩ | ⟨k, hd, hl, hlen⟩ | ⟨k, hd, hl, hrc, hlen⟩ | ⟨k, hd, hl, hrc, hlen⟩
                  · have hm := mlF_mem hl
                    obtain ⟨m1, m2, m3⟩ := ml_all.1 _ hm
                    have hlk := WT_in (pos_mem ml0_w hm) (List.all_eq_true.mp hgw.1.1.1.1.2 _ hm)
                    have hsl : Cond.selects (mY N).cls (mY N) (mY N) ∈ WT := WT_in (pos_mem (w := fun M => Cond.selects (mY M).cls (mY M) (mY M)) mVirt_w m2) (by have := List.all_eq_true.mp mVirt_g _ m2; simp only [Bool.and_eq_true] at this; exact this.1)
                    have hin : Cond.instanceMethod (mY N) ∈ WT := WT_in (pos_mem (w := fun M => Cond.instanceMethod (mY M)) mInst_w m3) (mInst_g _ m3)
                    refine fin m1 (fun hM => ?_)
                    match As, hrc, hlen, oA', hM with
                    | .ref b :: As', hrc, hlen, oA', hM =>
                      have hkb : (kd b).1 = mO N := by simpa [rcv] using hrc
                      have h10 : mO N < 10 := by
                        rcases Nat.lt_or_ge (mO N) 10 with q | q
                        · exact q
                        · exfalso
                          have hb9 := kd_b b
                          have := (mAll_in m1).2.1
                          simp at this
                          omega
                      have hcell := va_recv F.2.2.2.2.2.1 w.1 (vw_at h10) (by have := qw_at (cB := cB) (cI := cI) (cJ := cJ) (ad := ad) oA'.1; rw [qcel_obj hkb h10] at this; exact this)
                      have hcl : (mY N).cls = nmC (mO N) := (mAll_in m1).2.2.2.2.2
                      refine va_runV (C := nmC (mO N)) (b := ad b) (As := As'.map (tv ek ad)) (Ts := WT) ⟨F.1, F.2.1, F.2.2.1, F.2.2.2.1, F.2.2.2.2.1⟩ hM ⟨cB' m1 hlk, F.2.2.2.2.1 _ hin, by rw [← hcl]; exact F.2.2.2.2.1 _ hsl⟩ ⟨qpre_blind, hcell, fun U hU hW => qpre_at (As := .ref b :: As') F w U hU hW⟩ rfl (by simpa using hlen) lh.2.1 ?_ (lv_room hrest) hd hf
                      simp [tv]
                    | .retAddr j :: As', hrc, hlen, oA', hM =>
                      have hkj : mO N = 32 ∧ j < 21 := by simpa [rcv] using hrc
                      have hcell := vk_recv F.2.2.2.2.2.2.2.2.2.2.1.1 hkj.2 w.2.2.1
                      have hcl : (mY N).cls = nmC (mO N) := (mAll_in m1).2.2.2.2.2
                      have hj := hE.2.1 j hkj.2
                      refine va_runV (C := "java/lang/String") (b := adK j) (As := As'.map (tv ek ad)) (Ts := WT) ⟨F.1, F.2.1, F.2.2.1, F.2.2.2.1, F.2.2.2.2.1⟩ (by simpa only [List.map_cons, tv, hj] using hM) ⟨cB' m1 hlk, F.2.2.2.2.1 _ hin, ?_⟩ ⟨qpre_blind, hcell, fun U hU hW => ?_⟩ rfl (by simpa using hlen) lh.2.1 ?_ (lv_room hrest) hd hf
                      · have := F.2.2.2.2.1 _ hsl
                        rw [hcl, hkj.1] at this
                        exact this
                      · have := qpre_at (As := .retAddr j :: As') F w U hU hW
                        simpa only [List.map_cons, tv, hj] using this
                      · simp [tv, hj]
                    | .int _ :: _, hrc, _, _, _ => simp [rcv] at hrc
                    | .long _ :: _, hrc, _, _, _ => simp [rcv] at hrc
                    | .float _ :: _, hrc, _, _, _ => simp [rcv] at hrc
                    | .double _ :: _, hrc, _, _, _ => simp [rcv] at hrc
                    | .null :: _, hrc, _, _, _ => simp [rcv] at hrc
                    | [], hrc, _, _, _ => simp [rcv] at hrc
                  · have hm := mlF_mem hl
                    obtain ⟨m1, m2⟩ := ml_all.2.1 _ hm
                    have hlk := WT_in (pos_mem ml1_w hm) (List.all_eq_true.mp hgw.1.1.1.2 _ hm)
                    have hst : Cond.static (mY N) ∈ WT := by
                      have := List.all_eq_true.mp mStat_w _ m2
                      simp only [Bool.and_eq_true, decide_eq_true_eq] at this
                      exact WT_in this.1 this.2
                    refine fin m1 (fun hM => ?_)
                    exact va_runS (As := As.map (tv ek ad)) (Ts := WT) ⟨F.1, F.2.1, F.2.2.1, F.2.2.2.1, F.2.2.2.2.1⟩ hM ⟨cB' m1 hlk, F.2.2.2.2.1 _ hst⟩ ⟨qpre_blind, fun U hU hW => qpre_at F w U hU hW⟩ rfl (by simpa using hlen) lh.2.1 rfl (lv_room hrest) hd hf
                  · have hm := mlF_mem hl
                    obtain ⟨m1, m2, m3⟩ := ml_all.2.2.1 _ hm
                    have hlk := WT_in (pos_mem ml2_w hm) (List.all_eq_true.mp hgw.1.1.2 _ hm)
                    have hin : Cond.instanceMethod (mY N) ∈ WT := WT_in (pos_mem (w := fun M => Cond.instanceMethod (mY M)) mInst_w m2) (mInst_g _ m2)
                    have hnone : mT N = none := ml_none.1 _ hm
                    refine fin m1 (fun hM => ?_)
                    match As, hrc, hlen, oA', hM with
                    | .ref b :: As', hrc, hlen, oA', hM =>
                      refine va_runI (b := ad b) (As := As'.map (tv ek ad)) (Ts := WT) ⟨F.1, F.2.1, F.2.2.1, F.2.2.2.1, F.2.2.2.2.1⟩ hM ⟨by have := cB' m1 hlk; rw [hnone] at this; exact this, m3, F.2.2.2.2.1 _ hin⟩ ⟨qpre_blind, fun U hU hW => qpre_at (As := .ref b :: As') F w U hU hW⟩ rfl (by simpa using hlen) lh.2.1 ?_ (lv_room hrest) hd hf
                      simp [tv]
                    | .retAddr j :: As', hrc, hlen, oA', hM =>
                      exfalso
                      have : mO N = 32 := (show mO N = 32 ∧ j < 21 by simpa [rcv] using hrc).1
                      exact ml2_o _ hm this
                    | .int _ :: _, hrc, _, _, _ => simp [rcv] at hrc
                    | .long _ :: _, hrc, _, _, _ => simp [rcv] at hrc
                    | .float _ :: _, hrc, _, _, _ => simp [rcv] at hrc
                    | .double _ :: _, hrc, _, _, _ => simp [rcv] at hrc
                    | .null :: _, hrc, _, _, _ => simp [rcv] at hrc
                    | [], hrc, _, _, _ => simp [rcv] at hrc
                  · have hm := mlF_mem hl
                    obtain ⟨m1, m2, m3⟩ := ml_all.2.2.2 _ hm
                    have hin : Cond.instanceMethod (mY N) ∈ WT := WT_in (pos_mem (w := fun M => Cond.instanceMethod (mY M)) mInst_w m2) (mInst_g _ m2)
                    have hnone : mT N = none := ml_none.2 _ hm
                    obtain ⟨g1, g2, g3, g4, g5, g6⟩ := mAll_in m1
                    have hnl0 := F.2.2.2.2.2.2.2.2.2.2.1.2.2.2.1 ((mO M, k), N) hm
                    have hnl : va_Nw (.methodLinkNest (nmC (mO M)) k (mY N) (nmC (mO M))) s := by unfold lnkN at hnl0; exact hnl0
                    have hcn : va_CN R s args (nmC (mO M)) k (mY N) (nmC (mO M)) (mB N) (mL N) (mT N) (mCode N :: WT) (qRm d N) (mC N) (mS N) (mA N) := va_cnB (mA N) F.2.2.2.2.1 (GoodWT (fun w hw => (List.mem_cons.mp hw).elim (fun q => q ▸ g1) id)) rfl rfl rfl hnl (by rw [g6]; exact F.2.2.2.2.1 _ (hini g2)) g3 ⟨by show d + 8 + 1 ≤ _; omega, hrm ⟨by show d + 8 + 1 ≤ _; omega, g5⟩⟩
                    refine fin m1 (fun hM => ?_)
                    match As, hrc, hlen, oA', hM with
                    | .ref b :: As', hrc, hlen, oA', hM =>
                      refine va_runIN (b := ad b) (As := As'.map (tv ek ad)) (Ts := WT) ⟨F.1, F.2.1, F.2.2.1, F.2.2.2.1, F.2.2.2.2.1⟩ hM ⟨by rw [hnone] at hcn; exact hcn, m3, F.2.2.2.2.1 _ hin⟩ ⟨qpre_blind, fun U hU hW => qpre_at (As := .ref b :: As') F w U hU hW⟩ rfl (by simpa using hlen) lh.2.1 ?_ (lv_room hrest) hd hf
                      simp [tv]
                    | .retAddr j :: As', hrc, hlen, oA', hM =>
                      exfalso
                      have : mO N = 32 := (show mO N = 32 ∧ j < 21 by simpa [rcv] using hrc).1
                      exact ml3_o _ hm this
                    | .int _ :: _, hrc, _, _, _ => simp [rcv] at hrc
                    | .long _ :: _, hrc, _, _, _ => simp [rcv] at hrc
                    | .float _ :: _, hrc, _, _, _ => simp [rcv] at hrc
                    | .double _ :: _, hrc, _, _, _ => simp [rcv] at hrc
                    | .null :: _, hrc, _, _, _ => simp [rcv] at hrc
                    | [], hrc, _, _, _ => simp [rcv] at hrc
              · have e1 : ∃ z, c5 = ((u.1 + mC mX7_led, u.2 + mS mX7_led), pc + 3, ls1, .int z :: st1, c5.2.2.2.2) := by
                  match r2, hb with
                  | none, hb => cases hb; exact ⟨1, rfl⟩
                  | some none, hb => cases hb
                  | some (some (.int _)), hb => cases hb; exact ⟨0, rfl⟩
                  | some (some (.long _)), hb => cases hb
                  | some (some (.float _)), hb => cases hb
                  | some (some (.double _)), hb => cases hb
                  | some (some .null), hb => cases hb
                  | some (some (.ref _)), hb => cases hb
                  | some (some (.retAddr _)), hb => cases hb
                obtain ⟨z, hz⟩ := e1
                have kk := ih (d + 1) M (u.1 + mC mX7_led, u.2 + mS mX7_led) (pc + 3) ls1 (.int z :: st1) c5.2.2.2.2 r h1 (by rw [← hz]; exact hr) p e R s m args below meth c Q A ad0 h0 F G hfr hlo cR cT
                exact hLed n ih d u pc ls1 st1 h2 h3 c5.2.2.2.2 M r2 a b k i N' z hrun (by rw [← hz]; exact hb) q1 q2 q3 q4 c1 c2 c3 p e R s m args below meth c Q A ad0 h0 F hfr hlo G kk
