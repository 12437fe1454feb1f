/-! ===== the plain machine is sound ===== -/
theorem pos_f {α : Type} {L : List α} {f : α → qM} {P : List Nat} {T : List qM} (h : L.map f = P.filterMap (fun i => T[i]?)) {e : α} (he : e ∈ L) : f e ∈ T := by
  have h1 : f e ∈ L.map f := List.mem_map.mpr ⟨e, he, rfl⟩
  rw [h] at h1
  obtain ⟨i, -, hi⟩ := List.mem_filterMap.mp h1
  exact List.mem_of_getElem? hi
set_option maxRecDepth 20000 in
theorem ml0a : ml0T.map (fun e => e.2) = [97, 74, 133, 118, 123, 50, 68, 54, 75, 46, 51, 43, 4, 2, 0, 3, 35, 41, 55, 57, 56, 38, 47, 48, 44, 33, 53, 37, 73, 34, 49, 36, 58, 52, 122, 9, 14, 67, 69, 23, 59, 96, 143, 101, 113, 67, 131, 69, 72, 73, 88, 15, 107, 19, 15, 72, 91, 114, 12, 10, 105, 111, 21, 22, 82, 8, 21, 90, 89, 128, 87, 85, 95, 142, 80, 78, 8, 140, 115, 81, 86, 77, 12, 141, 92, 127, 84, 11, 99, 29, 26, 17, 28, 22, 30, 31, 32, 98, 26, 112, 32, 136, 137, 104, 126, 100, 125, 132, 124, 117, 119, 24, 13, 20, 25, 121, 109, 145, 116, 16, 144, 134, 62, 64, 120, 138, 110, 94, 139, 65, 66, 102, 63, 83, 60, 130, 70, 135, 106, 252, 176, 248, 236, 188, 165, 223, 228, 203, 4, 0, 233, 183, 229, 214, 235, 226, 209, 200, 146, 232, 227, 193, 148, 224, 230, 225, 234, 149, 231, 173, 153, 189, 175, 261, 192, 198, 247, 263, 184, 150, 160, 177, 161, 210, 163, 237, 164, 206, 215, 217, 152, 151, 191, 250, 208, 162, 238, 245, 174, 156, 172, 260, 167, 187, 202, 258, 204, 157, 259, 169, 244, 251, 155, 181, 182, 179, 180, 265, 178, 216, 255, 253, 256, 205, 243, 211, 186, 242, 201, 241, 218, 166, 185, 222, 212, 266, 239, 267, 264, 249, 240, 221, 262, 171, 190, 213, 170, 257, 194, 154, 207, 246, 254].filterMap (fun i => mAll[i]?) := rfl
set_option maxRecDepth 20000 in
theorem ml0v : ml0T.map (fun e => e.2) = [82, 62, 115, 101, 106, 40, 57, 44, 63, 36, 41, 34, 3, 1, 0, 2, 29, 33, 45, 47, 46, 32, 37, 38, 35, 27, 43, 31, 61, 28, 39, 30, 48, 42, 105, 5, 10, 56, 58, 18, 49, 81, 125, 86, 96, 56, 113, 58, 60, 61, 74, 11, 91, 14, 11, 60, 77, 97, 8, 6, 89, 94, 16, 17, 68, 4, 16, 76, 75, 111, 73, 71, 80, 124, 66, 65, 4, 122, 98, 67, 72, 64, 8, 123, 78, 110, 70, 7, 84, 23, 21, 13, 22, 17, 24, 25, 26, 83, 21, 95, 26, 118, 119, 88, 109, 85, 108, 114, 107, 100, 102, 19, 9, 15, 20, 104, 92, 127, 99, 12, 126, 116, 51, 53, 103, 120, 93, 79, 121, 54, 55, 87, 52, 69, 50, 112, 59, 117, 90, 224, 154, 220, 208, 166, 144, 195, 200, 177, 3, 0, 205, 161, 201, 188, 207, 198, 183, 174, 128, 204, 199, 171, 129, 196, 202, 197, 206, 130, 203, 151, 134, 167, 153, 233, 170, 173, 219, 235, 162, 131, 139, 155, 140, 184, 142, 209, 143, 180, 189, 191, 133, 132, 169, 222, 182, 141, 210, 217, 152, 137, 150, 232, 146, 165, 176, 230, 178, 138, 231, 147, 216, 223, 136, 159, 160, 157, 158, 237, 156, 190, 227, 225, 228, 179, 215, 185, 164, 214, 175, 213, 192, 145, 163, 194, 186, 238, 211, 239, 236, 221, 212, 193, 234, 149, 168, 187, 148, 229, 172, 135, 181, 218, 226].filterMap (fun i => mVirt[i]?) := rfl
set_option maxRecDepth 20000 in
theorem ml0i : ml0T.map (fun e => e.2) = [89, 67, 123, 109, 114, 43, 61, 47, 68, 39, 44, 37, 3, 1, 0, 2, 31, 36, 48, 50, 49, 34, 40, 41, 38, 29, 46, 33, 66, 30, 42, 32, 51, 45, 113, 5, 10, 60, 62, 19, 52, 88, 133, 93, 104, 60, 121, 62, 65, 66, 81, 11, 99, 15, 11, 65, 84, 105, 8, 6, 97, 102, 17, 18, 75, 4, 17, 83, 82, 119, 80, 78, 87, 132, 73, 71, 4, 130, 106, 74, 79, 70, 8, 131, 85, 118, 77, 7, 91, 25, 22, 13, 24, 18, 26, 27, 28, 90, 22, 103, 28, 126, 127, 96, 117, 92, 116, 122, 115, 108, 110, 20, 9, 16, 21, 112, 100, 135, 107, 12, 134, 124, 55, 57, 111, 128, 101, 86, 129, 58, 59, 94, 56, 76, 53, 120, 63, 125, 98, 234, 163, 230, 218, 175, 153, 205, 210, 187, 3, 0, 215, 170, 211, 198, 217, 208, 193, 184, 136, 214, 209, 180, 138, 206, 212, 207, 216, 139, 213, 160, 143, 176, 162, 243, 179, 183, 229, 245, 171, 140, 148, 164, 149, 194, 151, 219, 152, 190, 199, 201, 142, 141, 178, 232, 192, 150, 220, 227, 161, 146, 159, 242, 155, 174, 186, 240, 188, 147, 241, 156, 226, 233, 145, 168, 169, 166, 167, 247, 165, 200, 237, 235, 238, 189, 225, 195, 173, 224, 185, 223, 202, 154, 172, 204, 196, 248, 221, 249, 246, 231, 222, 203, 244, 158, 177, 197, 157, 239, 181, 144, 191, 228, 236].filterMap (fun i => mInst[i]?) := rfl
set_option maxRecDepth 20000 in
theorem ml1a : ml1T.map (fun e => e.2) = [42, 40, 5, 1, 6, 45, 129, 7, 7, 93, 108, 199, 197, 220, 195, 158, 219, 159, 168].filterMap (fun i => mAll[i]?) := rfl
set_option maxRecDepth 20000 in
theorem ml1s : ml1T.map (fun e => e.2) = [5, 4, 1, 0, 2, 6, 9, 3, 3, 7, 8, 15, 14, 17, 13, 10, 16, 11, 12].filterMap (fun i => mStat[i]?) := rfl
set_option maxRecDepth 20000 in
theorem ml2a : ml2T.map (fun e => e.2) = [103, 39, 18, 79, 27, 196].filterMap (fun i => mAll[i]?) := rfl
set_option maxRecDepth 20000 in
theorem ml2i : ml2T.map (fun e => e.2) = [95, 35, 14, 72, 23, 182].filterMap (fun i => mInst[i]?) := rfl
set_option maxRecDepth 20000 in
theorem ml3a : ml3T.map (fun e => e.2) = [71, 76, 61, 147].filterMap (fun i => mAll[i]?) := rfl
set_option maxRecDepth 20000 in
theorem ml3i : ml3T.map (fun e => e.2) = [64, 69, 54, 137].filterMap (fun i => mInst[i]?) := rfl
theorem led_a : mX7_led ∈ mAll := List.mem_of_getElem? (i := 106) rfl
theorem led_v : mX7_led ∈ mVirt := List.mem_of_getElem? (i := 90) rfl

theorem mAll_in {N : qM} (h : N ∈ mAll) : mCode N ∈ WT ∧ mO N ∈ [0, 1, 2, 3, 4, 5, 6, 7, 8, 9, 20, 31, 32, 33, 34] ∧ ((mY N).cls ≠ "java/lang/invoke/MethodHandle" ∧ (mY N).cls ≠ "java/lang/invoke/VarHandle" ∧ (parseMethodDescriptor (mY N).desc).map (fun d => d.parameters.length) = some (mA N)) ∧ _root_.Jvm.plainName (mY N).cls = true ∧ mL N ≤ 40 ∧ (mY N).cls = nmC (mO N) := by
  have h3 := List.all_eq_true.mp mAll_g N h
  simp only [Bool.and_eq_true, decide_eq_true_eq] at h3
  obtain ⟨⟨⟨⟨⟨⟨⟨g1, g2⟩, g3⟩, g4⟩, g5⟩, g6⟩, g7⟩, g8⟩ := h3
  have h4 : mCode N ∈ lw_tbl := by
    have h5 : mCode N ∈ mAll.map mCode := List.mem_map.mpr ⟨N, h, rfl⟩
    rw [mAll_w] at h5
    obtain ⟨i, -, hi⟩ := List.mem_filterMap.mp h5
    exact List.mem_of_getElem? hi
  exact ⟨WT_in h4 g1, g2, ⟨g3, g4, g5⟩, g6, g7, g8⟩
theorem ml_all : (∀ q ∈ ml0T, q.2 ∈ mAll ∧ q.2 ∈ mVirt ∧ q.2 ∈ mInst) ∧ (∀ q ∈ ml1T, q.2 ∈ mAll ∧ q.2 ∈ mStat) ∧ (∀ q ∈ ml2T, q.2 ∈ mAll ∧ q.2 ∈ mInst ∧ (mY q.2).name = "<init>") ∧ (∀ q ∈ ml3T, q.2 ∈ mAll ∧ q.2 ∈ mInst ∧ (mY q.2).name = "<init>") := by
  have h2 : ∀ q ∈ ml2T, (mY q.2).name = "<init>" := by decide +kernel
  have h3 : ∀ q ∈ ml3T, (mY q.2).name = "<init>" := by decide +kernel
  exact ⟨fun q h => ⟨pos_f ml0a h, pos_f ml0v h, pos_f ml0i h⟩, fun q h => ⟨pos_f ml1a h, pos_f ml1s h⟩, fun q h => ⟨pos_f ml2a h, pos_f ml2i h, h2 q h⟩, fun q h => ⟨pos_f ml3a h, pos_f ml3i h, h3 q h⟩⟩
theorem ml_none : (∀ q ∈ ml2T, mT q.2 = none) ∧ (∀ q ∈ ml3T, mT q.2 = none) := by decide +kernel
theorem mAll_no20 : ∀ N ∈ mAll, ¬ mO N = 20 := by decide +kernel
theorem mInst_g : ∀ N ∈ mInst, goodWord (.instanceMethod (mY N)) = true := by decide +kernel
section
variable {p : Program} {l : Launch} {e : Env} {R : Room} {s : State} {m : MethodId} {args : Array Value} {below : List Frame} {meth : Method} {c : Code} {Q : State → Prop} {M : qM}
variable {dC : Nat → ClassId} {dI : Nat → Nat → Nat} {cB cI cJ : ClassId} {ek : Nat → Value} {adK adV : Nat → Nat} {A : Nat → Prop} {ad0 : Nat → Nat} {h0 : qH}
/-- behind a call -/
theorem qcall {H H0 : Heap} {locs : List Loc} {cells slots mc ms pc : Nat} {ls : Array Slot} {rest st0 : List Value} {A0 A1 : Nat → Prop} {free : Addr → Prop} {v : Option Value} {B : State → Prop} {Qa : State → Outcome → State → Prop} (hQ : ∀ st oc t, Qa st oc t → (oc = .returned v ∧ B t) ∧ va_F A1 st t)
    (hr : va_Run p l e R s m args below meth c H locs cells slots mc ms (F0 m pc ls st0) rest Qa free) (hS : va_S A0 H0 H locs) (hA : ∀ q, q < H.size → A1 q → A0 q) (hf : ∀ q, free q → A0 q)
    (kk : ∀ (t : State) (H1 : Heap) (locs1 : List Loc), t.heap = H1 → B t → H.size ≤ H1.size → va_S A0 H0 H1 locs1 → W p l e R s m args below meth c H1 locs1 (cells + mc) (slots + ms) Q (F0 m (pc + 3) ls (v.toList ++ rest))) : W p l e R s m args below meth c H locs cells slots Q (F0 m pc ls st0) := by
  intro T hT X
  obtain ⟨v', st₀, t, T', L, hh0, X', hL, e1, e2, hq, st⟩ := hr T hT X
  obtain ⟨⟨hv, hb⟩, hz, hk⟩ := hQ _ _ _ hq
  cases hv
  rw [hh0] at hz hk
  obtain ⟨t2, a1, b1⟩ := kk t T'.heap (locs ++ L) e1.symm hb (by rw [e1]; exact hz)
    ⟨Nat.le_trans hS.1 (by rw [e1]; exact hz), fun q h1 h2 => by rw [e1, hk q (Nat.lt_of_lt_of_le h1 hS.1) (fun z => h2 (hA q (Nat.lt_of_lt_of_le h1 hS.1) z))]; exact hS.2.1 q h1 h2, fun q hq => by
      rcases List.mem_append.mp hq with h | h
      · exact hS.2.2 q h
      · exact hf _ (hL q h)⟩ T' rfl X'
  exact ⟨t2, st t2 a1, b1⟩
end
/-- the words of the throw that move by rows of their own -/
def thW : List Cond := (vx_atS RX7 286 "java/util/NoSuchElementException" ["java/lang/RuntimeException", "java/lang/Exception"]).filter (fun w => !goodWord w)
/-- what the law needs for a throw -/
def qTh (l : Launch) (s : State) (A : Nat → Prop) (d : Nat) (R : Room) : Prop := l.stackTraces = false ∧ (∀ w ∈ thW, va_Nw w s) ∧ (∃ sa, vk_R RX7 284 "no such house that never burns" sa s) ∧ vx_Zq Bundle.tN "UNASSIGNED_STACK" Bundle.steD A s s.heap ∧ vx_Zq Bundle.tN "SUPPRESSED_SENTINEL" Bundle.listD A s s.heap ∧ d + 12 ≤ R.frames ∧ 60 * (d + 12) ≤ R.locals
/-- what is to be shown of n steps -/
def Snd (l : Launch) (dC : Nat → ClassId) (dI : Nat → Nat → Nat) (cB cI cJ : ClassId) (ek : Nat → Value) (adK adV : Nat → Nat) (n : Nat) : Prop :=
  ∀ (d : Nat) (M : qM) (u : Nat × Nat) (pc : Nat) (ls : qL) (st : List Value) (h : qH) (r : Option (Option Value)) (h1 : qH), run n d M (u, pc, ls, st, h) = some (r, h1) →
  ∀ (p : Program) (e : Env) (R : Room) (s : State) (m : MethodId) (args : Array Value) (below : List Frame) (meth : Method) (c : Code) (Q : State → Prop) (A : Nat → Prop) (ad0 : Nat → Nat) (h0 : qH), qFx p R s m args meth c M dC dI cB cI cJ ek adK adV A → (mO M = 20 → qSc s A ek h0 ∧ qTh l s A d R) → d + 8 ≤ R.frames → 60 * (d + 8) ≤ R.locals →
  (∀ v, r = some v → ∀ (ad : Nat → Nat) (H : Heap) (locs : List Loc) (ms : Array Slot) (u : Nat × Nat) (pc : Nat), qWd s dC dI cB cI cJ A ad0 h0 ad h1 H locs → rtA M pc v → u.1 ≤ mC M → u.2 ≤ mS M → W p l e R s m args below meth c H locs u.1 u.2 Q (F0 m pc ms v.toList)) →
  (r = none → ∀ (ad : Nat → Nat) (H : Heap) (locs : List Loc) (ms : Array Slot) (u : Nat × Nat) (pc : Nat), qWd s dC dI cB cI cJ A ad0 h0 ad h1 H locs → ms.size = mL M → u.1 + 1 ≤ mC M → u.2 + 6 ≤ mS M → mO M = 7 → decode (mB M) pc = .ok (.new 282, 3) → W p l e R s m args below meth c H locs u.1 u.2 Q (F0 m pc ms [])) →
  VV p l e R s m args below meth c Q M dC dI cB cI cJ ek A ad0 h0 u pc ls st h
theorem okS_app {n : Nat} : ∀ {l1 l2 : List Value}, okS n (l1 ++ l2) ↔ okS n l1 ∧ okS n l2
  | [], l2 => by simp [okS]
  | v :: l1, l2 => by simp only [List.cons_append, okS, okS_app (l1 := l1) (l2 := l2), and_assoc]
theorem okS_rev {n : Nat} : ∀ {l : List Value}, okS n l → okS n l.reverse
  | [], _ => trivial
  | v :: l, o => by
    rw [List.reverse_cons]
    exact okS_app.mpr ⟨okS_rev o.2, o.1, trivial⟩
theorem okS_nr {n : Nat} {v : Option Value} {M : qM} {pc : Nat} (h : rtA M pc v) : okS n v.toList := by
  rcases h with ⟨x, t, rfl, -⟩ | ⟨x, rfl, -⟩ | ⟨rfl, -⟩ <;> first | exact ⟨trivial, trivial⟩ | trivial
/-- a method that returns is met -/
theorem met_of {l : Launch} {dC : Nat → ClassId} {dI : Nat → Nat → Nat} {cB cI cJ : ClassId} {ek : Nat → Value} {adK adV : Nat → Nat} {n : Nat} (ih : Snd l dC dI cB cI cJ ek adK adV n) (hE : qEk ek adK adV) {d : Nat} {N : qM} {As : List Value} {h h1 : qH} {v : Option Value} (hr : run n d N ((0, 0), 0, la (mL N) As, [], h) = some (some v, h1)) (hm : N ∈ mAll) (hAs : (As.map fun v => v.category).sum ≤ mL N) (oA : okS (hN h) As) (hw : hwf h) (ad : Nat → Nat) (sz : Nat) :
    Met l (mY N) (mCode N :: WT) (qRm d N) (qPre dC dI cB cI cJ ek adK adV ad h sz As) (qPs dC dI cB cI cJ ad h sz v h1) (mC N) (mS N) (va_A (qw cB cI cJ ad h) sz) := by
  obtain ⟨g1, g2, g3, g4, g5, g6⟩ := mAll_in hm
  refine Met.ofW (cc := mB N) (maxL := mL N) (ret := mT N) g4 rfl ?_
  intro p e s m args below meth c s₁ B hml hv
  obtain ⟨rfl, hsz, hP, hK, hD0, hX⟩ := hv
  subst hsz
  have hts := atoms_spec (ws := mCode N :: WT) B.pre
  have hown : s.vm.findClass (mY N).cls = some m.cls := findClass_of_methodNamed B.named
  rw [g6] at hown
  have F : qFx p (qRm d N) s m (As.map (tv ek ad)).toArray meth c N dC dI cB cI cJ ek adK adV (va_A (qw cB cI cJ ad h) s.heap.size) :=
    ⟨B.exec, B.bytes, hml, hown, fun w hw => hts w (List.mem_cons_of_mem _ hw), hK, fun q hq => Or.inr hq, B.returns, B.notSynchronized, (name_of_methodNamed B.named B.method).1, hX, hE, Nat.le_refl _, Nat.le_refl _⟩
  rw [lg_entry_eq]
  refine ih d N (0, 0) 0 (la (mL N) As) [] h (some v) h1 hr p e (qRm d N) s m _ below meth c _ (va_A (qw cB cI cJ ad h) s.heap.size) ad h F ?_ (Nat.le_refl _) (Nat.le_refl _) ?_ ?_ ad s.heap [] _ ⟨hP, hD0.self, va_S.rf, hw, Nat.le_refl _, fun _ _ => rfl, fun _ _ => rfl⟩ (la_lH hE.1 hAs) trivial (okL_la As _ oA)
  · intro q
    exfalso
    revert q
    have := mAll_no20
    intro q
    exact this N hm q
  · intro v' hv' ad' H locs ms u pc w hrt h2 h3
    cases hv'
    refine W.widen (k := mC N) (n := mS N) h2 h3 ?_
    have hpost : ∀ t : State, t.heap = H → qPs dC dI cB cI cJ ad h s.heap.size v h1 (As.map (tv ek ad)).toArray s (.returned v) t := fun t ht => ⟨⟨rfl, ad', by rw [ht]; exact w.1, w.2.1, w.2.2.2.1, w.2.2.2.2.1, w.2.2.2.2.2.1, w.2.2.2.2.2.2⟩, w.2.2.1.F ht⟩
    rcases hrt with ⟨x, t, rfl, q1, q2, q3⟩ | ⟨x, rfl, q1, q3⟩ | ⟨rfl, q1, q3⟩
    · exact W.zret F.1 F.2.1 (by rw [F.2.2.2.2.2.2.2.1]; exact q1) q2 (fun t ht _ => hpost t ht) w.2.2.1.2.2 q3 B.notSynchronized
    · exact W.lret F.1 F.2.1 (by rw [F.2.2.2.2.2.2.2.1]; exact q1) (fun t ht _ => hpost t ht) w.2.2.1.2.2 q3 B.notSynchronized
    · exact W.vret F.1 F.2.1 (by rw [F.2.2.2.2.2.2.2.1]; exact q1) (fun t ht _ => hpost t ht) w.2.2.1.2.2 q3 B.notSynchronized
  · intro q; cases q

theorem GoodWT {L : List Cond} (h : ∀ w ∈ L, w ∈ WT) : GoodIn WT L := fun w hw => ⟨h w hw, good_of_word (List.mem_filter.mp (h w hw)).2⟩
theorem stp_call {M N : qM} {u u1 : Nat × Nat} {pc pc1 : Nat} {ls ls1 : qL} {st st1 As : List Value} {h h1 : qH} {o : Option Nat} (x : stp M u pc ls st h = some (.inr (.inl (N, As, (u1, pc1, ls1, st1, h1), o)))) :
    u1 = (u.1 + mC N, u.2 + mS N) ∧ pc1 = pc + 3 ∧ ls1 = ls ∧ h1 = h ∧ u.1 + mC N ≤ mC M ∧ u.2 + mS N ≤ mS M ∧ (st1.map fun v => v.category).sum ≤ 8 ∧ (As.map fun v => v.category).sum ≤ mL N ∧
    ((o = none ∧ st = As.reverse ++ st1 ∧ ((∃ k, decode (mB M) pc = .ok (.invokevirtual k, 3) ∧ mlF ml0T (mO M) k = some N ∧ rcv N As = true ∧ As.length = mA N + 1) ∨ (∃ k, decode (mB M) pc = .ok (.invokestatic k, 3) ∧ mlF ml1T (mO M) k = some N ∧ As.length = mA N) ∨ (∃ k, decode (mB M) pc = .ok (.invokespecial k, 3) ∧ mlF ml2T (mO M) k = some N ∧ rcv N As = true ∧ As.length = mA N + 1) ∨ (∃ k, decode (mB M) pc = .ok (.invokespecial k, 3) ∧ mlF ml3T (mO M) k = some N ∧ rcv N As = true ∧ As.length = mA N + 1))) ∨
     (∃ a i b k N', o = some a ∧ N = mX7_led ∧ As = [.ref b, .int i] ∧ st = .ref a :: .int i :: .ref b :: st1 ∧ kd a = (12, 1) ∧ (kd b).1 = 7 ∧ decode (mB M) pc = .ok (.invokestatic k, 3) ∧ mlF ml17T (mO M) k = some N')) := by
  have hc : ∀ {N' : qM} {st' As' : List Value} {o' : Option Nat}, cl2 M N' u pc ls As' st' h o' = some (.inr (.inl (N, As, (u1, pc1, ls1, st1, h1), o))) → N' = N ∧ As' = As ∧ st' = st1 ∧ o' = o ∧ u1 = (u.1 + mC N, u.2 + mS N) ∧ pc1 = pc + 3 ∧ ls1 = ls ∧ h1 = h ∧ u.1 + mC N ≤ mC M ∧ u.2 + mS N ≤ mS M ∧ (st1.map fun v => v.category).sum ≤ 8 ∧ (As.map fun v => v.category).sum ≤ mL N := by
    intro N' st' As' o' q
    unfold cl2 at q
    split at q
    · rename_i g
      simp only [Option.some.injEq, Sum.inr.injEq, Sum.inl.injEq, Prod.mk.injEq] at q
      obtain ⟨rfl, rfl, ⟨rfl, rfl, rfl, rfl, rfl⟩, rfl⟩ := q
      exact ⟨rfl, rfl, rfl, rfl, rfl, rfl, rfl, rfl, g.1, g.2.1, g.2.2.1, g.2.2.2⟩
    · cases q
  have hi : ∀ {N' : qM} {k : Nat}, inv2 M N' u pc ls st h k = some (.inr (.inl (N, As, (u1, pc1, ls1, st1, h1), o))) → N' = N ∧ As = (st.take k).reverse ∧ As.length = k ∧ st = As.reverse ++ st1 ∧ o = none ∧ u1 = (u.1 + mC N, u.2 + mS N) ∧ pc1 = pc + 3 ∧ ls1 = ls ∧ h1 = h ∧ u.1 + mC N ≤ mC M ∧ u.2 + mS N ≤ mS M ∧ (st1.map fun v => v.category).sum ≤ 8 ∧ (As.map fun v => v.category).sum ≤ mL N := by
    intro N' k q
    unfold inv2 at q
    split at q
    · rename_i g
      obtain ⟨rfl, rfl, rfl, rfl, q3⟩ := hc q
      exact ⟨rfl, rfl, by rw [List.length_reverse]; exact g, by rw [List.reverse_reverse, List.take_append_drop], rfl, q3⟩
    · cases q
  have ng : ∀ {u : Nat × Nat} {pc : Nat} {ls : qL} {st : List Value} {h : qH}, ¬ go2 u pc ls st h = some (.inr (.inl (N, As, (u1, pc1, ls1, st1, h1), o))) := by intro u pc ls st h q; cases q
  have nt : ∀ {u : Nat × Nat} {pc : Nat} {off : Int} {ls : qL} {st : List Value} {h : qH}, ¬ gt2 u pc off ls st h = some (.inr (.inl (N, As, (u1, pc1, ls1, st1, h1), o))) := by
    intro u pc off ls st h q
    unfold gt2 at q
    split at q
    · exact ng q
    · cases q
  have nb : ∀ {u : Nat × Nat} {pc : Nat} {off : Int} {b : Bool} {ls : qL} {st : List Value} {h : qH}, ¬ br2 u pc off b ls st h = some (.inr (.inl (N, As, (u1, pc1, ls1, st1, h1), o))) := by
    intro u pc off b ls st h q
    unfold br2 at q
    split at q
    · split at q <;> exact ng q
    · cases q
  have np : ∀ {u : Nat × Nat} {pc : Nat} {ls : qL} {st : List Value} {h : qH} {f : Int32 → Int32 → Option Int32}, ¬ op2 u pc ls st h f = some (.inr (.inl (N, As, (u1, pc1, ls1, st1, h1), o))) := by
    intro u pc ls st h f q
    unfold op2 at q
    split at q
    · split at q
      · exact ng q
      · cases q
    · cases q
  unfold stp at x
  split at x
  case h_2 => cases x
  rename_i i n hd
  split at x
  case isFalse => cases x
  rename_i hn
  cases i
  case invokevirtual k =>
    obtain rfl : n = 3 := by simpa [iLn] using hn
    simp only [stI] at x
    split at x
    · rename_i q
      split at x
      · rename_i q2
        obtain ⟨rfl, g1, g2, g3, g4, g5, g6, g7, g8, g9, g10, g11, g12⟩ := hi x
        exact ⟨g5, g6, g7, g8, g9, g10, g11, g12, Or.inl ⟨g4, g3, Or.inl ⟨k, hd, q, by rw [g1]; exact q2, g2⟩⟩⟩
      · cases x
    · cases x
  case invokespecial k =>
    obtain rfl : n = 3 := by simpa [iLn] using hn
    simp only [stI] at x
    split at x
    · rename_i q
      split at x
      · rename_i q2
        obtain ⟨rfl, g1, g2, g3, g4, g5, g6, g7, g8, g9, g10, g11, g12⟩ := hi x
        exact ⟨g5, g6, g7, g8, g9, g10, g11, g12, Or.inl ⟨g4, g3, Or.inr (Or.inr (Or.inl ⟨k, hd, q, by rw [g1]; exact q2, g2⟩))⟩⟩
      · cases x
    · split at x
      · rename_i q
        split at x
        · rename_i q2
          obtain ⟨rfl, g1, g2, g3, g4, g5, g6, g7, g8, g9, g10, g11, g12⟩ := hi x
          exact ⟨g5, g6, g7, g8, g9, g10, g11, g12, Or.inl ⟨g4, g3, Or.inr (Or.inr (Or.inr ⟨k, hd, q, by rw [g1]; exact q2, g2⟩))⟩⟩
        · cases x
      · split at x
        · split at x
          · split at x
            · exact absurd x ng
            · cases x
          · cases x
        · cases x
  case invokestatic k =>
    obtain rfl : n = 3 := by simpa [iLn] using hn
    simp only [stI] at x
    split at x
    · rename_i q
      obtain ⟨rfl, g1, g2, g3, g4, g5, g6, g7, g8, g9, g10, g11, g12⟩ := hi x
      exact ⟨g5, g6, g7, g8, g9, g10, g11, g12, Or.inl ⟨g4, g3, Or.inr (Or.inl ⟨k, hd, q, g2⟩)⟩⟩
    · split at x
      · split at x
        · exact absurd x np
        · cases x
      · split at x
        · split at x
          · exact absurd x np
          · cases x
        · split at x
          · split at x
            · split at x
              · exact absurd x ng
              · cases x
            · cases x
          · split at x
            · rename_i q
              split at x
              · split at x
                · rename_i q2
                  obtain ⟨rfl, rfl, rfl, rfl, g5, g6, g7, g8, g9, g10, g11, g12⟩ := hc x
                  exact ⟨g5, g6, g7, g8, g9, g10, g11, g12, Or.inr ⟨_, _, _, k, _, rfl, rfl, rfl, rfl, q2.1, q2.2, hd, q⟩⟩
                · cases x
              · cases x
            · cases x
  all_goals
    exfalso
    simp only [stI] at x
    repeat' (first | exact ng x | exact nt x | exact nb x | exact np x | (cases x; done) | (unfold op2 at x) | (unfold opL at x) | (unfold ldI at x) | (unfold ldJ at x) | (unfold ldA at x) | (unfold stI1 at x) | (unfold stJ1 at x) | (unfold stA1 at x) | split at x)
