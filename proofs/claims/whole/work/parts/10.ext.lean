/-! ===== constants, texts ===== -/
theorem xw_w : ∀ w ∈ [Cond.fieldLink (nmC 32) 9 "java/lang/String" "value" "[B", Cond.fieldLink (nmC 32) 15 "java/lang/String" "coder" "B", Cond.fieldLink (nmC 32) 38 "java/lang/String" "COMPACT_STRINGS" "Z", Cond.fieldLink (nmC 32) 1053 "jdk/internal/util/Preconditions" "SIOOBE_FORMATTER" "Ljava/util/function/BiFunction;"], w ∈ lw_tbl ∧ goodWord w = true := by decide +kernel
theorem cs_spec {o k : Nat} {v : Value} (h : cs o k = some v) : (∃ x, v = .int x ∧ Cond.constant (nmC o) k x ∈ WT) ∨ ∃ j, v = .retAddr j ∧ ((o, k), j) ∈ csT := by
  unfold cs at h
  cases hf : ciT.find? (fun e => e.1 == (o, k)) with
  | some e =>
    rw [hf] at h
    have h1 : e.1 = (o, k) := by simpa using List.find?_some hf
    have h2 := ciT_w e (List.mem_of_find?_eq_some hf)
    rw [h1] at h2
    exact Or.inl ⟨e.2, (Option.some.inj h).symm, WT_in h2.1 h2.2⟩
  | none =>
    rw [hf] at h
    cases hg : csT.find? (fun e => e.1 == (o, k)) with
    | none => rw [hg] at h; cases h
    | some e =>
      rw [hg] at h
      have h1 : e.1 = (o, k) := by simpa using List.find?_some hg
      have h2 := List.mem_of_find?_eq_some hg
      exact Or.inr ⟨e.2, (Option.some.inj h).symm, by rw [← h1]; exact h2⟩
section
variable {p : Program} {l : Launch} {e : Env} {R : Room} {s : State} {m : MethodId} {args : Array Value} {below : List Frame} {meth : Method} {c : Code} {Q : State → Prop} {M : qM}
variable {dC : Nat → ClassId} {dI : Nat → Nat → Nat} {cB cI cJ : ClassId} {ek : Nat → Value} {adK adV : Nat → Nat} {A : Nat → Prop} {ad0 : Nat → Nat} {h0 : qH}
theorem va_ldcwS {cc : ByteArray} {pc : Nat} {ls : Array Slot} {rest : List Value} {H : Heap} {locs : List Loc} {cells slots : Nat} (hexec : p.tables.exec = Jvm.exec) (hb : c.code = cc) {own tx : String} {index q : Nat} (hown : s.vm.findClass own = some m.cls) (hZ : vk_R own index tx q s) (hdg : decode cc pc = .ok (.ldc_w index, 3))
    (k : W p l e R s m args below meth c H locs cells slots Q (F0 m (pc + 3) ls (.ref q :: rest))) : W p l e R s m args below meth c H locs cells slots Q (F0 m pc ls rest) := by
  intro T hT X
  obtain ⟨t, a1, b1⟩ := k T hT X
  refine ⟨t, ?_, b1⟩
  obtain ⟨k2, cf, i, a', hk, hcf, hcp, -, hr, hev'⟩ := Cond.stringRef_spec hown hZ.1
  cases hZ.2.symm.trans hev'
  obtain ⟨k', hk', he⟩ := X.warmed.alike.2.2 _ _ hk
  have hr' : k'.resolved[index]? = some (some (.string q)) := by
    rcases X.warmed.entry hk hk' index with h | ⟨h, -⟩
    · rw [h]; exact hr
    · rw [hr] at h; cases h
  have hdg' : decode c.code pc = .ok (.ldc_w index, 3) := by rw [hb]; exact hdg
  jvm_step X.here [hexec, hdg', ldc_w.wp_string (e := e) (s := T) (f := F0 m pc ls rest) X.here.top hk' (by rw [he]; exact hcf) hcp hr']
  exact a1
theorem V_ldc (F : qFx p R s m args meth c M dC dI cB cI cJ ek adK adV A) {u : Nat × Nat} {pc k : Nat} {v : Value} {ls : qL} {st : List Value} {h : qH} (hd : decode (mB M) pc = .ok (.ldc k, 2)) (hc : cs (mO M) k = some v) (kk : VV p l e R s m args below meth c Q M dC dI cB cI cJ ek A ad0 h0 u (pc + 2) ls (v :: st) h) : VV p l e R s m args below meth c Q M dC dI cB cI cJ ek A ad0 h0 u pc ls st h := by
  intro ad H locs ms w lh os ol
  rcases cs_spec hc with ⟨x, rfl, hw⟩ | ⟨j, rfl, hw⟩
  · exact lv_ldc F.1 F.2.1 F.2.2.2.1 (F.2.2.2.2.1 _ hw) hd (kk ad H locs ms w lh ⟨trivial, os⟩ ol)
  · have g := kk ad H locs ms w lh ⟨trivial, os⟩ ol
    simp only [List.map_cons, tv, F.2.2.2.2.2.2.2.2.2.2.2.1.2.1 j (csT_w _ hw).2] at g
    have hv : vk_R (nmC (mO M)) k (sTx.getD j "") (adK j) s := F.2.2.2.2.2.2.2.2.2.2.1.2.1 ((mO M, k), j) hw
    exact va_ldcS F.1 F.2.1 F.2.2.2.1 hv hd g
theorem V_ldcw (F : qFx p R s m args meth c M dC dI cB cI cJ ek adK adV A) {u : Nat × Nat} {pc k : Nat} {v : Value} {ls : qL} {st : List Value} {h : qH} (hd : decode (mB M) pc = .ok (.ldc_w k, 3)) (hc : cs (mO M) k = some v) (kk : VV p l e R s m args below meth c Q M dC dI cB cI cJ ek A ad0 h0 u (pc + 3) ls (v :: st) h) : VV p l e R s m args below meth c Q M dC dI cB cI cJ ek A ad0 h0 u pc ls st h := by
  intro ad H locs ms w lh os ol
  rcases cs_spec hc with ⟨x, rfl, hw⟩ | ⟨j, rfl, hw⟩
  · exact lv_ldcw F.1 F.2.1 F.2.2.2.1 (F.2.2.2.2.1 _ hw) hd (kk ad H locs ms w lh ⟨trivial, os⟩ ol)
  · have g := kk ad H locs ms w lh ⟨trivial, os⟩ ol
    simp only [List.map_cons, tv, F.2.2.2.2.2.2.2.2.2.2.2.1.2.1 j (csT_w _ hw).2] at g
    have hv : vk_R (nmC (mO M)) k (sTx.getD j "") (adK j) s := F.2.2.2.2.2.2.2.2.2.2.1.2.1 ((mO M, k), j) hw
    exact va_ldcwS F.1 F.2.1 F.2.2.2.1 hv hd g
theorem V_ldc2 (F : qFx p R s m args meth c M dC dI cB cI cJ ek adK adV A) {u : Nat × Nat} {pc k : Nat} {v : Int64} {ls : qL} {st : List Value} {h : qH} (hd : decode (mB M) pc = .ok (.ldc2_w k, 3)) (hc : cj (mO M) k = some v) (kk : VV p l e R s m args below meth c Q M dC dI cB cI cJ ek A ad0 h0 u (pc + 3) ls (.long v :: st) h) : VV p l e R s m args below meth c Q M dC dI cB cI cJ ek A ad0 h0 u pc ls st h := by
  intro ad H locs ms w lh os ol
  unfold cj at hc
  cases hf : cjT.find? (fun e => e.1 == (mO M, k)) with
  | none => rw [hf] at hc; cases hc
  | some z =>
    rw [hf] at hc
    have h1 : z.1 = (mO M, k) := by simpa using List.find?_some hf
    have h2 := cjT_w z (List.mem_of_find?_eq_some hf)
    have h3 : z.2 = v := by simpa using hc
    rw [h1, h3] at h2
    exact lv_ldc2 F.1 F.2.1 F.2.2.2.1 (F.2.2.2.2.1 _ (WT_in h2.1 h2.2)) hd (kk ad H locs ms w lh ⟨trivial, os⟩ ol)
theorem V_getX (F : qFx p R s m args meth c M dC dI cB cI cJ ek adK adV A) {u : Nat × Nat} {pc j : Nat} {ls : qL} {st : List Value} {h : qH} (hd : decode (mB M) pc = .ok (.getfield 9, 3)) (hM : mO M = 32) (hj : j < 21) (kk : VV p l e R s m args below meth c Q M dC dI cB cI cJ ek A ad0 h0 u (pc + 3) ls (.retAddr (100 + j) :: st) h) : VV p l e R s m args below meth c Q M dC dI cB cI cJ ek A ad0 h0 u pc ls (.retAddr j :: st) h := by
  intro ad H locs ms w lh os ol
  have g := kk ad H locs ms w lh ⟨trivial, os.2⟩ ol
  have hE := F.2.2.2.2.2.2.2.2.2.2.2.1
  simp only [List.map_cons, tv, hE.2.2.1 j hj] at g
  simp only [List.map_cons, tv, hE.2.1 j hj]
  have hl := F.2.2.2.2.1 _ (WT_in (xw_w (Cond.fieldLink (nmC 32) 9 "java/lang/String" "value" "[B") (by simp)).1 (xw_w _ (by simp)).2)
  exact vk_getf F.1 F.2.1 (F.2.2.2.2.2.2.2.2.2.2.1.1.1 j hj).2.2.1 w.2.2.1 (by have := F.2.2.2.1; rw [hM] at this; exact this) hl (fun _ q => q) hd g
theorem V_getC (F : qFx p R s m args meth c M dC dI cB cI cJ ek adK adV A) {u : Nat × Nat} {pc j : Nat} {ls : qL} {st : List Value} {h : qH} (hd : decode (mB M) pc = .ok (.getfield 15, 3)) (hM : mO M = 32) (hj : j < 21) (kk : VV p l e R s m args below meth c Q M dC dI cB cI cJ ek A ad0 h0 u (pc + 3) ls (.int 0 :: st) h) : VV p l e R s m args below meth c Q M dC dI cB cI cJ ek A ad0 h0 u pc ls (.retAddr j :: st) h := by
  intro ad H locs ms w lh os ol
  have g := kk ad H locs ms w lh ⟨trivial, os.2⟩ ol
  have hE := F.2.2.2.2.2.2.2.2.2.2.2.1
  simp only [List.map_cons, tv, hE.2.1 j hj]
  have hl := F.2.2.2.2.1 _ (WT_in (xw_w (Cond.fieldLink (nmC 32) 15 "java/lang/String" "coder" "B") (by simp)).1 (xw_w _ (by simp)).2)
  exact vk_getf F.1 F.2.1 (F.2.2.2.2.2.2.2.2.2.2.1.1.1 j hj).2.1 w.2.2.1 (by have := F.2.2.2.1; rw [hM] at this; exact this) hl (fun _ q => q) hd g
theorem V_gets (F : qFx p R s m args meth c M dC dI cB cI cJ ek adK adV A) {u : Nat × Nat} {pc : Nat} {ls : qL} {st : List Value} {h : qH} (hd : decode (mB M) pc = .ok (.getstatic 38, 3)) (hM : mO M = 32) (kk : VV p l e R s m args below meth c Q M dC dI cB cI cJ ek A ad0 h0 u (pc + 3) ls (.int 1 :: st) h) : VV p l e R s m args below meth c Q M dC dI cB cI cJ ek A ad0 h0 u pc ls st h := by
  intro ad H locs ms w lh os ol
  have g := kk ad H locs ms w lh ⟨trivial, os⟩ ol
  have hl := F.2.2.2.2.1 _ (WT_in (xw_w (Cond.fieldLink (nmC 32) 38 "java/lang/String" "COMPACT_STRINGS" "Z") (by simp)).1 (xw_w _ (by simp)).2)
  exact va_gets F.1 F.2.1 F.2.2.2.2.2.2.2.2.2.2.1.2.2.2.2.1 w.2.2.1 (by have := F.2.2.2.1; rw [hM] at this; exact this) hl (fun _ q => q) hd g
theorem V_getsF (F : qFx p R s m args meth c M dC dI cB cI cJ ek adK adV A) {u : Nat × Nat} {pc : Nat} {ls : qL} {st : List Value} {h : qH} (hd : decode (mB M) pc = .ok (.getstatic 1053, 3)) (hM : mO M = 32) (kk : VV p l e R s m args below meth c Q M dC dI cB cI cJ ek A ad0 h0 u (pc + 3) ls (.retAddr 2000 :: st) h) : VV p l e R s m args below meth c Q M dC dI cB cI cJ ek A ad0 h0 u pc ls st h := by
  intro ad H locs ms w lh os ol
  have g := kk ad H locs ms w lh ⟨trivial, os⟩ ol
  have hl := F.2.2.2.2.1 _ (WT_in (xw_w (Cond.fieldLink (nmC 32) 1053 "jdk/internal/util/Preconditions" "SIOOBE_FORMATTER" "Ljava/util/function/BiFunction;") (by simp)).1 (xw_w _ (by simp)).2)
  exact va_gets F.1 F.2.1 F.2.2.2.2.2.2.2.2.2.2.1.2.2.2.2.2 w.2.2.1 (by have := F.2.2.2.1; rw [hM] at this; exact this) hl (fun _ q => q) hd g
theorem V_alenX (F : qFx p R s m args meth c M dC dI cB cI cJ ek adK adV A) {u : Nat × Nat} {pc j : Nat} {ls : qL} {st : List Value} {h : qH} (hd : decode (mB M) pc = .ok (.arraylength, 1)) (h1 : 100 ≤ j) (h2 : j < 121) (kk : VV p l e R s m args below meth c Q M dC dI cB cI cJ ek A ad0 h0 u (pc + 1) ls (.int (Int32.ofNat (sLen.getD (j - 100) 0)) :: st) h) : VV p l e R s m args below meth c Q M dC dI cB cI cJ ek A ad0 h0 u pc ls (.retAddr j :: st) h := by
  intro ad H locs ms w lh os ol
  have g := kk ad H locs ms w lh ⟨trivial, os.2⟩ ol
  have hE := F.2.2.2.2.2.2.2.2.2.2.2.1.2.2.1 (j - 100) (by omega)
  rw [show 100 + (j - 100) = j by omega] at hE
  simp only [List.map_cons, tv, hE]
  exact va_tlen F.1 F.2.1 (F.2.2.2.2.2.2.2.2.2.2.1.1.1 (j - 100) (by omega)).2.2.2 w.2.2.1 rfl hd g
theorem V_baldX (F : qFx p R s m args meth c M dC dI cB cI cJ ek adK adV A) {u : Nat × Nat} {pc j : Nat} {i : Int32} {ls : qL} {st : List Value} {h : qH} (hd : decode (mB M) pc = .ok (.baload, 1)) (h1 : 100 ≤ j) (h2 : j < 121) (hi : vp_in i (sLen.getD (j - 100) 0)) (kk : VV p l e R s m args below meth c Q M dC dI cB cI cJ ek A ad0 h0 u (pc + 1) ls (.int ((sByt.getD (j - 100) []).getD i.toNatClampNeg 0) :: st) h) : VV p l e R s m args below meth c Q M dC dI cB cI cJ ek A ad0 h0 u pc ls (.int i :: .retAddr j :: st) h := by
  intro ad H locs ms w lh os ol
  have g := kk ad H locs ms w lh ⟨trivial, os.2.2⟩ ol
  have hE := F.2.2.2.2.2.2.2.2.2.2.2.1.2.2.1 (j - 100) (by omega)
  rw [show 100 + (j - 100) = j by omega] at hE
  simp only [List.map_cons, tv, hE]
  exact va_tb F.1 F.2.1 (F.2.2.2.2.2.2.2.2.2.2.1.1.1 (j - 100) (by omega)).2.2.2 w.2.2.1 hi rfl hd g
/-- the script, where there is one -/
def qSc (s : State) (A : Nat → Prop) (ek : Nat → Value) (h0 : qH) : Prop := ∃ b L : Nat, ek 1000 = .ref b ∧ L < 2 ^ 31 ∧ hI h0 (SCR + 1) 0 = Int32.ofNat L ∧ va_X b L (hI h0 SCR) s s.heap ∧ b < s.heap.size ∧ ¬ A b
theorem V_slen (F : qFx p R s m args meth c M dC dI cB cI cJ ek adK adV A) (G : mO M = 20 → qSc s A ek h0) {u : Nat × Nat} {pc j : Nat} {ls : qL} {st : List Value} {h : qH} (hd : decode (mB M) pc = .ok (.arraylength, 1)) (hM : mO M = 20) (hj : j = 1000) (kk : VV p l e R s m args below meth c Q M dC dI cB cI cJ ek A ad0 h0 u (pc + 1) ls (.int (hI h (SCR + 1) 0) :: st) h) : VV p l e R s m args below meth c Q M dC dI cB cI cJ ek A ad0 h0 u pc ls (.retAddr j :: st) h := by
  intro ad H locs ms w lh os ol
  have g := kk ad H locs ms w lh ⟨trivial, os.2⟩ ol
  obtain ⟨b, L, hb, hL, h1, hX, h2, h3⟩ := G hM
  subst hj
  simp only [List.map_cons, tv, hb, w.2.2.2.2.2.2 (SCR + 1) (Nat.le_succ _), h1] at g ⊢
  exact va_slen F.1 F.2.1 hX h2 h3 w.2.2.1 hd g
theorem V_sld (F : qFx p R s m args meth c M dC dI cB cI cJ ek adK adV A) (G : mO M = 20 → qSc s A ek h0) {u : Nat × Nat} {pc j : Nat} {i : Int32} {ls : qL} {st : List Value} {h : qH} (hd : decode (mB M) pc = .ok (.iaload, 1)) (hM : mO M = 20) (hj : j = 1000) (hi : vp_in i (hI h (SCR + 1) 0).toNatClampNeg) (kk : VV p l e R s m args below meth c Q M dC dI cB cI cJ ek A ad0 h0 u (pc + 1) ls (.int (hI h SCR i.toNatClampNeg) :: st) h) : VV p l e R s m args below meth c Q M dC dI cB cI cJ ek A ad0 h0 u pc ls (.int i :: .retAddr j :: st) h := by
  intro ad H locs ms w lh os ol
  have g := kk ad H locs ms w lh ⟨trivial, os.2.2⟩ ol
  obtain ⟨b, L, hb, hL, h1, hX, h2, h3⟩ := G hM
  subst hj
  rw [w.2.2.2.2.2.2 (SCR + 1) (Nat.le_succ _), h1] at hi
  have e1 : (Int32.ofNat L).toNatClampNeg = L := nI_clamp hL
  rw [e1] at hi
  simp only [List.map_cons, tv, hb, w.2.2.2.2.2.2 SCR (Nat.le_refl _)] at g ⊢
  exact va_sld F.1 F.2.1 hX h2 h3 w.2.2.1 hi hd g
end
