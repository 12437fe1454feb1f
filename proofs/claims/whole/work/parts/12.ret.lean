/-! ===== calls, and the whole ===== -/
def qRm (d : Nat) (N : qM) : Room := { frames := d + 8, cells := mC N, slots := mS N, locals := 60 * (d + 8) }
def qPre (dC : Nat → ClassId) (dI : Nat → Nat → Nat) (cB cI cJ : ClassId) (ek : Nat → Value) (adK adV : Nat → Nat) (ad : Nat → Nat) (h : qH) (sz : Nat) (As : List Value) : Array Value → State → Prop :=
  va_Pc (As.map (tv ek ad)) (fun U => U.heap.size = sz ∧ va_P (dC, dI) vwCl (qw cB cI cJ ad h) U.heap ∧ va_K (dC, dI) vwCl [(cB, .byte), (cI, .int), (cJ, .long)] U ∧ va_D (fun _ => True) (qw cB cI cJ ad h) ∧ qX ek adK adV (va_A (qw cB cI cJ ad h) sz) U U.heap)
def qBk (dC : Nat → ClassId) (dI : Nat → Nat → Nat) (cB cI cJ : ClassId) (ad : Nat → Nat) (h : qH) (A : Nat → Prop) (h1 : qH) (t : State) : Prop :=
  ∃ ad1 : Nat → Nat, va_P (dC, dI) vwCl (qw cB cI cJ ad1 h1) t.heap ∧ va_D A (qw cB cI cJ ad1 h1) ∧ hwf h1 ∧ hN h ≤ hN h1 ∧ (∀ a, a < hN h → ad1 a = ad a) ∧ ∀ a, SCR ≤ a → hI h1 a = hI h a
def qPs (dC : Nat → ClassId) (dI : Nat → Nat → Nat) (cB cI cJ : ClassId) (ad : Nat → Nat) (h : qH) (sz : Nat) (v : Option Value) (h1 : qH) : Array Value → State → Outcome → State → Prop :=
  fun _ st oc t => (oc = .returned v ∧ qBk dC dI cB cI cJ ad h (va_A (qw cB cI cJ ad h) sz) h1 t) ∧ va_F (va_A (qw cB cI cJ ad h) sz) st t
theorem qX.same {ek : Nat → Value} {adK adV : Nat → Nat} {A : Nat → Prop} {u U : State} {H : Heap} (hv : U.vm = u.vm) (h : qX ek adK adV A u H) : qX ek adK adV A U H := by
  have ha : u.vm.Alike U.vm := by rw [hv]; exact Vm.Alike.refl _
  exact ⟨vk_S.moved ha h.1, fun q hq => vk_R.same hv (h.2.1 q hq), fun q hq => va_Nw.same rfl hv.symm (h.2.2.1 q hq), fun q hq => va_Nw.same rfl hv.symm (h.2.2.2.1 q hq), va_Z.moved ha h.2.2.2.2.1, va_Z.moved ha h.2.2.2.2.2⟩
theorem qX.warm {ek : Nat → Value} {adK adV : Nat → Nat} {A : Nat → Prop} {s U : State} {H : Heap} (hW : s.WarmedH U.vm) (h : qX ek adK adV A s H) : qX ek adK adV A U H :=
  ⟨vk_S.moved hW.alike h.1, fun q hq => vk_R.warm hW (h.2.1 q hq), fun q hq => va_Nw.warmF hW (h.2.2.1 q hq), fun q hq => va_Nw.warmM hW (h.2.2.2.1 q hq), va_Z.moved hW.alike h.2.2.2.2.1, va_Z.moved hW.alike h.2.2.2.2.2⟩
theorem qX.kept {ek : Nat → Value} {adK adV : Nat → Nat} {A : Nat → Prop} {U : State} {H H1 : Heap} (hq : ∀ a : Nat, a < H.size → ¬ A a → H1[a]? = H[a]?) (h : qX ek adK adV A U H) : qX ek adK adV A U H1 :=
  ⟨vk_S.kept h.1 hq, h.2.1, h.2.2.1, h.2.2.2.1, va_Z.kept h.2.2.2.2.1 hq, va_Z.kept h.2.2.2.2.2 hq⟩
theorem qX.narrow {ek : Nat → Value} {adK adV : Nat → Nat} {A B : Nat → Prop} {U : State} {H : Heap} (hAB : ∀ q, B q → A q) (h : qX ek adK adV A U H) : qX ek adK adV B U H :=
  ⟨vk_S.narrow h.1 hAB, h.2.1, h.2.2.1, h.2.2.2.1, va_Z.narrow h.2.2.2.2.1 hAB, va_Z.narrow h.2.2.2.2.2 hAB⟩
/-- the locals at the entry -/
theorem la_sub {ek : Nat → Value} (he : ∀ j, (ek j).category = 1) {ad : Nat → Nat} : ∀ (As : List Value) (n j : Nat), ∀ q ∈ lvOf ek ad j (la n As), q ∈ lv_args j (As.map (tv ek ad))
  | [], n, j, q, h => by
    exfalso
    obtain ⟨i, v, -, h2⟩ := lvOf_inv h
    have key : ∀ (n i : Nat), lg (List.replicate n none) i = none := by
      intro n
      induction n with
      | zero => intro i; rfl
      | succ n ih =>
        intro i
        cases i with
        | zero => rfl
        | succ i => simp only [List.replicate_succ, lg]; exact ih i
    simp only [la, key] at h2
    cases h2
  | v :: vs, n, j, q, h => by
    rcases lv_cat v with c | c
    · have e1 : la n (v :: vs) = some v :: la (n - 1) vs := by
        cases v <;> first | rfl | (simp [Value.category] at c)
      rw [e1] at h
      simp only [List.map_cons, lv_args, tv_cat he, c]
      rcases List.mem_cons.mp h with h | h
      · rw [h]; exact List.mem_cons_self
      · exact List.mem_cons_of_mem _ (la_sub he vs (n - 1) (j + 1) q h)
    · have e1 : la n (v :: vs) = some v :: none :: la (n - 2) vs := by
        cases v <;> first | rfl | (simp [Value.category] at c)
      rw [e1] at h
      simp only [List.map_cons, lv_args, tv_cat he, c]
      rcases List.mem_cons.mp h with h | h
      · rw [h]; exact List.mem_cons_self
      · exact List.mem_cons_of_mem _ (la_sub he vs (n - 2) (j + 2) q h)
theorem la_len : ∀ (As : List Value) (n : Nat), (As.map fun v => v.category).sum ≤ n → (la n As).length = n
  | [], n, _ => by simp [la]
  | v :: vs, n, h => by
    simp only [List.map_cons, List.sum_cons] at h
    rcases lv_cat v with c | c
    · have e1 : la n (v :: vs) = some v :: la (n - 1) vs := by
        cases v <;> first | rfl | (simp [Value.category] at c)
      rw [e1, List.length_cons, la_len vs (n - 1) (by omega)]
      omega
    · have e1 : la n (v :: vs) = some v :: none :: la (n - 2) vs := by
        cases v <;> first | rfl | (simp [Value.category] at c)
      rw [e1, List.length_cons, List.length_cons, la_len vs (n - 2) (by omega)]
      omega
theorem sl_len : ∀ (vs : List Value), (lg_sl vs).length = (vs.map fun v => v.category).sum
  | [] => rfl
  | v :: vs => by
    have ih := sl_len vs
    simp only [lg_sl, List.flatMap_cons, List.length_append, List.map_cons, List.sum_cons] at ih ⊢
    rw [ih]
    rcases lv_cat v with c | c <;> simp [c]
theorem la_lH {ek : Nat → Value} (he : ∀ j, (ek j).category = 1) {ad : Nat → Nat} {As : List Value} {n : Nat} (h : (As.map fun v => v.category).sum ≤ n) : lH ek ad (la n As) ((lg_sl (As.map (tv ek ad)) ++ List.replicate (n - (lg_sl (As.map (tv ek ad))).length) Slot.unset).toArray) n := by
  have h1 : (lg_sl (As.map (tv ek ad))).length ≤ n := by rw [sl_len, tv_catS he]; exact h
  have h2 := lv_entry (As.map (tv ek ad)) h1
  exact ⟨la_len As n h, h2.1, h2.2.1, fun q hq => h2.2.2 q (la_sub he As n 0 q hq)⟩
theorem okL_la {n : Nat} : ∀ (As : List Value) (k : Nat), okS n As → okL n (la k As)
  | [], k, _ => by
    have key : ∀ k : Nat, okL n (List.replicate k none) := by
      intro k
      induction k with
      | zero => trivial
      | succ k ih => exact ⟨trivial, ih⟩
    exact key k
  | v :: vs, k, o => by
    rcases lv_cat v with c | c
    · have e1 : la k (v :: vs) = some v :: la (k - 1) vs := by
        cases v <;> first | rfl | (simp [Value.category] at c)
      rw [e1]
      exact ⟨o.1, okL_la vs (k - 1) o.2⟩
    · have e1 : la k (v :: vs) = some v :: none :: la (k - 2) vs := by
        cases v <;> first | rfl | (simp [Value.category] at c)
      rw [e1]
      exact ⟨o.1, trivial, okL_la vs (k - 2) o.2⟩
/-- where a method returns -/
def rtA (M : qM) (pc : Nat) (v : Option Value) : Prop :=
  (∃ (x : Int32) (t : FieldType), v = some (.int x) ∧ mT M = some t ∧ narrow t (.int x) = .int x ∧ decode (mB M) pc = .ok (.ireturn, 1)) ∨ (∃ x : Int64, v = some (.long x) ∧ mT M = some .long ∧ decode (mB M) pc = .ok (.lreturn, 1)) ∨ (v = none ∧ mT M = none ∧ decode (mB M) pc = .ok (.return_, 1))
theorem stp_ret {M : qM} {u : Nat × Nat} {pc : Nat} {ls : qL} {st : List Value} {h : qH} {r : Option (Option Value)} (x : stp M u pc ls st h = some (.inr (.inr r))) : (∃ v, r = some v ∧ rtA M pc v ∧ st = v.toList ∧ u.1 ≤ mC M ∧ u.2 ≤ mS M) ∨ (r = none ∧ st = [] ∧ (u.1 + 1 ≤ mC M ∧ u.2 + 6 ≤ mS M) ∧ mO M = 7 ∧ decode (mB M) pc = .ok (.new 282, 3)) := by
  have ng : ∀ {u : Nat × Nat} {pc : Nat} {ls : qL} {st : List Value} {h : qH}, ¬ go2 u pc ls st h = some (.inr (.inr r)) := by intro u pc ls st h q; cases q
  have nt : ∀ {u : Nat × Nat} {pc : Nat} {off : Int} {ls : qL} {st : List Value} {h : qH}, ¬ gt2 u pc off ls st h = some (.inr (.inr r)) := by
    intro u pc off ls st h q
    unfold gt2 at q
    split at q
    · exact ng q
    · cases q
  have nb : ∀ {u : Nat × Nat} {pc : Nat} {off : Int} {b : Bool} {ls : qL} {st : List Value} {h : qH}, ¬ br2 u pc off b ls st h = some (.inr (.inr r)) := by
    intro u pc off b ls st h q
    unfold br2 at q
    split at q
    · split at q <;> exact ng q
    · cases q
  have nc : ∀ {M N : qM} {u : Nat × Nat} {pc : Nat} {ls : qL} {As st : List Value} {h : qH} {o : Option Nat}, ¬ cl2 M N u pc ls As st h o = some (.inr (.inr r)) := by
    intro M N u pc ls As st h o q
    unfold cl2 at q
    split at q <;> cases q
  have ni : ∀ {M N : qM} {u : Nat × Nat} {pc : Nat} {ls : qL} {st : List Value} {h : qH} {k : Nat}, ¬ inv2 M N u pc ls st h k = some (.inr (.inr r)) := by
    intro M N u pc ls st h k q
    unfold inv2 at q
    split at q
    · exact nc q
    · cases q
  unfold stp at x
  split at x
  case h_2 => cases x
  rename_i i n hd
  split at x
  case isFalse => cases x
  rename_i hn
  cases i
  case ireturn =>
    obtain rfl : n = 1 := by simpa [iLn] using hn
    simp only [stI] at x
    split at x
    · split at x
      · rename_i t ht
        split at x
        · rename_i q
          cases x
          exact Or.inl ⟨_, rfl, Or.inl ⟨_, t, rfl, ht, q.1, hd⟩, rfl, q.2⟩
        · cases x
      · cases x
    · cases x
  case lreturn =>
    obtain rfl : n = 1 := by simpa [iLn] using hn
    simp only [stI] at x
    split at x
    · split at x
      · rename_i q
        cases x
        exact Or.inl ⟨_, rfl, Or.inr (Or.inl ⟨_, rfl, q.1, hd⟩), rfl, q.2⟩
      · cases x
    · cases x
  case return_ =>
    obtain rfl : n = 1 := by simpa [iLn] using hn
    simp only [stI] at x
    split at x
    · split at x
      · rename_i q
        cases x
        exact Or.inl ⟨_, rfl, Or.inr (Or.inr ⟨rfl, q.1, hd⟩), rfl, q.2⟩
      · cases x
    · cases x
  case new k =>
    obtain rfl : n = 3 := by simpa [iLn] using hn
    simp only [stI] at x
    split at x
    · rename_i q
      split at x
      · rename_i q2
        cases x
        exact Or.inr ⟨rfl, q2.1, q2.2, q.1, by rw [← q.2]; exact hd⟩
      · cases x
    · split at x
      · split at x
        · exact absurd x ng
        · cases x
      · cases x
  all_goals
    exfalso
    simp only [stI] at x
    repeat' (first | exact ng x | exact nt x | exact nb x | exact ni x | exact nc x | (cases x; done) | (unfold op2 at x) | (unfold opL at x) | (unfold ldI at x) | (unfold ldJ at x) | (unfold ldA at x) | (unfold stI1 at x) | (unfold stJ1 at x) | (unfold stA1 at x) | split at x)
