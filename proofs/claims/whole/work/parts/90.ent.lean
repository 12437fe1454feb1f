/-! ===== the law's entry: what the Statement gives of the start ===== -/
def nW : List Cond := flatC (Jvm.Cond.and given_1 narrow_1)
def tmS (i : Nat) : Term := .string (nmC 2) ((csT.getD i ((0, 0), 0)).1.2)
theorem st_ex : ∀ i, i < 21 → Cond.exactly (tmS i) "java/lang/String" ∈ nW := by decide +kernel
theorem st_co : ∀ i, i < 21 → Cond.eq (.field (tmS i) "java/lang/String" "coder" "B") (.int 0) ∈ nW := by decide +kernel
theorem st_ar : ∀ i, i < 21 → Cond.arrayOf (.field (tmS i) "java/lang/String" "value" "[B") .byte ∈ nW := by decide +kernel
theorem st_le : ∀ i, i < 21 → Cond.eq (.length (.field (tmS i) "java/lang/String" "value" "[B")) (.int (Int32.ofNat (sLen.getD i 0))) ∈ nW := by decide +kernel
theorem st_el : ∀ i, i < 21 → ∀ j, j < sLen.getD i 0 → Cond.eq (.elem (.field (tmS i) "java/lang/String" "value" "[B") (.int (Int32.ofNat j))) (.int ((sByt.getD i []).getD j 0)) ∈ nW := by decide +kernel
theorem st_n : ∀ i, i < 21 → sLen.getD i 0 < 2 ^ 31 := by decide +kernel
theorem st_d : ∀ i, i < 21 → ∀ j, j < 21 → Int32.ofNat (sLen.getD i 0) = Int32.ofNat (sLen.getD j 0) → (∀ k, k < sLen.getD i 0 → (sByt.getD i []).getD k 0 = (sByt.getD j []).getD k 0) → i = j := by decide +kernel
theorem st_q : ∀ i, i < 21 → ∀ j, j < 21 → Int32.ofNat (sLen.getD i 0) = Int32.ofNat (sLen.getD j 0) → sLen.getD i 0 = sLen.getD j 0 := by decide +kernel
/-- a place of a text: it is its first, or one with it -/
theorem cs_of : ∀ e ∈ csT, e.2 < 21 ∧ (Term.string (nmC e.1.1) e.1.2 = tmS e.2 ∨ Cond.eq (tmS e.2) (.string (nmC e.1.1) e.1.2) ∈ nW) := by decide +kernel
theorem cs_w : ∀ e ∈ csT, Cond.stringRef (nmC e.1.1) e.1.2 (sTx.getD e.2 "") ∈ lw_tbl := by decide +kernel
theorem fn_w : ∀ e ∈ fnT, fnW e ∈ lw_tbl ∧ (fnW e).onTables = true := by decide +kernel
theorem ln_w : ∀ e ∈ ml3T, lnkN e ∈ lw_tbl ∧ (lnkN e).onTables = true := by decide +kernel
theorem thW_in : ∀ w ∈ thW, w ∈ lw_tbl := by decide +kernel
theorem in_w : ∀ i, i < 10 → Cond.instantiable (nmC i) (nFT i) ∈ lw_tbl := by decide +kernel
theorem ac_w : Cond.arrayClass .byte ∈ lw_tbl ∧ Cond.arrayClass .int ∈ lw_tbl ∧ Cond.arrayClass .long ∈ lw_tbl := by decide +kernel
theorem se_w : Cond.laysStatic "java/lang/String" "COMPACT_STRINGS" "Z" ∈ lw_tbl ∧ Cond.initialized "java/lang/String" ∈ lw_tbl ∧ Cond.laysStatic "jdk/internal/util/Preconditions" "SIOOBE_FORMATTER" "Ljava/util/function/BiFunction;" ∈ lw_tbl ∧ Cond.initialized "jdk/internal/util/Preconditions" ∈ lw_tbl ∧ Cond.laysStatic Bundle.tN "UNASSIGNED_STACK" Bundle.steD ∈ lw_tbl ∧ Cond.laysStatic Bundle.tN "SUPPRESSED_SENTINEL" Bundle.listD ∈ lw_tbl ∧ Cond.initialized Bundle.tN ∈ lw_tbl ∧ Cond.stringRef RX7 284 "no such house that never burns" ∈ lw_tbl := by decide +kernel
theorem se_n : Cond.eq (.static "java/lang/String" "COMPACT_STRINGS" "Z") (.int 1) ∈ nW ∧ Cond.isRef (.static "jdk/internal/util/Preconditions" "SIOOBE_FORMATTER" "Ljava/util/function/BiFunction;") ∈ nW ∧ Cond.isRef (.static Bundle.tN "UNASSIGNED_STACK" Bundle.steD) ∈ nW ∧ Cond.isRef (.static Bundle.tN "SUPPRESSED_SENTINEL" Bundle.listD) ∈ nW ∧ Cond.exactly (.string RX7 284) "java/lang/String" ∈ nW := by decide +kernel
section
variable {s : State} {args : Array Value} {A : Nat → Prop}
theorem ar_of {ty : FieldType} (h : (Cond.arrayClass ty).before args s = true) : ∃ cA : ClassId, ArrOfT s cA ty ∧ s.vm.findClass ("[" ++ ty.toString) = some cA := by
  obtain ⟨cA, kA, comp, h1, h2, h3⟩ := Cond.arrayClass_spec h
  exact ⟨cA, fun n z => ⟨fun k h => (by cases h), kA, h2, comp, h3⟩, h1⟩
/-- the texts -/
theorem st_of (hn : ∀ w ∈ nW, w.before args s = true) (hA : ∀ a : Nat, a < s.heap.size → ¬ A a) : ∃ adK adV : Nat → Nat, vk_S 21 sLen sByt adK adV A s s.heap ∧ ∀ i : Nat, i < 21 → (tmS i).eval args s none [] s = some (.ref (adK i)) := by
  have h0 : ∀ i : Nat, ∃ q : Nat × Nat, i < 21 → (tmS i).eval args s none [] s = some (.ref q.1) ∧ va_O "java/lang/String" q.1 A s s.heap ∧ va_OF "java/lang/String" "coder" "B" (.int 0) q.1 A s s.heap ∧ va_OF "java/lang/String" "value" "[B" (.ref q.2) q.1 A s s.heap ∧ va_T .byte q.2 (sLen.getD i 0) (fun j => .int ((sByt.getD i []).getD j 0)) A s s.heap := by
    intro i
    by_cases hi : i < 21
    · obtain ⟨a, c, cA, kA, q1, q2, q3, q4, q5, q6, -⟩ := Cond.exactly_spec (args := args) (first := s) (o := none) (s := s) (idx := []) (t := tmS i) (cls := "java/lang/String") (hn _ (st_ex i hi))
      obtain ⟨t, ht, hT⟩ := va_Tof (f := fun j => .int ((sByt.getD i []).getD j 0)) (A := A) (st_n i hi) (hn _ (st_ar i hi)) (va_eqt (hn _ (st_le i hi))) (fun j hj => va_eqt (hn _ (st_el i hi j hj))) hA
      exact ⟨(a, t), fun _ => ⟨q1, ⟨cA, q3, q5, by rw [q6]; exact q2, hA a (Array.getElem?_eq_some_iff.mp q3).1⟩, vk_OFof q1 (va_eqt (hn _ (st_co i hi))) hA, vk_OFof q1 ht hA, hT⟩⟩
    · exact ⟨(0, 0), fun h => absurd h hi⟩
  obtain ⟨ad, had⟩ := Classical.axiomOfChoice h0
  refine ⟨fun i => (ad i).1, fun i => (ad i).2, ⟨fun i hi => (had i hi).2, fun i j hi hj e => ?_⟩, fun i hi => (had i hi).1⟩
  obtain ⟨-, -, -, ⟨f1, f2, f3, f4, f5, g1, g2, g3, g4, g5, -⟩, ⟨c1, t1, -, -, -, t2, t3, -⟩⟩ := had i hi
  obtain ⟨-, -, -, ⟨k1, k2, k3, k4, k5, l1, l2, l3, l4, l5, -⟩, ⟨c2, u1, -, -, -, u2, u3, -⟩⟩ := had j hj
  have e1 := Option.some.inj (g1.symm.trans l1)
  simp only [Prod.mk.injEq] at e1
  obtain ⟨-, -, -, rfl⟩ := e1
  have e : (ad i).1 = (ad j).1 := e
  rw [e] at g3
  cases Option.some.inj (g3.symm.trans l3)
  have e2 := Option.some.inj (g5.symm.trans l5)
  simp only [Value.ref.injEq] at e2
  rw [e2] at t1
  cases Option.some.inj (t1.symm.trans u1)
  have e3 := t2.symm.trans u2
  refine st_d i hi j hj e3 (fun k hk => ?_)
  have e4 := Option.some.inj ((t3 k hk).symm.trans (u3 k (by rw [← st_q i hi j hj e3]; exact hk)))
  simpa using e4
theorem cs_R {adK : Nat → Nat} (hts : ∀ w ∈ lw_tbl, w.before args s = true) (hn : ∀ w ∈ nW, w.before args s = true) (ht : ∀ i : Nat, i < 21 → (tmS i).eval args s none [] s = some (.ref (adK i))) : ∀ e ∈ csT, vk_R (nmC e.1.1) e.1.2 (sTx.getD e.2 "") (adK e.2) s := by
  intro e he
  obtain ⟨h1, h2⟩ := cs_of e he
  refine vk_R.of (A := args) (hts _ (cs_w e he)) ?_
  rcases h2 with h2 | h2
  · rw [h2]; exact ht _ h1
  · exact va_eqR (hn _ h2) (ht _ h1)
theorem kn_of (hts : ∀ w ∈ lw_tbl, w.before args s = true) : ∃ (dC : Nat → ClassId) (dI : Nat → Nat → Nat) (cB cI cJ : ClassId), va_K (dC, dI) vwCl [(cB, .byte), (cI, .int), (cJ, .long)] s := by
  have h0 : ∀ k : Nat, ∃ z : ClassId × (Nat → Nat), k < 10 → u_Kn s (nmC k) (tTT k) (nFT k) z.1 z.2 := by
    intro k
    by_cases hk : k < 10
    · obtain ⟨c0, i0, h⟩ := u_known (C := nmC k) (T := tTT k) (N := nFT k) (n := nFT k) (ws := WT) (fun w hw => hts w (List.mem_filter.mp hw).1) (uw_in hk) (hts _ (in_w k hk))
      exact ⟨(c0, i0), fun _ => h⟩
    · exact ⟨(default, fun _ => 0), fun h => absurd h hk⟩
  obtain ⟨z, hz⟩ := Classical.axiomOfChoice h0
  obtain ⟨cB, b1, b2⟩ := ar_of (hts _ ac_w.1)
  obtain ⟨cI, i1, i2⟩ := ar_of (hts _ ac_w.2.1)
  obtain ⟨cJ, j1, j2⟩ := ar_of (hts _ ac_w.2.2)
  refine ⟨fun k => (z k).1, fun k => (z k).2, cB, cI, cJ, fun k q hq => ?_, fun k q hq => ?_⟩
  · have hk : k < 10 := (List.getElem?_eq_some_iff.mp hq).1
    rw [vw_at hk] at hq
    cases hq
    exact hz k hk
  · match k, hq with
    | 0, hq => cases hq; exact ⟨b1, b2⟩
    | 1, hq => cases hq; exact ⟨i1, i2⟩
    | 2, hq => cases hq; exact ⟨j1, j2⟩
    | k + 3, hq => simp at hq
end
