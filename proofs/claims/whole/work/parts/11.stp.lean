/-! ===== a step of the plain machine is the machine's ===== -/
section
variable {p : Program} {l : Launch} {e : Env} {R : Room} {s : State} {m : MethodId} {args : Array Value} {below : List Frame} {meth : Method} {c : Code} {Q : State → Prop} {M : qM}
variable {dC : Nat → ClassId} {dI : Nat → Nat → Nat} {cB cI cJ : ClassId} {ek : Nat → Value} {adK adV : Nat → Nat} {A : Nat → Prop} {ad0 : Nat → Nat} {h0 : qH}
theorem vpB_in {i : Int32} {n : Nat} (h : vpB i n = true) : vp_in i n := of_decide_eq_true (p := ¬ (i < 0 ∨ n ≤ i.toNatClampNeg)) h
theorem cl2_ne {M N : qM} {u : Nat × Nat} {pc : Nat} {ls : qL} {As st : List Value} {h : qH} {o : Option Nat} {c1 : qC} : cl2 M N u pc ls As st h o ≠ some (.inl c1) := by
  unfold cl2
  split <;> simp
theorem inv2_ne {M N : qM} {u : Nat × Nat} {pc : Nat} {ls : qL} {st : List Value} {h : qH} {k : Nat} {c1 : qC} : inv2 M N u pc ls st h k ≠ some (.inl c1) := by
  unfold inv2
  split
  · exact cl2_ne
  · simp
set_option maxHeartbeats 4000000 in
theorem snd_step (F : qFx p R s m args meth c M dC dI cB cI cJ ek adK adV A) (G : mO M = 20 → qSc s A ek h0) (hfr : 1 ≤ R.frames) (hlo : 60 ≤ R.locals) {u u1 : Nat × Nat} {pc pc1 : Nat} {ls ls1 : qL} {st st1 : List Value} {h h1 : qH} (x : stp M u pc ls st h = some (.inl (u1, pc1, ls1, st1, h1))) (k : VV p l e R s m args below meth c Q M dC dI cB cI cJ ek A ad0 h0 u1 pc1 ls1 st1 h1) : VV p l e R s m args below meth c Q M dC dI cB cI cJ ek A ad0 h0 u pc ls st h := by
  unfold stp at x
  split at x
  case h_2 => cases x
  rename_i i n hd
  split at x
  case isFalse => cases x
  rename_i hn
  cases i
  case iadd =>
    obtain rfl : n = 1 := by simpa [iLn] using hn
    simp only [stI] at x
    obtain ⟨a, b, z, r, rfl, hz, rfl, rfl, rfl, rfl, rfl⟩ := op_eq x
    cases hz
    exact V_iadd F hd k
  case isub =>
    obtain rfl : n = 1 := by simpa [iLn] using hn
    simp only [stI] at x
    obtain ⟨a, b, z, r, rfl, hz, rfl, rfl, rfl, rfl, rfl⟩ := op_eq x
    cases hz
    exact V_isub F hd k
  case imul =>
    obtain rfl : n = 1 := by simpa [iLn] using hn
    simp only [stI] at x
    obtain ⟨a, b, z, r, rfl, hz, rfl, rfl, rfl, rfl, rfl⟩ := op_eq x
    cases hz
    exact V_imul F hd k
  case iand =>
    obtain rfl : n = 1 := by simpa [iLn] using hn
    simp only [stI] at x
    obtain ⟨a, b, z, r, rfl, hz, rfl, rfl, rfl, rfl, rfl⟩ := op_eq x
    cases hz
    exact V_iand F hd k
  case ior =>
    obtain rfl : n = 1 := by simpa [iLn] using hn
    simp only [stI] at x
    obtain ⟨a, b, z, r, rfl, hz, rfl, rfl, rfl, rfl, rfl⟩ := op_eq x
    cases hz
    exact V_ior F hd k
  case ixor =>
    obtain rfl : n = 1 := by simpa [iLn] using hn
    simp only [stI] at x
    obtain ⟨a, b, z, r, rfl, hz, rfl, rfl, rfl, rfl, rfl⟩ := op_eq x
    cases hz
    exact V_ixor F hd k
  case ishl =>
    obtain rfl : n = 1 := by simpa [iLn] using hn
    simp only [stI] at x
    obtain ⟨a, b, z, r, rfl, hz, rfl, rfl, rfl, rfl, rfl⟩ := op_eq x
    cases hz
    exact V_ishl F hd k
  case ishr =>
    obtain rfl : n = 1 := by simpa [iLn] using hn
    simp only [stI] at x
    obtain ⟨a, b, z, r, rfl, hz, rfl, rfl, rfl, rfl, rfl⟩ := op_eq x
    cases hz
    exact V_ishr F hd k
  case iushr =>
    obtain rfl : n = 1 := by simpa [iLn] using hn
    simp only [stI] at x
    obtain ⟨a, b, z, r, rfl, hz, rfl, rfl, rfl, rfl, rfl⟩ := op_eq x
    cases hz
    exact V_iushr F hd k
  case idiv =>
    obtain rfl : n = 1 := by simpa [iLn] using hn
    simp only [stI] at x
    obtain ⟨a, b, z, r, rfl, hz, rfl, rfl, rfl, rfl, rfl⟩ := op_eq x
    split at hz
    · cases hz
    · rename_i q; cases hz; exact V_idiv F hd q k
  case irem =>
    obtain rfl : n = 1 := by simpa [iLn] using hn
    simp only [stI] at x
    obtain ⟨a, b, z, r, rfl, hz, rfl, rfl, rfl, rfl, rfl⟩ := op_eq x
    split at hz
    · cases hz
    · rename_i q; cases hz; exact V_irem F hd q k
  case ladd =>
    obtain rfl : n = 1 := by simpa [iLn] using hn
    simp only [stI] at x
    obtain ⟨a, b, z, r, rfl, hz, rfl, rfl, rfl, rfl, rfl⟩ := opL_eq x
    cases hz
    exact V_ladd F hd k
  case lsub =>
    obtain rfl : n = 1 := by simpa [iLn] using hn
    simp only [stI] at x
    obtain ⟨a, b, z, r, rfl, hz, rfl, rfl, rfl, rfl, rfl⟩ := opL_eq x
    cases hz
    exact V_lsub F hd k
  case lmul =>
    obtain rfl : n = 1 := by simpa [iLn] using hn
    simp only [stI] at x
    obtain ⟨a, b, z, r, rfl, hz, rfl, rfl, rfl, rfl, rfl⟩ := opL_eq x
    cases hz
    exact V_lmul F hd k
  case ldiv =>
    obtain rfl : n = 1 := by simpa [iLn] using hn
    simp only [stI] at x
    obtain ⟨a, b, z, r, rfl, hz, rfl, rfl, rfl, rfl, rfl⟩ := opL_eq x
    split at hz
    · cases hz
    · rename_i q; cases hz; exact V_ldiv F hd q k
  case lrem =>
    obtain rfl : n = 1 := by simpa [iLn] using hn
    simp only [stI] at x
    obtain ⟨a, b, z, r, rfl, hz, rfl, rfl, rfl, rfl, rfl⟩ := opL_eq x
    split at hz
    · cases hz
    · rename_i q; cases hz; exact V_lrem F hd q k
  case iconst z =>
    obtain rfl : n = 1 := by simpa [iLn] using hn
    simp only [stI] at x
    obtain ⟨rfl, rfl, rfl, rfl, rfl⟩ := go_eq x
    exact V_iconst F hd k
  case bipush z =>
    obtain rfl : n = 2 := by simpa [iLn] using hn
    simp only [stI] at x
    obtain ⟨rfl, rfl, rfl, rfl, rfl⟩ := go_eq x
    exact V_bipush F hd k
  case sipush z =>
    obtain rfl : n = 3 := by simpa [iLn] using hn
    simp only [stI] at x
    obtain ⟨rfl, rfl, rfl, rfl, rfl⟩ := go_eq x
    exact V_sipush F hd k
  case lconst z =>
    obtain rfl : n = 1 := by simpa [iLn] using hn
    simp only [stI] at x
    obtain ⟨rfl, rfl, rfl, rfl, rfl⟩ := go_eq x
    exact V_lconst F hd k
  case lcmp =>
    obtain rfl : n = 1 := by simpa [iLn] using hn
    simp only [stI] at x
    split at x
    · obtain ⟨rfl, rfl, rfl, rfl, rfl⟩ := go_eq x; exact V_lcmp F hd k
    · cases x
  case i2l =>
    obtain rfl : n = 1 := by simpa [iLn] using hn
    simp only [stI] at x
    split at x
    · obtain ⟨rfl, rfl, rfl, rfl, rfl⟩ := go_eq x; exact V_i2l F hd k
    · cases x
  case l2i =>
    obtain rfl : n = 1 := by simpa [iLn] using hn
    simp only [stI] at x
    split at x
    · obtain ⟨rfl, rfl, rfl, rfl, rfl⟩ := go_eq x; exact V_l2i F hd k
    · cases x
  case i2b =>
    obtain rfl : n = 1 := by simpa [iLn] using hn
    simp only [stI] at x
    split at x
    · obtain ⟨rfl, rfl, rfl, rfl, rfl⟩ := go_eq x; exact V_i2b F hd k
    · cases x
  case i2c =>
    obtain rfl : n = 1 := by simpa [iLn] using hn
    simp only [stI] at x
    split at x
    · obtain ⟨rfl, rfl, rfl, rfl, rfl⟩ := go_eq x; exact V_i2c F hd k
    · cases x
  case dup =>
    obtain rfl : n = 1 := by simpa [iLn] using hn
    simp only [stI] at x
    split at x
    · split at x
      · rename_i q; obtain ⟨rfl, rfl, rfl, rfl, rfl⟩ := go_eq x; exact V_dup F hd q k
      · cases x
    · cases x
  case pop =>
    obtain rfl : n = 1 := by simpa [iLn] using hn
    simp only [stI] at x
    split at x
    · split at x
      · rename_i q; obtain ⟨rfl, rfl, rfl, rfl, rfl⟩ := go_eq x; exact V_pop F hd q k
      · cases x
    · cases x
  case dup2 =>
    obtain rfl : n = 1 := by simpa [iLn] using hn
    simp only [stI] at x
    split at x
    · split at x
      · rename_i q; obtain ⟨rfl, rfl, rfl, rfl, rfl⟩ := go_eq x; exact V_dup2 F hd q k
      · cases x
    · cases x
  case ldc z =>
    obtain rfl : n = 2 := by simpa [iLn] using hn
    simp only [stI] at x
    split at x
    · rename_i q; obtain ⟨rfl, rfl, rfl, rfl, rfl⟩ := go_eq x; exact V_ldc F hd q k
    · cases x
  case ldc_w z =>
    obtain rfl : n = 3 := by simpa [iLn] using hn
    simp only [stI] at x
    split at x
    · rename_i q; obtain ⟨rfl, rfl, rfl, rfl, rfl⟩ := go_eq x; exact V_ldcw F hd q k
    · cases x
  case ldc2_w z =>
    obtain rfl : n = 3 := by simpa [iLn] using hn
    simp only [stI] at x
    split at x
    · rename_i q; obtain ⟨rfl, rfl, rfl, rfl, rfl⟩ := go_eq x; exact V_ldc2 F hd q k
    · cases x
  case iload z =>
    obtain rfl : n = 2 := by simpa [iLn] using hn
    simp only [stI] at x
    unfold ldI at x
    split at x
    · rename_i q; obtain ⟨rfl, rfl, rfl, rfl, rfl⟩ := go_eq x; exact V_iload F hd q k
    · cases x
  case iload_n z =>
    obtain rfl : n = 1 := by simpa [iLn] using hn
    simp only [stI] at x
    unfold ldI at x
    split at x
    · rename_i q; obtain ⟨rfl, rfl, rfl, rfl, rfl⟩ := go_eq x; exact V_iload_n F hd q k
    · cases x
  case lload z =>
    obtain rfl : n = 2 := by simpa [iLn] using hn
    simp only [stI] at x
    unfold ldJ at x
    split at x
    · rename_i q; obtain ⟨rfl, rfl, rfl, rfl, rfl⟩ := go_eq x; exact V_lload F hd q k
    · cases x
  case lload_n z =>
    obtain rfl : n = 1 := by simpa [iLn] using hn
    simp only [stI] at x
    unfold ldJ at x
    split at x
    · rename_i q; obtain ⟨rfl, rfl, rfl, rfl, rfl⟩ := go_eq x; exact V_lload_n F hd q k
    · cases x
  case aload z =>
    obtain rfl : n = 2 := by simpa [iLn] using hn
    simp only [stI] at x
    unfold ldA at x
    split at x
    · rename_i q; obtain ⟨rfl, rfl, rfl, rfl, rfl⟩ := go_eq x; exact V_aload F hd q k
    · rename_i q; split at x
      · rename_i q2; obtain ⟨rfl, rfl, rfl, rfl, rfl⟩ := go_eq x; exact V_aloadR F hd q q2 k
      · cases x
    · cases x
  case istore z =>
    obtain rfl : n = 2 := by simpa [iLn] using hn
    simp only [stI] at x
    unfold stI1 at x
    split at x
    · split at x
      · rename_i q; obtain ⟨rfl, rfl, rfl, rfl, rfl⟩ := go_eq x; exact V_istore F hd q k
      · cases x
    · cases x
  case lstore z =>
    obtain rfl : n = 2 := by simpa [iLn] using hn
    simp only [stI] at x
    unfold stJ1 at x
    split at x
    · split at x
      · rename_i q; obtain ⟨rfl, rfl, rfl, rfl, rfl⟩ := go_eq x; exact V_lstore F hd q k
      · cases x
    · cases x
  case astore z =>
    obtain rfl : n = 2 := by simpa [iLn] using hn
    simp only [stI] at x
    unfold stA1 at x
    split at x
    · split at x
      · rename_i q; obtain ⟨rfl, rfl, rfl, rfl, rfl⟩ := go_eq x; exact V_astore F hd q k
      · cases x
    · cases x
  case aload_n z =>
    obtain rfl : n = 1 := by simpa [iLn] using hn
    simp only [stI] at x
    unfold ldA at x
    split at x
    · rename_i q; obtain ⟨rfl, rfl, rfl, rfl, rfl⟩ := go_eq x; exact V_aload_n F hd q k
    · rename_i q; split at x
      · rename_i q2; obtain ⟨rfl, rfl, rfl, rfl, rfl⟩ := go_eq x; exact V_aloadR_n F hd q q2 k
      · cases x
    · cases x
  case istore_n z =>
    obtain rfl : n = 1 := by simpa [iLn] using hn
    simp only [stI] at x
    unfold stI1 at x
    split at x
    · split at x
      · rename_i q; obtain ⟨rfl, rfl, rfl, rfl, rfl⟩ := go_eq x; exact V_istore_n F hd q k
      · cases x
    · cases x
  case lstore_n z =>
    obtain rfl : n = 1 := by simpa [iLn] using hn
    simp only [stI] at x
    unfold stJ1 at x
    split at x
    · split at x
      · rename_i q; obtain ⟨rfl, rfl, rfl, rfl, rfl⟩ := go_eq x; exact V_lstore_n F hd q k
      · cases x
    · cases x
  case astore_n z =>
    obtain rfl : n = 1 := by simpa [iLn] using hn
    simp only [stI] at x
    unfold stA1 at x
    split at x
    · split at x
      · rename_i q; obtain ⟨rfl, rfl, rfl, rfl, rfl⟩ := go_eq x; exact V_astore_n F hd q k
      · cases x
    · cases x
  case iinc z y =>
    obtain rfl : n = 3 := by simpa [iLn] using hn
    simp only [stI] at x
    split at x
    · rename_i q; split at x
      · rename_i q2; obtain ⟨rfl, rfl, rfl, rfl, rfl⟩ := go_eq x; exact V_iinc F hd q q2 k
      · cases x
    · cases x
  case ifCond z y =>
    obtain rfl : n = 3 := by simpa [iLn] using hn
    simp only [stI] at x
    split at x
    · obtain ⟨t, ht, rfl, rfl, rfl, rfl, hb⟩ := br_eq x
      rcases hb with ⟨hb, rfl⟩ | ⟨hb, rfl⟩
      · cases z
        · exact V_if_eq (y := 0) F hd ht (fun _ => k) (fun q2 => absurd hb q2)
        · exact V_if_ne (y := 0) F hd ht (fun _ => k) (fun q2 => absurd hb q2)
        · exact V_if_lt (y := 0) F hd ht (fun _ => k) (fun q2 => absurd hb q2)
        · exact V_if_ge (y := 0) F hd ht (fun _ => k) (fun q2 => absurd hb q2)
        · exact V_if_gt (y := 0) F hd ht (fun _ => k) (fun q2 => absurd hb q2)
        · exact V_if_le (y := 0) F hd ht (fun _ => k) (fun q2 => absurd hb q2)
      · cases z
        · exact V_if_eq (y := 0) F hd ht (fun q2 => absurd q2 hb) (fun _ => k)
        · exact V_if_ne (y := 0) F hd ht (fun q2 => absurd q2 hb) (fun _ => k)
        · exact V_if_lt (y := 0) F hd ht (fun q2 => absurd q2 hb) (fun _ => k)
        · exact V_if_ge (y := 0) F hd ht (fun q2 => absurd q2 hb) (fun _ => k)
        · exact V_if_gt (y := 0) F hd ht (fun q2 => absurd q2 hb) (fun _ => k)
        · exact V_if_le (y := 0) F hd ht (fun q2 => absurd q2 hb) (fun _ => k)
    · cases x
  case if_icmp z y =>
    obtain rfl : n = 3 := by simpa [iLn] using hn
    simp only [stI] at x
    split at x
    · obtain ⟨t, ht, rfl, rfl, rfl, rfl, hb⟩ := br_eq x
      rcases hb with ⟨hb, rfl⟩ | ⟨hb, rfl⟩
      · cases z
        · exact V_icmp_eq F hd ht (fun _ => k) (fun q2 => absurd hb q2)
        · exact V_icmp_ne F hd ht (fun _ => k) (fun q2 => absurd hb q2)
        · exact V_icmp_lt F hd ht (fun _ => k) (fun q2 => absurd hb q2)
        · exact V_icmp_ge F hd ht (fun _ => k) (fun q2 => absurd hb q2)
        · exact V_icmp_gt F hd ht (fun _ => k) (fun q2 => absurd hb q2)
        · exact V_icmp_le F hd ht (fun _ => k) (fun q2 => absurd hb q2)
      · cases z
        · exact V_icmp_eq F hd ht (fun q2 => absurd q2 hb) (fun _ => k)
        · exact V_icmp_ne F hd ht (fun q2 => absurd q2 hb) (fun _ => k)
        · exact V_icmp_lt F hd ht (fun q2 => absurd q2 hb) (fun _ => k)
        · exact V_icmp_ge F hd ht (fun q2 => absurd q2 hb) (fun _ => k)
        · exact V_icmp_gt F hd ht (fun q2 => absurd q2 hb) (fun _ => k)
        · exact V_icmp_le F hd ht (fun q2 => absurd q2 hb) (fun _ => k)
    · cases x
  case goto z =>
    obtain rfl : n = 3 := by simpa [iLn] using hn
    simp only [stI] at x
    obtain ⟨ht, rfl, rfl, rfl, rfl⟩ := gt_eq x
    exact V_goto F hd ht k
  case ifnull z =>
    obtain rfl : n = 3 := by simpa [iLn] using hn
    simp only [stI] at x
    split at x
    · obtain ⟨rfl, rfl, rfl, rfl, rfl⟩ := go_eq x; exact V_ifnull F hd k
    · obtain ⟨ht, rfl, rfl, rfl, rfl⟩ := gt_eq x; exact V_ifnullN F hd ht k
    · cases x
  case ifnonnull z =>
    obtain rfl : n = 3 := by simpa [iLn] using hn
    simp only [stI] at x
    split at x
    · obtain ⟨ht, rfl, rfl, rfl, rfl⟩ := gt_eq x; exact V_ifnonnull F hd ht k
    · obtain ⟨rfl, rfl, rfl, rfl, rfl⟩ := go_eq x; exact V_ifnonnullN F hd k
    · cases x
  case tableswitch d lo hi offs =>
    simp only [stI] at x
    split at x
    · split at x
      · rename_i q; obtain ⟨ht, rfl, rfl, rfl, rfl⟩ := gt_eq x; exact V_tabOut F hd q ht k
      · rename_i q; split at x
        · rename_i q2; obtain ⟨ht, rfl, rfl, rfl, rfl⟩ := gt_eq x; exact V_tabIn F hd q q2 ht k
        · cases x
    · cases x
  case lookupswitch d ps =>
    simp only [stI] at x
    split at x
    · split at x
      · rename_i q; obtain ⟨ht, rfl, rfl, rfl, rfl⟩ := gt_eq x; exact V_look F hd q ht k
      · cases x
    · cases x
  case getfield z =>
    obtain rfl : n = 3 := by simpa [iLn] using hn
    simp only [stI] at x
    split at x
    · split at x
      · rename_i q; split at x
        · rename_i q2; obtain ⟨rfl, rfl, rfl, rfl, rfl⟩ := go_eq x; exact V_get F hd q q2 k
        · cases x
      · cases x
    · split at x
      · rename_i q; split at x
        · rename_i q2; subst q2; obtain ⟨rfl, rfl, rfl, rfl, rfl⟩ := go_eq x; exact V_getX F hd q.1 q.2 k
        · split at x
          · rename_i q3; subst q3; obtain ⟨rfl, rfl, rfl, rfl, rfl⟩ := go_eq x; exact V_getC F hd q.1 q.2 k
          · cases x
      · cases x
    · cases x
  case getstatic z =>
    obtain rfl : n = 3 := by simpa [iLn] using hn
    simp only [stI] at x
    split at x
    · rename_i q; split at x
      · rename_i q2; subst q2; obtain ⟨rfl, rfl, rfl, rfl, rfl⟩ := go_eq x; exact V_gets F hd q k
      · split at x
        · rename_i q3; subst q3; obtain ⟨rfl, rfl, rfl, rfl, rfl⟩ := go_eq x; exact V_getsF F hd q k
        · cases x
    · cases x
  case putfield z =>
    obtain rfl : n = 3 := by simpa [iLn] using hn
    simp only [stI] at x
    split at x
    · split at x
      · rename_i q; split at x
        · rename_i q2; split at x
          · rename_i q3; obtain ⟨rfl, rfl, rfl, rfl, rfl⟩ := go_eq x; exact V_put F hd q q2.1 q2.2 q3 k
          · cases x
        · cases x
      · cases x
    · cases x
  case iaload =>
    obtain rfl : n = 1 := by simpa [iLn] using hn
    simp only [stI] at x
    split at x
    · split at x
      · rename_i q; obtain ⟨rfl, rfl, rfl, rfl, rfl⟩ := go_eq x; exact V_iald F hd q.1 (vpB_in q.2) k
      · cases x
    · split at x
      · rename_i q; obtain ⟨rfl, rfl, rfl, rfl, rfl⟩ := go_eq x; exact V_sld F G hd q.1 q.2.1 (vpB_in q.2.2) k
      · cases x
    · cases x
  case baload =>
    obtain rfl : n = 1 := by simpa [iLn] using hn
    simp only [stI] at x
    split at x
    · split at x
      · rename_i q; obtain ⟨rfl, rfl, rfl, rfl, rfl⟩ := go_eq x; exact V_bald F hd q.1 (vpB_in q.2) k
      · cases x
    · split at x
      · rename_i q; obtain ⟨rfl, rfl, rfl, rfl, rfl⟩ := go_eq x; exact V_baldX F hd q.1 q.2.1 (vpB_in q.2.2) k
      · cases x
    · cases x
  case laload =>
    obtain rfl : n = 1 := by simpa [iLn] using hn
    simp only [stI] at x
    split at x
    · split at x
      · rename_i q; obtain ⟨rfl, rfl, rfl, rfl, rfl⟩ := go_eq x; exact V_lald F hd q.1 (vpB_in q.2) k
      · cases x
    · cases x
  case iastore =>
    obtain rfl : n = 1 := by simpa [iLn] using hn
    simp only [stI] at x
    split at x
    · split at x
      · rename_i q; obtain ⟨rfl, rfl, rfl, rfl, rfl⟩ := go_eq x; exact V_iast F hd q.1 (vpB_in q.2) k
      · cases x
    · cases x
  case bastore =>
    obtain rfl : n = 1 := by simpa [iLn] using hn
    simp only [stI] at x
    split at x
    · split at x
      · rename_i q; obtain ⟨rfl, rfl, rfl, rfl, rfl⟩ := go_eq x; exact V_bast F hd q.1 (vpB_in q.2) k
      · cases x
    · cases x
  case lastore =>
    obtain rfl : n = 1 := by simpa [iLn] using hn
    simp only [stI] at x
    split at x
    · split at x
      · rename_i q; obtain ⟨rfl, rfl, rfl, rfl, rfl⟩ := go_eq x; exact V_last F hd q.1 (vpB_in q.2) k
      · cases x
    · cases x
  case arraylength =>
    obtain rfl : n = 1 := by simpa [iLn] using hn
    simp only [stI] at x
    split at x
    · split at x
      · rename_i q; obtain ⟨rfl, rfl, rfl, rfl, rfl⟩ := go_eq x; exact V_alen F hd q k
      · cases x
    · split at x
      · rename_i q; obtain ⟨rfl, rfl, rfl, rfl, rfl⟩ := go_eq x; exact V_alenX F hd q.1 q.2 k
      · split at x
        · rename_i q; obtain ⟨rfl, rfl, rfl, rfl, rfl⟩ := go_eq x; exact V_slen F G hd q.1 q.2 k
        · cases x
    · cases x
  case newarray t =>
    obtain rfl : n = 2 := by simpa [iLn] using hn
    simp only [stI] at x
    split at x
    · split at x
      · rename_i q; obtain ⟨rfl, rfl, rfl, rfl, rfl⟩ := go_eq x; exact V_newa F hd q.1 q.2.1 q.2.2.1 q.2.2.2.1 q.2.2.2.2.1 q.2.2.2.2.2 k
      · cases x
    · cases x
  case new z =>
    obtain rfl : n = 3 := by simpa [iLn] using hn
    simp only [stI] at x
    split at x
    · split at x
      · cases x
      · cases x
    · split at x
      · rename_i q; split at x
        · rename_i q2; obtain ⟨rfl, rfl, rfl, rfl, rfl⟩ := go_eq x; exact V_new F hd q q2.1 q2.2.1 q2.2.2 k
        · cases x
      · cases x
  case invokevirtual z =>
    obtain rfl : n = 3 := by simpa [iLn] using hn
    simp only [stI] at x
    split at x
    · split at x
      · exact absurd x inv2_ne
      · cases x
    · cases x
  case invokestatic z =>
    obtain rfl : n = 3 := by simpa [iLn] using hn
    simp only [stI] at x
    split at x
    · exact absurd x inv2_ne
    · split at x
      · rename_i q; split at x
        · rename_i q2; obtain ⟨a, b, z, r, rfl, hz, rfl, rfl, rfl, rfl, rfl⟩ := op_eq x
          cases hz
          exact V_max F hfr hlo hd q q2.1 q2.2.1 (by have := q2.2.2; simp only [List.map_cons, List.sum_cons] at this; have c1 : ∀ z, (Value.int z).category = 1 := fun _ => rfl; rw [c1, c1] at this; omega) k
        · cases x
      · split at x
        · rename_i q; split at x
          · rename_i q2; obtain ⟨a, b, z, r, rfl, hz, rfl, rfl, rfl, rfl, rfl⟩ := op_eq x
            cases hz
            exact V_min F hfr hlo hd q q2.1 q2.2.1 (by have := q2.2.2; simp only [List.map_cons, List.sum_cons] at this; have c1 : ∀ z, (Value.int z).category = 1 := fun _ => rfl; rw [c1, c1] at this; omega) k
          · cases x
        · split at x
          · rename_i q; split at x
            · split at x
              · rename_i q2; obtain ⟨g1, g2, g3, g4, g5, g6, g7, rfl⟩ := q2
                obtain ⟨rfl, rfl, rfl, rfl, rfl⟩ := go_eq x
                exact V_copy F hfr hlo hd q g1 g2 g3 g4 g5 g6 g7 k
              · cases x
            · cases x
          · split at x
            · split at x
              · split at x
                · exact absurd x cl2_ne
                · cases x
              · cases x
            · cases x
  case invokespecial z =>
    obtain rfl : n = 3 := by simpa [iLn] using hn
    simp only [stI] at x
    split at x
    · split at x
      · exact absurd x inv2_ne
      · cases x
    · split at x
      · split at x
        · exact absurd x inv2_ne
        · cases x
      · split at x
        · rename_i q; split at x
          · split at x
            · rename_i q2; subst q2; obtain ⟨rfl, rfl, rfl, rfl, rfl⟩ := go_eq x; exact V_objI F hfr hlo hd q k
            · cases x
          · cases x
        · cases x
  case ireturn =>
    obtain rfl : n = 1 := by simpa [iLn] using hn
    simp only [stI] at x
    split at x
    · split at x
      · split at x <;> cases x
      · cases x
    · cases x
  case lreturn =>
    obtain rfl : n = 1 := by simpa [iLn] using hn
    simp only [stI] at x
    split at x
    · split at x <;> cases x
    · cases x
  case return_ =>
    obtain rfl : n = 1 := by simpa [iLn] using hn
    simp only [stI] at x
    split at x
    · split at x <;> cases x
    · cases x
  all_goals (simp [stI] at x)
end
