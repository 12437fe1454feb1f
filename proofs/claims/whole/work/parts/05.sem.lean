/-! ===== the plain machine: cells by numbers, a text constant is .retAddr j, its bytes .retAddr (100 + j), the script .retAddr 1000 ===== -/
/-- ints, longs, references by cell and place; how many cells -/
abbrev qH : Type := (Nat → Nat → Int32) × (Nat → Nat → Int64) × (Nat → Nat → Option Nat) × Nat
def hI (h : qH) : Nat → Nat → Int32 := h.1
def hJ (h : qH) : Nat → Nat → Int64 := h.2.1
def hR (h : qH) : Nat → Nat → Option Nat := h.2.2.1
def hN (h : qH) : Nat := h.2.2.2
def wI (h : qH) (a : Nat) (f : Nat → Int32) : qH := (va_up h.1 a f, h.2.1, h.2.2.1, h.2.2.2)
def wJ (h : qH) (a : Nat) (f : Nat → Int64) : qH := (h.1, va_up h.2.1 a f, h.2.2.1, h.2.2.2)
def wR (h : qH) (a : Nat) (f : Nat → Option Nat) : qH := (h.1, h.2.1, va_up h.2.2.1 a f, h.2.2.2)
/-- a new cell -/
def wN (h : qH) : qH := (va_up h.1 h.2.2.2 (fun _ => 0), va_up h.2.1 h.2.2.2 (fun _ => 0), va_up h.2.2.1 h.2.2.2 (fun _ => none), h.2.2.2 + 1)
abbrev qL : Type := List (Option Value)
def lg : qL → Nat → Option Value
  | [], _ => none
  | a :: _, 0 => a
  | _ :: l, i + 1 => lg l i
def kl : Option Value → Option Value
  | some (.long _) => none
  | some (.double _) => none
  | o => o
def ls1 : qL → Nat → Value → qL
  | [], _, _ => []
  | _ :: l, 0, v => some v :: l
  | a :: l, 1, v => kl a :: ls1 l 0 v
  | a :: l, i + 2, v => a :: ls1 l (i + 1) v
def ls2 : qL → Nat → Value → qL
  | [], _, _ => []
  | [_], _, _ => [none]
  | _ :: _ :: l, 0, v => some v :: none :: l
  | a :: b :: l, 1, v => kl a :: ls2 (b :: l) 0 v
  | a :: b :: l, i + 2, v => a :: ls2 (b :: l) (i + 1) v
/-- the locals with which a method begins -/
def la : Nat → List Value → qL
  | n, [] => List.replicate n none
  | n, .long x :: vs => some (.long x) :: none :: la (n - 2) vs
  | n, .double x :: vs => some (.double x) :: none :: la (n - 2) vs
  | n, v :: vs => some v :: la (n - 1) vs
/-- cells and slots made; the place; locals; stack; the cells -/
abbrev qC : Type := (Nat × Nat) × Nat × qL × List Value × qH
/-- a field's value -/
def fvP (h : qH) (a k : Nat) (t : FieldType) : Value := match t with
  | .long => .long (hJ h a k)
  | .object _ => va_rf (hR h a k)
  | .array _ => va_rf (hR h a k)
  | _ => .int (hI h a k)
/-- a field is set -/
def sfP (h : qH) (a k : Nat) (t : FieldType) (v : Value) : Option qH := match t, v with
  | .long, .long x => some (wJ h a (vp_updL (hJ h a) k x))
  | .object _, .ref b => some (wR h a (va_up (hR h a) k (some b)))
  | .array _, .ref b => some (wR h a (va_up (hR h a) k (some b)))
  | .int, .int x => some (wI h a (upd (hI h a) k x))
  | .boolean, .int x => if x = 0 ∨ x = 1 then some (wI h a (upd (hI h a) k x)) else none
  | _, _ => none
def cnd : ClassFile.Cond → Int32 → Int32 → Bool
  | .eq, x, y => decide (x = y)
  | .ne, x, y => decide (¬ x = y)
  | .lt, x, y => decide (x < y)
  | .ge, x, y => decide (y ≤ x)
  | .gt, x, y => decide (y < x)
  | .le, x, y => decide (x ≤ y)
def akd : ArrayType → Option Nat
  | .byte => some 10
  | .int => some 11
  | .long => some 12
  | _ => none
def rcv (N : qM) (As : List Value) : Bool := match As with
  | .ref b :: _ => decide ((kd b).1 = mO N)
  | .retAddr j :: _ => decide (mO N = 32 ∧ j < 21)
  | _ => false
abbrev qB : Type := qC ⊕ (qM × List Value × qC × Option Nat) ⊕ Option (Option Value)
/-- an index in range -/
def vpB (i : Int32) (n : Nat) : Bool := decide (¬ (i < 0 ∨ n ≤ i.toNatClampNeg))
def go2 (u : Nat × Nat) (pc : Nat) (ls : qL) (st : List Value) (h : qH) : Option qB := some (.inl (u, pc, ls, st, h))
def gt2 (u : Nat × Nat) (pc : Nat) (off : Int) (ls : qL) (st : List Value) (h : qH) : Option qB := if 0 ≤ (pc : Int) + off then go2 u ((pc : Int) + off).toNat ls st h else none
/-- a branch -/
def br2 (u : Nat × Nat) (pc : Nat) (off : Int) (b : Bool) (ls : qL) (st : List Value) (h : qH) : Option qB := if 0 ≤ (pc : Int) + off then (if b = true then go2 u ((pc : Int) + off).toNat ls st h else go2 u (pc + 3) ls st h) else none
def cl2 (M N : qM) (u : Nat × Nat) (pc : Nat) (ls : qL) (As st : List Value) (h : qH) (o : Option Nat) : Option qB :=
  if u.1 + mC N ≤ mC M ∧ u.2 + mS N ≤ mS M ∧ (st.map fun v => v.category).sum ≤ 8 ∧ (As.map fun v => v.category).sum ≤ mL N then some (.inr (.inl (N, As, ((u.1 + mC N, u.2 + mS N), pc + 3, ls, st, h), o))) else none
/-- an operation on two ints, two longs -/
def op2 (u : Nat × Nat) (pc : Nat) (ls : qL) (st : List Value) (h : qH) (f : Int32 → Int32 → Option Int32) : Option qB := match st with
  | .int y :: .int x :: st => match f x y with
    | some z => go2 u (pc + 1) ls (.int z :: st) h
    | none => none
  | _ => none
def opL (u : Nat × Nat) (pc : Nat) (ls : qL) (st : List Value) (h : qH) (f : Int64 → Int64 → Option Int64) : Option qB := match st with
  | .long y :: .long x :: st => match f x y with
    | some z => go2 u (pc + 1) ls (.long z :: st) h
    | none => none
  | _ => none
def ldI (u : Nat × Nat) (pc i : Nat) (ls : qL) (st : List Value) (h : qH) (n : Nat) : Option qB := match lg ls i with
  | some (.int x) => go2 u (pc + n) ls (.int x :: st) h
  | _ => none
def ldJ (u : Nat × Nat) (pc i : Nat) (ls : qL) (st : List Value) (h : qH) (n : Nat) : Option qB := match lg ls i with
  | some (.long x) => go2 u (pc + n) ls (.long x :: st) h
  | _ => none
def ldA (u : Nat × Nat) (pc i : Nat) (ls : qL) (st : List Value) (h : qH) (n : Nat) : Option qB := match lg ls i with
  | some (.ref x) => go2 u (pc + n) ls (.ref x :: st) h
  | some (.retAddr j) => if j < 2000 then go2 u (pc + n) ls (.retAddr j :: st) h else none
  | _ => none
def stI1 (u : Nat × Nat) (pc i : Nat) (ls : qL) (st : List Value) (h : qH) (n : Nat) : Option qB := match st with
  | .int x :: st => if i < ls.length then go2 u (pc + n) (ls1 ls i (.int x)) st h else none
  | _ => none
def stJ1 (u : Nat × Nat) (pc i : Nat) (ls : qL) (st : List Value) (h : qH) (n : Nat) : Option qB := match st with
  | .long x :: st => if i + 1 < ls.length then go2 u (pc + n) (ls2 ls i (.long x)) st h else none
  | _ => none
def stA1 (u : Nat × Nat) (pc i : Nat) (ls : qL) (st : List Value) (h : qH) (n : Nat) : Option qB := match st with
  | .ref x :: st => if i < ls.length then go2 u (pc + n) (ls1 ls i (.ref x)) st h else none
  | _ => none
def inv2 (M N : qM) (u : Nat × Nat) (pc : Nat) (ls : qL) (st : List Value) (h : qH) (k : Nat) : Option qB :=
  if (st.take k).length = k then cl2 M N u pc ls (st.take k).reverse (st.drop k) h none else none
def stI (M : qM) (u : Nat × Nat) (pc : Nat) (ls : qL) (st : List Value) (h : qH) (i : Instr) : Option qB := match i with
  | .iconst n => go2 u (pc + 1) ls (.int (Int32.ofInt n) :: st) h
  | .bipush n => go2 u (pc + 2) ls (.int (Int8.ofInt n).toInt32 :: st) h
  | .sipush n => go2 u (pc + 3) ls (.int (Int16.ofInt n).toInt32 :: st) h
  | .lconst n => go2 u (pc + 1) ls (.long (Int64.ofNat (n : Nat)) :: st) h
  | .ldc k => match cs (mO M) k with
    | some v => go2 u (pc + 2) ls (v :: st) h
    | none => none
  | .ldc_w k => match cs (mO M) k with
    | some v => go2 u (pc + 3) ls (v :: st) h
    | none => none
  | .ldc2_w k => match cj (mO M) k with
    | some v => go2 u (pc + 3) ls (.long v :: st) h
    | none => none
  | .iload_n k => ldI u pc k ls st h 1
  | .iload k => ldI u pc k ls st h 2
  | .lload_n k => ldJ u pc k ls st h 1
  | .lload k => ldJ u pc k ls st h 2
  | .aload_n k => ldA u pc k ls st h 1
  | .aload k => ldA u pc k ls st h 2
  | .istore_n k => stI1 u pc k ls st h 1
  | .istore k => stI1 u pc k ls st h 2
  | .lstore_n k => stJ1 u pc k ls st h 1
  | .lstore k => stJ1 u pc k ls st h 2
  | .astore_n k => stA1 u pc k ls st h 1
  | .astore k => stA1 u pc k ls st h 2
  | .iinc k n => match lg ls k with
    | some (.int x) => if k < ls.length then go2 u (pc + 3) (ls1 ls k (.int (x + Int32.ofInt n))) st h else none
    | _ => none
  | .iadd => op2 u pc ls st h (fun x y => some (x + y))
  | .isub => op2 u pc ls st h (fun x y => some (x - y))
  | .imul => op2 u pc ls st h (fun x y => some (x * y))
  | .iand => op2 u pc ls st h (fun x y => some (x &&& y))
  | .ior => op2 u pc ls st h (fun x y => some (x ||| y))
  | .ixor => op2 u pc ls st h (fun x y => some (x ^^^ y))
  | .ishl => op2 u pc ls st h (fun x y => some (x <<< (y &&& 31)))
  | .ishr => op2 u pc ls st h (fun x y => some (x >>> (y &&& 31)))
  | .iushr => op2 u pc ls st h (fun x y => some (x.toUInt32 >>> (y.toUInt32 &&& Int32.toUInt32 31)).toInt32)
  | .idiv => op2 u pc ls st h (fun x y => if y = 0 then none else some (x / y))
  | .irem => op2 u pc ls st h (fun x y => if y = 0 then none else some (x - x / y * y))
  | .ladd => opL u pc ls st h (fun x y => some (x + y))
  | .lsub => opL u pc ls st h (fun x y => some (x - y))
  | .lmul => opL u pc ls st h (fun x y => some (x * y))
  | .ldiv => opL u pc ls st h (fun x y => if y = 0 then none else some (x / y))
  | .lrem => opL u pc ls st h (fun x y => if y = 0 then none else some (x - x / y * y))
  | .lcmp => match st with
    | .long y :: .long x :: st => go2 u (pc + 1) ls (.int (lg_cmp x y) :: st) h
    | _ => none
  | .i2l => match st with
    | .int x :: st => go2 u (pc + 1) ls (.long x.toInt64 :: st) h
    | _ => none
  | .l2i => match st with
    | .long x :: st => go2 u (pc + 1) ls (.int x.toInt32 :: st) h
    | _ => none
  | .i2b => match st with
    | .int x :: st => go2 u (pc + 1) ls (.int x.toInt8.toInt32 :: st) h
    | _ => none
  | .i2c => match st with
    | .int x :: st => go2 u (pc + 1) ls (.int (x.toUInt32 % 65536).toInt32 :: st) h
    | _ => none
  | .dup => match st with
    | v :: st => if v.category = 1 then go2 u (pc + 1) ls (v :: v :: st) h else none
    | _ => none
  | .pop => match st with
    | v :: st => if v.category = 1 then go2 u (pc + 1) ls st h else none
    | _ => none
  | .dup2 => match st with
    | v :: w :: st => if v.category = 1 ∧ w.category = 1 then go2 u (pc + 1) ls (v :: w :: v :: w :: st) h else none
    | _ => none
  | .ifCond c off => match st with
    | .int x :: st => br2 u pc off (cnd c x 0) ls st h
    | _ => none
  | .if_icmp c off => match st with
    | .int y :: .int x :: st => br2 u pc off (cnd c x y) ls st h
    | _ => none
  | .goto off => gt2 u pc off ls st h
  | .ifnull off => match st with
    | .ref _ :: st => go2 u (pc + 3) ls st h
    | .null :: st => gt2 u pc off ls st h
    | _ => none
  | .ifnonnull off => match st with
    | .ref _ :: st => gt2 u pc off ls st h
    | .null :: st => go2 u (pc + 3) ls st h
    | _ => none
  | .tableswitch d lo hi offs => match st with
    | .int x :: st => if x.toInt < lo ∨ hi < x.toInt then gt2 u pc d ls st h else match offs[(x.toInt - lo).toNat]? with
      | some off => gt2 u pc off ls st h
      | none => none
    | _ => none
  | .lookupswitch d ps => match st with
    | .int x :: st => if (ps.toList.zip (ps.toList.drop 1)).all (fun (a, next) => a.1 < next.1) = true then gt2 u pc (Op.lookupswitch.offset ps.toList d x.toInt) ls st h else none
    | _ => none
  | .getfield k => match st with
    | .ref a :: st => match fl (mO M) k with
      | some (ci, f, _) => if (kd a).1 = ci then go2 u (pc + 3) ls (fvP h a f (fTT ci f) :: st) h else none
      | none => none
    | .retAddr j :: st => if mO M = 32 ∧ j < 21 then (if k = 9 then go2 u (pc + 3) ls (.retAddr (100 + j) :: st) h else if k = 15 then go2 u (pc + 3) ls (.int 0 :: st) h else none) else none
    | _ => none
  | .getstatic k => if mO M = 32 then (if k = 38 then go2 u (pc + 3) ls (.int 1 :: st) h else if k = 1053 then go2 u (pc + 3) ls (.retAddr 2000 :: st) h else none) else none
  | .putfield k => match st with
    | v :: .ref a :: st => match fl (mO M) k with
      | some (ci, f, n) => if (kd a).1 = ci ∧ ((tTT ci f).2.2.2 = false ∨ (n = false ∧ (mY M).name = "<init>" ∧ nmC ci = nmC (mO M))) then (match sfP h a f (fTT ci f) v with
        | some h1 => go2 u (pc + 3) ls st h1
        | none => none) else none
      | none => none
    | _ => none
  | .iaload => match st with
    | .int i :: .ref a :: st => if (kd a).1 = 11 ∧ vpB i (kd a).2 = true then go2 u (pc + 1) ls (.int (hI h a i.toNatClampNeg) :: st) h else none
    | .int i :: .retAddr j :: st => if mO M = 20 ∧ j = 1000 ∧ vpB i (hI h (SCR + 1) 0).toNatClampNeg = true then go2 u (pc + 1) ls (.int (hI h SCR i.toNatClampNeg) :: st) h else none
    | _ => none
  | .baload => match st with
    | .int i :: .ref a :: st => if (kd a).1 = 10 ∧ vpB i (kd a).2 = true then go2 u (pc + 1) ls (.int (hI h a i.toNatClampNeg) :: st) h else none
    | .int i :: .retAddr j :: st => if 100 ≤ j ∧ j < 121 ∧ vpB i (sLen.getD (j - 100) 0) = true then go2 u (pc + 1) ls (.int ((sByt.getD (j - 100) []).getD i.toNatClampNeg 0) :: st) h else none
    | _ => none
  | .laload => match st with
    | .int i :: .ref a :: st => if (kd a).1 = 12 ∧ vpB i (kd a).2 = true then go2 u (pc + 1) ls (.long (hJ h a i.toNatClampNeg) :: st) h else none
    | _ => none
  | .iastore => match st with
    | .int x :: .int i :: .ref a :: st => if (kd a).1 = 11 ∧ vpB i (kd a).2 = true then go2 u (pc + 1) ls st (wI h a (upd (hI h a) i.toNatClampNeg x)) else none
    | _ => none
  | .bastore => match st with
    | .int x :: .int i :: .ref a :: st => if (kd a).1 = 10 ∧ vpB i (kd a).2 = true then go2 u (pc + 1) ls st (wI h a (upd (hI h a) i.toNatClampNeg (vp_nar .byte x))) else none
    | _ => none
  | .lastore => match st with
    | .long x :: .int i :: .ref a :: st => if (kd a).1 = 12 ∧ vpB i (kd a).2 = true then go2 u (pc + 1) ls st (wJ h a (vp_updL (hJ h a) i.toNatClampNeg x)) else none
    | _ => none
  | .arraylength => match st with
    | .ref a :: st => if 10 ≤ (kd a).1 ∧ (kd a).1 ≤ 12 then go2 u (pc + 1) ls (.int (Int32.ofNat (kd a).2) :: st) h else none
    | .retAddr j :: st => if 100 ≤ j ∧ j < 121 then go2 u (pc + 1) ls (.int (Int32.ofNat (sLen.getD (j - 100) 0)) :: st) h else if mO M = 20 ∧ j = 1000 then go2 u (pc + 1) ls (.int (hI h (SCR + 1) 0) :: st) h else none
    | _ => none
  | .newarray t => match st with
    | .int n :: st => if akd t = some (kd (hN h)).1 ∧ ¬ n < 0 ∧ n.toNatClampNeg = (kd (hN h)).2 ∧ (kd (hN h)).2 ≤ 60000 ∧ u.1 + 1 ≤ mC M ∧ u.2 + (kd (hN h)).2 ≤ mS M then go2 (u.1 + 1, u.2 + (kd (hN h)).2) (pc + 2) ls (.ref (hN h) :: st) (wN h) else none
    | _ => none
  | .new k => if mO M = 7 ∧ k = 282 then (if st = [] ∧ u.1 + 1 ≤ mC M ∧ u.2 + 6 ≤ mS M then some (.inr (.inr none)) else none) else match clF (mO M) k with
    | some ci => if (kd (hN h)).1 = ci ∧ u.1 + 1 ≤ mC M ∧ u.2 + nFT ci ≤ mS M then go2 (u.1 + 1, u.2 + nFT ci) (pc + 3) ls (.ref (hN h) :: st) (wN h) else none
    | none => none
  | .invokevirtual k => match mlF ml0T (mO M) k with
    | some N => if rcv N (st.take (mA N + 1)).reverse = true then inv2 M N u pc ls st h (mA N + 1) else none
    | none => none
  | .invokestatic k => match mlF ml1T (mO M) k with
    | some N => inv2 M N u pc ls st h (mA N)
    | none => match mlF ml11T (mO M) k with
     | some _ => if u.1 ≤ mC M ∧ u.2 ≤ mS M ∧ (st.map fun v => v.category).sum ≤ 10 then op2 u (pc + 2) ls st h (fun x y => some (if x < y then y else x)) else none
     | none => match mlF ml12T (mO M) k with
     | some _ => if u.1 ≤ mC M ∧ u.2 ≤ mS M ∧ (st.map fun v => v.category).sum ≤ 10 then op2 u (pc + 2) ls st h (fun x y => some (if y < x then y else x)) else none
     | none => match mlF ml14T (mO M) k with
      | some _ => match st with
        | .int n :: .int dp :: .ref a :: .int sp :: .ref b :: st => if (kd a).1 = 11 ∧ (kd b).1 = 11 ∧ ¬ sp < 0 ∧ ¬ dp < 0 ∧ ¬ n < 0 ∧ sp.toNatClampNeg + n.toNatClampNeg ≤ (kd b).2 ∧ dp.toNatClampNeg + n.toNatClampNeg ≤ (kd a).2 ∧ st = [] then go2 u (pc + 3) ls st (wI h a (va_cpy (hI h b) (hI h a) sp.toNatClampNeg dp.toNatClampNeg n.toNatClampNeg)) else none
        | _ => none
      | none => match mlF ml17T (mO M) k with
        | some _ => match st with
          | .ref o :: .int i :: .ref x :: st => if kd o = (12, 1) ∧ (kd x).1 = 7 then cl2 M mX7_led u pc ls [.ref x, .int i] st h (some o) else none
          | _ => none
        | none => none
  | .invokespecial k => match mlF ml2T (mO M) k with
    | some N => if rcv N (st.take (mA N + 1)).reverse = true then inv2 M N u pc ls st h (mA N + 1) else none
    | none => match mlF ml3T (mO M) k with
      | some N => if rcv N (st.take (mA N + 1)).reverse = true then inv2 M N u pc ls st h (mA N + 1) else none
      | none => match mlF ml10T (mO M) k with
        | some _ => match st with
          | .ref _ :: st => if st = [] then go2 u (pc + 3) ls st h else none
          | _ => none
        | none => none
  | .ireturn => match st with
    | [.int x] => match mT M with
      | some t => if narrow t (.int x) = .int x ∧ u.1 ≤ mC M ∧ u.2 ≤ mS M then some (.inr (.inr (some (some (.int x))))) else none
      | none => none
    | _ => none
  | .lreturn => match st with
    | [.long x] => if mT M = some .long ∧ u.1 ≤ mC M ∧ u.2 ≤ mS M then some (.inr (.inr (some (some (.long x))))) else none
    | _ => none
  | .return_ => match st with
    | [] => if mT M = none ∧ u.1 ≤ mC M ∧ u.2 ≤ mS M then some (.inr (.inr (some none))) else none
    | _ => none
  | _ => none
/-- how long an instruction is -/
def iLn (i : Instr) (n : Nat) : Bool := match i with
  | .bipush _ | .ldc _ | .iload _ | .lload _ | .aload _ | .istore _ | .lstore _ | .astore _ | .newarray _ => n == 2
  | .sipush _ | .ldc_w _ | .ldc2_w _ | .iinc _ _ | .ifCond _ _ | .if_icmp _ _ | .goto _ | .ifnull _ | .ifnonnull _ | .getfield _ | .putfield _ | .getstatic _ | .new _ | .invokevirtual _ | .invokestatic _ | .invokespecial _ => n == 3
  | .tableswitch _ _ _ _ | .lookupswitch _ _ => true
  | _ => n == 1
def stp (M : qM) (u : Nat × Nat) (pc : Nat) (ls : qL) (st : List Value) (h : qH) : Option qB := match decode (mB M) pc with
  | .ok (i, n) => if iLn i n = true then stI M u pc ls st h i else none
  | _ => none
/-- behind a call -/
def bck (c : qC) (o : Option Nat) (r : Option (Option Value)) (h1 : qH) : Option qC := match o, r with
  | none, some v => some (c.1, c.2.1, c.2.2.1, v.toList ++ c.2.2.2.1, h1)
  | some a, some (some (.int v)) => some (c.1, c.2.1, c.2.2.1, .int 0 :: c.2.2.2.1, wJ h1 a (vp_updL (hJ h1 a) 0 v.toInt64))
  | some _, none => some (c.1, c.2.1, c.2.2.1, .int 1 :: c.2.2.2.1, h1)
  | _, _ => none
/-- n steps at most, d calls deep at most: what is answered (none: it throws), and the cells -/
def run : Nat → Nat → qM → qC → Option (Option (Option Value) × qH)
  | 0, _, _, _ => none
  | n + 1, d, M, c => match stp M c.1 c.2.1 c.2.2.1 c.2.2.2.1 c.2.2.2.2 with
    | some (.inl c1) => run n d M c1
    | some (.inr (.inl (N, As, c1, o))) => match d with
      | 0 => none
      | d + 1 => match run n d N ((0, 0), 0, la (mL N) As, [], c1.2.2.2.2) with
        | some (r, h1) => match bck c1 o r h1 with
          | some c2 => run n (d + 1) M c2
          | none => none
        | none => none
    | some (.inr (.inr r)) => some (r, c.2.2.2.2)
    | none => none
def WP (d : Nat) (M : qM) (u : Nat × Nat) (pc : Nat) (ls : qL) (st : List Value) (h : qH) (Q : Option (Option Value) → qH → Prop) : Prop := ∃ n r h1, run n d M (u, pc, ls, st, h) = some (r, h1) ∧ Q r h1
def WM (d : Nat) (N : qM) (As : List Value) (h : qH) (Q : Option (Option Value) → qH → Prop) : Prop := WP d N (0, 0) 0 (la (mL N) As) [] h Q
theorem run_mono : ∀ (n d : Nat) (M : qM) (c : qC) (x : Option (Option Value) × qH), run n d M c = some x → run (n + 1) d M c = some x := by
  intro n
  induction n with
  | zero => intro d M c x h; simp [run] at h
  | succ n ih =>
    intro d M c x h
    rw [run] at h
    rw [run]
    cases hs : stp M c.1 c.2.1 c.2.2.1 c.2.2.2.1 c.2.2.2.2 with
    | none => rw [hs] at h; simp at h
    | some a =>
      rw [hs] at h
      match a with
      | .inl c1 => exact ih d M c1 x h
      | .inr (.inr r) => exact h
      | .inr (.inl (N, As, c1, o)) =>
        match d with
        | 0 => simp at h
        | d + 1 =>
          simp only at h ⊢
          cases hr : run n d N ((0, 0), 0, la (mL N) As, [], c1.2.2.2.2) with
          | none => rw [hr] at h; simp at h
          | some y =>
            rw [ih _ _ _ _ hr]
            rw [hr] at h
            simp only at h ⊢
            cases hb : bck c1 o y.1 y.2 with
            | none => rw [hb] at h; simp at h
            | some c2 => rw [hb] at h; exact ih _ _ _ _ h
theorem run_le {n k d : Nat} {M : qM} {c : qC} {x : Option (Option Value) × qH} (hk : n ≤ k) (h : run n d M c = some x) : run k d M c = some x := by
  induction hk with
  | refl => exact h
  | step _ ih => exact run_mono _ _ _ _ _ ih
theorem WP_mono {d : Nat} {M : qM} {u : Nat × Nat} {pc : Nat} {ls : qL} {st : List Value} {h : qH} {Q Q' : Option (Option Value) → qH → Prop} (hQ : ∀ r h, Q r h → Q' r h) (w : WP d M u pc ls st h Q) : WP d M u pc ls st h Q' := by
  obtain ⟨n, r, h1, e, q⟩ := w
  exact ⟨n, r, h1, e, hQ _ _ q⟩
/-- a step -/
theorem WP_go {d : Nat} {M : qM} {u u' : Nat × Nat} {pc pc' : Nat} {ls ls' : qL} {st st' : List Value} {h h' : qH} {Q : Option (Option Value) → qH → Prop} (e : stp M u pc ls st h = some (.inl (u', pc', ls', st', h'))) : WP d M u pc ls st h Q = WP d M u' pc' ls' st' h' Q := by
  apply propext
  constructor
  · rintro ⟨n, r, h1, e1, q⟩
    cases n with
    | zero => simp [run] at e1
    | succ n =>
      rw [run] at e1
      simp only [e] at e1
      exact ⟨n, r, h1, e1, q⟩
  · rintro ⟨n, r, h1, e1, q⟩
    exact ⟨n + 1, r, h1, by rw [run]; simp only [e]; exact e1, q⟩
theorem WP_stuck {d : Nat} {M : qM} {u : Nat × Nat} {pc : Nat} {ls : qL} {st : List Value} {h : qH} {Q : Option (Option Value) → qH → Prop} (e : stp M u pc ls st h = none) : WP d M u pc ls st h Q = False := by
  apply propext
  constructor
  · rintro ⟨n, r, h1, e1, q⟩
    cases n with
    | zero => simp [run] at e1
    | succ n =>
      rw [run] at e1
      simp [e] at e1
  · exact False.elim
theorem WP_ret {d : Nat} {M : qM} {u : Nat × Nat} {pc : Nat} {ls : qL} {st : List Value} {h : qH} {Q : Option (Option Value) → qH → Prop} {r : Option (Option Value)} (e : stp M u pc ls st h = some (.inr (.inr r))) : WP d M u pc ls st h Q = Q r h := by
  apply propext
  constructor
  · rintro ⟨n, r', h1, e1, q⟩
    cases n with
    | zero => simp [run] at e1
    | succ n =>
      rw [run] at e1
      simp only [e, Option.some.injEq, Prod.mk.injEq] at e1
      obtain ⟨rfl, rfl⟩ := e1
      exact q
  · intro q
    exact ⟨1, r, h, by rw [run]; simp only [e], q⟩
/-- what is asked of a callee: it returns, and then it goes on -/
def kR (k : Option Value → qH → Prop) (r : Option (Option Value)) (h : qH) : Prop := match r with
  | some v => k v h
  | none => False
theorem WP_call {d : Nat} {M N : qM} {u u' : Nat × Nat} {pc pc' : Nat} {ls ls' : qL} {st st' As : List Value} {h h' : qH} {Q : Option (Option Value) → qH → Prop} (e : stp M u pc ls st h = some (.inr (.inl (N, As, (u', pc', ls', st', h'), none)))) : WP (d + 1) M u pc ls st h Q = WM d N As h' (kR fun v h1 => WP (d + 1) M u' pc' ls' (v.toList ++ st') h1 Q) := by
  apply propext
  constructor
  · rintro ⟨n, r, h1, e1, q⟩
    cases n with
    | zero => simp [run] at e1
    | succ n =>
      rw [run] at e1
      simp only [e] at e1
      cases hr : run n d N ((0, 0), 0, la (mL N) As, [], h') with
      | none => rw [hr] at e1; simp at e1
      | some y =>
        rw [hr] at e1
        obtain ⟨r2, h2⟩ := y
        simp only at e1
        cases r2 with
        | none => simp [bck] at e1
        | some v => exact ⟨n, some v, h2, hr, n, r, h1, e1, q⟩
  · rintro ⟨n, r, h1, e1, q⟩
    cases r with
    | none => exact q.elim
    | some v =>
      obtain ⟨n2, r2, h2, e2, q2⟩ := q
      refine ⟨max n n2 + 1, r2, h2, ?_, q2⟩
      rw [run]
      simp only [e]
      rw [run_le (Nat.le_max_left n n2) e1]
      exact run_le (Nat.le_max_right n n2) e2
