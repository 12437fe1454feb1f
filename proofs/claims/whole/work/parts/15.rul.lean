/-! ===== the rules: a step is an equation ===== -/
def mxI (x y : Int32) : Int32 := if x < y then y else x
def mnI (x y : Int32) : Int32 := if y < x then y else x
theorem stp_of {M : qM} {u : Nat × Nat} {pc n : Nat} {ls : qL} {st : List Value} {h : qH} {i : Instr} (hd : decode (mB M) pc = .ok (i, n)) (hn : iLn i n = true) : stp M u pc ls st h = stI M u pc ls st h i := by
  unfold stp
  rw [hd]
  simp only [hn, if_true]
theorem W_iadd {M : qM} {pc q : Nat}  (hd : decode (mB M) pc = .ok (.iadd, 1)) (hq : pc + 1 = q) : ∀ ⦃d : Nat⦄ ⦃u : Nat × Nat⦄ ⦃ls : qL⦄ ⦃st : List Value⦄ ⦃h : qH⦄ ⦃Q : Option (Option Value) → qH → Prop⦄ ⦃x y : Int32⦄ , WP d M u pc (ls) (.int y :: .int x :: st) h Q = WP d M u q (ls) (.int (x + y) :: st) (h) Q := by
  intros
  subst hq
  exact WP_go (by rw [stp_of hd rfl]; rfl)
theorem W_isub {M : qM} {pc q : Nat}  (hd : decode (mB M) pc = .ok (.isub, 1)) (hq : pc + 1 = q) : ∀ ⦃d : Nat⦄ ⦃u : Nat × Nat⦄ ⦃ls : qL⦄ ⦃st : List Value⦄ ⦃h : qH⦄ ⦃Q : Option (Option Value) → qH → Prop⦄ ⦃x y : Int32⦄ , WP d M u pc (ls) (.int y :: .int x :: st) h Q = WP d M u q (ls) (.int (x - y) :: st) (h) Q := by
  intros
  subst hq
  exact WP_go (by rw [stp_of hd rfl]; rfl)
theorem W_imul {M : qM} {pc q : Nat}  (hd : decode (mB M) pc = .ok (.imul, 1)) (hq : pc + 1 = q) : ∀ ⦃d : Nat⦄ ⦃u : Nat × Nat⦄ ⦃ls : qL⦄ ⦃st : List Value⦄ ⦃h : qH⦄ ⦃Q : Option (Option Value) → qH → Prop⦄ ⦃x y : Int32⦄ , WP d M u pc (ls) (.int y :: .int x :: st) h Q = WP d M u q (ls) (.int (x * y) :: st) (h) Q := by
  intros
  subst hq
  exact WP_go (by rw [stp_of hd rfl]; rfl)
theorem W_iand {M : qM} {pc q : Nat}  (hd : decode (mB M) pc = .ok (.iand, 1)) (hq : pc + 1 = q) : ∀ ⦃d : Nat⦄ ⦃u : Nat × Nat⦄ ⦃ls : qL⦄ ⦃st : List Value⦄ ⦃h : qH⦄ ⦃Q : Option (Option Value) → qH → Prop⦄ ⦃x y : Int32⦄ , WP d M u pc (ls) (.int y :: .int x :: st) h Q = WP d M u q (ls) (.int (x &&& y) :: st) (h) Q := by
  intros
  subst hq
  exact WP_go (by rw [stp_of hd rfl]; rfl)
theorem W_ior {M : qM} {pc q : Nat}  (hd : decode (mB M) pc = .ok (.ior, 1)) (hq : pc + 1 = q) : ∀ ⦃d : Nat⦄ ⦃u : Nat × Nat⦄ ⦃ls : qL⦄ ⦃st : List Value⦄ ⦃h : qH⦄ ⦃Q : Option (Option Value) → qH → Prop⦄ ⦃x y : Int32⦄ , WP d M u pc (ls) (.int y :: .int x :: st) h Q = WP d M u q (ls) (.int (x ||| y) :: st) (h) Q := by
  intros
  subst hq
  exact WP_go (by rw [stp_of hd rfl]; rfl)
theorem W_ixor {M : qM} {pc q : Nat}  (hd : decode (mB M) pc = .ok (.ixor, 1)) (hq : pc + 1 = q) : ∀ ⦃d : Nat⦄ ⦃u : Nat × Nat⦄ ⦃ls : qL⦄ ⦃st : List Value⦄ ⦃h : qH⦄ ⦃Q : Option (Option Value) → qH → Prop⦄ ⦃x y : Int32⦄ , WP d M u pc (ls) (.int y :: .int x :: st) h Q = WP d M u q (ls) (.int (x ^^^ y) :: st) (h) Q := by
  intros
  subst hq
  exact WP_go (by rw [stp_of hd rfl]; rfl)
theorem W_ishl {M : qM} {pc q : Nat}  (hd : decode (mB M) pc = .ok (.ishl, 1)) (hq : pc + 1 = q) : ∀ ⦃d : Nat⦄ ⦃u : Nat × Nat⦄ ⦃ls : qL⦄ ⦃st : List Value⦄ ⦃h : qH⦄ ⦃Q : Option (Option Value) → qH → Prop⦄ ⦃x y : Int32⦄ , WP d M u pc (ls) (.int y :: .int x :: st) h Q = WP d M u q (ls) (.int (x <<< (y &&& 31)) :: st) (h) Q := by
  intros
  subst hq
  exact WP_go (by rw [stp_of hd rfl]; rfl)
theorem W_ishr {M : qM} {pc q : Nat}  (hd : decode (mB M) pc = .ok (.ishr, 1)) (hq : pc + 1 = q) : ∀ ⦃d : Nat⦄ ⦃u : Nat × Nat⦄ ⦃ls : qL⦄ ⦃st : List Value⦄ ⦃h : qH⦄ ⦃Q : Option (Option Value) → qH → Prop⦄ ⦃x y : Int32⦄ , WP d M u pc (ls) (.int y :: .int x :: st) h Q = WP d M u q (ls) (.int (x >>> (y &&& 31)) :: st) (h) Q := by
  intros
  subst hq
  exact WP_go (by rw [stp_of hd rfl]; rfl)
theorem W_iushr {M : qM} {pc q : Nat}  (hd : decode (mB M) pc = .ok (.iushr, 1)) (hq : pc + 1 = q) : ∀ ⦃d : Nat⦄ ⦃u : Nat × Nat⦄ ⦃ls : qL⦄ ⦃st : List Value⦄ ⦃h : qH⦄ ⦃Q : Option (Option Value) → qH → Prop⦄ ⦃x y : Int32⦄ , WP d M u pc (ls) (.int y :: .int x :: st) h Q = WP d M u q (ls) (.int ((x.toUInt32 >>> (y.toUInt32 &&& Int32.toUInt32 31)).toInt32) :: st) (h) Q := by
  intros
  subst hq
  exact WP_go (by rw [stp_of hd rfl]; rfl)
theorem W_idiv {M : qM} {pc q : Nat}  (hd : decode (mB M) pc = .ok (.idiv, 1)) (hq : pc + 1 = q) : ∀ ⦃d : Nat⦄ ⦃u : Nat × Nat⦄ ⦃ls : qL⦄ ⦃st : List Value⦄ ⦃h : qH⦄ ⦃Q : Option (Option Value) → qH → Prop⦄ ⦃x y : Int32⦄ (_ : ¬ y = 0), WP d M u pc (ls) (.int y :: .int x :: st) h Q = WP d M u q (ls) (.int (x / y) :: st) (h) Q := by
  intros
  subst hq
  exact WP_go (by rw [stp_of hd rfl]; rename_i g; simp only [stI, op2, if_neg g]; rfl)
theorem W_irem {M : qM} {pc q : Nat}  (hd : decode (mB M) pc = .ok (.irem, 1)) (hq : pc + 1 = q) : ∀ ⦃d : Nat⦄ ⦃u : Nat × Nat⦄ ⦃ls : qL⦄ ⦃st : List Value⦄ ⦃h : qH⦄ ⦃Q : Option (Option Value) → qH → Prop⦄ ⦃x y : Int32⦄ (_ : ¬ y = 0), WP d M u pc (ls) (.int y :: .int x :: st) h Q = WP d M u q (ls) (.int (x - x / y * y) :: st) (h) Q := by
  intros
  subst hq
  exact WP_go (by rw [stp_of hd rfl]; rename_i g; simp only [stI, op2, if_neg g]; rfl)
theorem W_ladd {M : qM} {pc q : Nat}  (hd : decode (mB M) pc = .ok (.ladd, 1)) (hq : pc + 1 = q) : ∀ ⦃d : Nat⦄ ⦃u : Nat × Nat⦄ ⦃ls : qL⦄ ⦃st : List Value⦄ ⦃h : qH⦄ ⦃Q : Option (Option Value) → qH → Prop⦄ ⦃x y : Int64⦄ , WP d M u pc (ls) (.long y :: .long x :: st) h Q = WP d M u q (ls) (.long (x + y) :: st) (h) Q := by
  intros
  subst hq
  exact WP_go (by rw [stp_of hd rfl]; rfl)
theorem W_lsub {M : qM} {pc q : Nat}  (hd : decode (mB M) pc = .ok (.lsub, 1)) (hq : pc + 1 = q) : ∀ ⦃d : Nat⦄ ⦃u : Nat × Nat⦄ ⦃ls : qL⦄ ⦃st : List Value⦄ ⦃h : qH⦄ ⦃Q : Option (Option Value) → qH → Prop⦄ ⦃x y : Int64⦄ , WP d M u pc (ls) (.long y :: .long x :: st) h Q = WP d M u q (ls) (.long (x - y) :: st) (h) Q := by
  intros
  subst hq
  exact WP_go (by rw [stp_of hd rfl]; rfl)
theorem W_lmul {M : qM} {pc q : Nat}  (hd : decode (mB M) pc = .ok (.lmul, 1)) (hq : pc + 1 = q) : ∀ ⦃d : Nat⦄ ⦃u : Nat × Nat⦄ ⦃ls : qL⦄ ⦃st : List Value⦄ ⦃h : qH⦄ ⦃Q : Option (Option Value) → qH → Prop⦄ ⦃x y : Int64⦄ , WP d M u pc (ls) (.long y :: .long x :: st) h Q = WP d M u q (ls) (.long (x * y) :: st) (h) Q := by
  intros
  subst hq
  exact WP_go (by rw [stp_of hd rfl]; rfl)
theorem W_ldiv {M : qM} {pc q : Nat}  (hd : decode (mB M) pc = .ok (.ldiv, 1)) (hq : pc + 1 = q) : ∀ ⦃d : Nat⦄ ⦃u : Nat × Nat⦄ ⦃ls : qL⦄ ⦃st : List Value⦄ ⦃h : qH⦄ ⦃Q : Option (Option Value) → qH → Prop⦄ ⦃x y : Int64⦄ (_ : ¬ y = 0), WP d M u pc (ls) (.long y :: .long x :: st) h Q = WP d M u q (ls) (.long (x / y) :: st) (h) Q := by
  intros
  subst hq
  exact WP_go (by rw [stp_of hd rfl]; rename_i g; simp only [stI, opL, if_neg g]; rfl)
theorem W_lrem {M : qM} {pc q : Nat}  (hd : decode (mB M) pc = .ok (.lrem, 1)) (hq : pc + 1 = q) : ∀ ⦃d : Nat⦄ ⦃u : Nat × Nat⦄ ⦃ls : qL⦄ ⦃st : List Value⦄ ⦃h : qH⦄ ⦃Q : Option (Option Value) → qH → Prop⦄ ⦃x y : Int64⦄ (_ : ¬ y = 0), WP d M u pc (ls) (.long y :: .long x :: st) h Q = WP d M u q (ls) (.long (x - x / y * y) :: st) (h) Q := by
  intros
  subst hq
  exact WP_go (by rw [stp_of hd rfl]; rename_i g; simp only [stI, opL, if_neg g]; rfl)
theorem W_lcmp {M : qM} {pc q : Nat}  (hd : decode (mB M) pc = .ok (.lcmp, 1)) (hq : pc + 1 = q) : ∀ ⦃d : Nat⦄ ⦃u : Nat × Nat⦄ ⦃ls : qL⦄ ⦃st : List Value⦄ ⦃h : qH⦄ ⦃Q : Option (Option Value) → qH → Prop⦄ ⦃x y : Int64⦄ , WP d M u pc (ls) (.long y :: .long x :: st) h Q = WP d M u q (ls) (.int (lg_cmp x y) :: st) (h) Q := by
  intros
  subst hq
  exact WP_go (by rw [stp_of hd rfl]; rfl)
theorem W_i2l {M : qM} {pc q : Nat}  (hd : decode (mB M) pc = .ok (.i2l, 1)) (hq : pc + 1 = q) : ∀ ⦃d : Nat⦄ ⦃u : Nat × Nat⦄ ⦃ls : qL⦄ ⦃st : List Value⦄ ⦃h : qH⦄ ⦃Q : Option (Option Value) → qH → Prop⦄ ⦃x : Int32⦄ , WP d M u pc (ls) (.int x :: st) h Q = WP d M u q (ls) (.long x.toInt64 :: st) (h) Q := by
  intros
  subst hq
  exact WP_go (by rw [stp_of hd rfl]; rfl)
theorem W_l2i {M : qM} {pc q : Nat}  (hd : decode (mB M) pc = .ok (.l2i, 1)) (hq : pc + 1 = q) : ∀ ⦃d : Nat⦄ ⦃u : Nat × Nat⦄ ⦃ls : qL⦄ ⦃st : List Value⦄ ⦃h : qH⦄ ⦃Q : Option (Option Value) → qH → Prop⦄ ⦃x : Int64⦄ , WP d M u pc (ls) (.long x :: st) h Q = WP d M u q (ls) (.int x.toInt32 :: st) (h) Q := by
  intros
  subst hq
  exact WP_go (by rw [stp_of hd rfl]; rfl)
theorem W_i2b {M : qM} {pc q : Nat}  (hd : decode (mB M) pc = .ok (.i2b, 1)) (hq : pc + 1 = q) : ∀ ⦃d : Nat⦄ ⦃u : Nat × Nat⦄ ⦃ls : qL⦄ ⦃st : List Value⦄ ⦃h : qH⦄ ⦃Q : Option (Option Value) → qH → Prop⦄ ⦃x : Int32⦄ , WP d M u pc (ls) (.int x :: st) h Q = WP d M u q (ls) (.int x.toInt8.toInt32 :: st) (h) Q := by
  intros
  subst hq
  exact WP_go (by rw [stp_of hd rfl]; rfl)
theorem W_i2c {M : qM} {pc q : Nat}  (hd : decode (mB M) pc = .ok (.i2c, 1)) (hq : pc + 1 = q) : ∀ ⦃d : Nat⦄ ⦃u : Nat × Nat⦄ ⦃ls : qL⦄ ⦃st : List Value⦄ ⦃h : qH⦄ ⦃Q : Option (Option Value) → qH → Prop⦄ ⦃x : Int32⦄ , WP d M u pc (ls) (.int x :: st) h Q = WP d M u q (ls) (.int (x.toUInt32 % 65536).toInt32 :: st) (h) Q := by
  intros
  subst hq
  exact WP_go (by rw [stp_of hd rfl]; rfl)
theorem W_iconst {M : qM} {pc q : Nat} {n : Int} {v : Int32} (hd : decode (mB M) pc = .ok (.iconst n, 1)) (hq : pc + 1 = q) (hv : Int32.ofInt n = v) : ∀ ⦃d : Nat⦄ ⦃u : Nat × Nat⦄ ⦃ls : qL⦄ ⦃st : List Value⦄ ⦃h : qH⦄ ⦃Q : Option (Option Value) → qH → Prop⦄  , WP d M u pc (ls) (st) h Q = WP d M u q (ls) (.int v :: st) (h) Q := by
  intros
  subst hq
  exact WP_go (by rw [stp_of hd rfl]; subst hv; rfl)
theorem W_bipush {M : qM} {pc q : Nat} {n : Int} {v : Int32} (hd : decode (mB M) pc = .ok (.bipush n, 2)) (hq : pc + 2 = q) (hv : (Int8.ofInt n).toInt32 = v) : ∀ ⦃d : Nat⦄ ⦃u : Nat × Nat⦄ ⦃ls : qL⦄ ⦃st : List Value⦄ ⦃h : qH⦄ ⦃Q : Option (Option Value) → qH → Prop⦄  , WP d M u pc (ls) (st) h Q = WP d M u q (ls) (.int v :: st) (h) Q := by
  intros
  subst hq
  exact WP_go (by rw [stp_of hd rfl]; subst hv; rfl)
theorem W_sipush {M : qM} {pc q : Nat} {n : Int} {v : Int32} (hd : decode (mB M) pc = .ok (.sipush n, 3)) (hq : pc + 3 = q) (hv : (Int16.ofInt n).toInt32 = v) : ∀ ⦃d : Nat⦄ ⦃u : Nat × Nat⦄ ⦃ls : qL⦄ ⦃st : List Value⦄ ⦃h : qH⦄ ⦃Q : Option (Option Value) → qH → Prop⦄  , WP d M u pc (ls) (st) h Q = WP d M u q (ls) (.int v :: st) (h) Q := by
  intros
  subst hq
  exact WP_go (by rw [stp_of hd rfl]; subst hv; rfl)
theorem W_lconst {M : qM} {pc q : Nat} {n : Fin 2} {v : Int64} (hd : decode (mB M) pc = .ok (.lconst n, 1)) (hq : pc + 1 = q) (hv : Int64.ofNat (n : Nat) = v) : ∀ ⦃d : Nat⦄ ⦃u : Nat × Nat⦄ ⦃ls : qL⦄ ⦃st : List Value⦄ ⦃h : qH⦄ ⦃Q : Option (Option Value) → qH → Prop⦄  , WP d M u pc (ls) (st) h Q = WP d M u q (ls) (.long v :: st) (h) Q := by
  intros
  subst hq
  exact WP_go (by rw [stp_of hd rfl]; subst hv; rfl)
theorem W_ldc {M : qM} {pc q : Nat} {k : Nat} {v : Value} (hd : decode (mB M) pc = .ok (.ldc k, 2)) (hq : pc + 2 = q) (hv : cs (mO M) k = some v) : ∀ ⦃d : Nat⦄ ⦃u : Nat × Nat⦄ ⦃ls : qL⦄ ⦃st : List Value⦄ ⦃h : qH⦄ ⦃Q : Option (Option Value) → qH → Prop⦄  , WP d M u pc (ls) (st) h Q = WP d M u q (ls) (v :: st) (h) Q := by
  intros
  subst hq
  exact WP_go (by rw [stp_of hd rfl]; simp only [stI, hv]; rfl)
theorem W_ldc_w {M : qM} {pc q : Nat} {k : Nat} {v : Value} (hd : decode (mB M) pc = .ok (.ldc_w k, 3)) (hq : pc + 3 = q) (hv : cs (mO M) k = some v) : ∀ ⦃d : Nat⦄ ⦃u : Nat × Nat⦄ ⦃ls : qL⦄ ⦃st : List Value⦄ ⦃h : qH⦄ ⦃Q : Option (Option Value) → qH → Prop⦄  , WP d M u pc (ls) (st) h Q = WP d M u q (ls) (v :: st) (h) Q := by
  intros
  subst hq
  exact WP_go (by rw [stp_of hd rfl]; simp only [stI, hv]; rfl)
theorem W_ldc2_w {M : qM} {pc q : Nat} {k : Nat} {v : Int64} (hd : decode (mB M) pc = .ok (.ldc2_w k, 3)) (hq : pc + 3 = q) (hv : cj (mO M) k = some v) : ∀ ⦃d : Nat⦄ ⦃u : Nat × Nat⦄ ⦃ls : qL⦄ ⦃st : List Value⦄ ⦃h : qH⦄ ⦃Q : Option (Option Value) → qH → Prop⦄  , WP d M u pc (ls) (st) h Q = WP d M u q (ls) (.long v :: st) (h) Q := by
  intros
  subst hq
  exact WP_go (by rw [stp_of hd rfl]; simp only [stI, hv]; rfl)
theorem W_dupI {M : qM} {pc q : Nat}  (hd : decode (mB M) pc = .ok (.dup, 1)) (hq : pc + 1 = q) : ∀ ⦃d : Nat⦄ ⦃u : Nat × Nat⦄ ⦃ls : qL⦄ ⦃st : List Value⦄ ⦃h : qH⦄ ⦃Q : Option (Option Value) → qH → Prop⦄ ⦃x : Int32⦄ , WP d M u pc (ls) (.int x :: st) h Q = WP d M u q (ls) (.int x :: .int x :: st) (h) Q := by
  intros
  subst hq
  exact WP_go (by rw [stp_of hd rfl]; rfl)
theorem W_dupR {M : qM} {pc q : Nat}  (hd : decode (mB M) pc = .ok (.dup, 1)) (hq : pc + 1 = q) : ∀ ⦃d : Nat⦄ ⦃u : Nat × Nat⦄ ⦃ls : qL⦄ ⦃st : List Value⦄ ⦃h : qH⦄ ⦃Q : Option (Option Value) → qH → Prop⦄ ⦃x : Nat⦄ , WP d M u pc (ls) (.ref x :: st) h Q = WP d M u q (ls) (.ref x :: .ref x :: st) (h) Q := by
  intros
  subst hq
  exact WP_go (by rw [stp_of hd rfl]; rfl)
theorem W_popI {M : qM} {pc q : Nat}  (hd : decode (mB M) pc = .ok (.pop, 1)) (hq : pc + 1 = q) : ∀ ⦃d : Nat⦄ ⦃u : Nat × Nat⦄ ⦃ls : qL⦄ ⦃st : List Value⦄ ⦃h : qH⦄ ⦃Q : Option (Option Value) → qH → Prop⦄ ⦃x : Int32⦄ , WP d M u pc (ls) (.int x :: st) h Q = WP d M u q (ls) (st) (h) Q := by
  intros
  subst hq
  exact WP_go (by rw [stp_of hd rfl]; rfl)
theorem W_dup2IR {M : qM} {pc q : Nat}  (hd : decode (mB M) pc = .ok (.dup2, 1)) (hq : pc + 1 = q) : ∀ ⦃d : Nat⦄ ⦃u : Nat × Nat⦄ ⦃ls : qL⦄ ⦃st : List Value⦄ ⦃h : qH⦄ ⦃Q : Option (Option Value) → qH → Prop⦄ ⦃x : Int32⦄ ⦃a : Nat⦄ , WP d M u pc (ls) (.int x :: .ref a :: st) h Q = WP d M u q (ls) (.int x :: .ref a :: .int x :: .ref a :: st) (h) Q := by
  intros
  subst hq
  exact WP_go (by rw [stp_of hd rfl]; rfl)
theorem W_iload0 {M : qM} {pc q : Nat} (hd : decode (mB M) pc = .ok (.iload_n 0, 1)) (hq : pc + 1 = q) : ∀ ⦃d : Nat⦄ ⦃u : Nat × Nat⦄ ⦃l : qL⦄ ⦃st : List Value⦄ ⦃h : qH⦄ ⦃Q : Option (Option Value) → qH → Prop⦄ ⦃x : Int32⦄, WP d M u pc (some (.int x) :: l) st h Q = WP d M u q (some (.int x) :: l) (.int x :: st) h Q := by
  intros
  subst hq
  exact WP_go (by rw [stp_of hd rfl]; rfl)
theorem W_lload0 {M : qM} {pc q : Nat} (hd : decode (mB M) pc = .ok (.lload_n 0, 1)) (hq : pc + 1 = q) : ∀ ⦃d : Nat⦄ ⦃u : Nat × Nat⦄ ⦃l : qL⦄ ⦃st : List Value⦄ ⦃h : qH⦄ ⦃Q : Option (Option Value) → qH → Prop⦄ ⦃x : Int64⦄, WP d M u pc (some (.long x) :: l) st h Q = WP d M u q (some (.long x) :: l) (.long x :: st) h Q := by
  intros
  subst hq
  exact WP_go (by rw [stp_of hd rfl]; rfl)
theorem W_aload0 {M : qM} {pc q : Nat} (hd : decode (mB M) pc = .ok (.aload_n 0, 1)) (hq : pc + 1 = q) : ∀ ⦃d : Nat⦄ ⦃u : Nat × Nat⦄ ⦃l : qL⦄ ⦃st : List Value⦄ ⦃h : qH⦄ ⦃Q : Option (Option Value) → qH → Prop⦄ ⦃x : Nat⦄, WP d M u pc (some (.ref x) :: l) st h Q = WP d M u q (some (.ref x) :: l) (.ref x :: st) h Q := by
  intros
  subst hq
  exact WP_go (by rw [stp_of hd rfl]; rfl)
theorem W_aloadR0 {M : qM} {pc q : Nat} (hd : decode (mB M) pc = .ok (.aload_n 0, 1)) (hq : pc + 1 = q) : ∀ ⦃d : Nat⦄ ⦃u : Nat × Nat⦄ ⦃l : qL⦄ ⦃st : List Value⦄ ⦃h : qH⦄ ⦃Q : Option (Option Value) → qH → Prop⦄ ⦃x : Nat⦄ (_ : x < 2000), WP d M u pc (some (.retAddr x) :: l) st h Q = WP d M u q (some (.retAddr x) :: l) (.retAddr x :: st) h Q := by
  intros
  subst hq
  exact WP_go (by rw [stp_of hd rfl]; rename_i g; simp only [stI, ldA]; exact if_pos g)
theorem W_istore0 {M : qM} {pc q : Nat} (hd : decode (mB M) pc = .ok (.istore_n 0, 1)) (hq : pc + 1 = q) : ∀ ⦃d : Nat⦄ ⦃u : Nat × Nat⦄ ⦃l : qL⦄ ⦃st : List Value⦄ ⦃h : qH⦄ ⦃Q : Option (Option Value) → qH → Prop⦄ ⦃b : Option Value⦄ ⦃x : Int32⦄, WP d M u pc (b :: l) (.int x :: st) h Q = WP d M u q (some (.int x) :: l) st h Q := by
  intros
  subst hq
  refine WP_go ?_
  rw [stp_of hd rfl]
  simp only [stI, stI1]
  exact if_pos (by first | (simp; done) | (show 3 < _; simp; done) | (show 3 < _; simp only [List.length_cons]; omega) | (show 3 + 1 < _; simp only [List.length_cons]; omega))
theorem W_astore0 {M : qM} {pc q : Nat} (hd : decode (mB M) pc = .ok (.astore_n 0, 1)) (hq : pc + 1 = q) : ∀ ⦃d : Nat⦄ ⦃u : Nat × Nat⦄ ⦃l : qL⦄ ⦃st : List Value⦄ ⦃h : qH⦄ ⦃Q : Option (Option Value) → qH → Prop⦄ ⦃b : Option Value⦄ ⦃x : Nat⦄, WP d M u pc (b :: l) (.ref x :: st) h Q = WP d M u q (some (.ref x) :: l) st h Q := by
  intros
  subst hq
  refine WP_go ?_
  rw [stp_of hd rfl]
  simp only [stI, stA1]
  exact if_pos (by first | (simp; done) | (show 3 < _; simp; done) | (show 3 < _; simp only [List.length_cons]; omega) | (show 3 + 1 < _; simp only [List.length_cons]; omega))
theorem W_lstore0 {M : qM} {pc q : Nat} (hd : decode (mB M) pc = .ok (.lstore_n 0, 1)) (hq : pc + 1 = q) : ∀ ⦃d : Nat⦄ ⦃u : Nat × Nat⦄ ⦃l : qL⦄ ⦃st : List Value⦄ ⦃h : qH⦄ ⦃Q : Option (Option Value) → qH → Prop⦄ ⦃b b2 : Option Value⦄ ⦃x : Int64⦄, WP d M u pc (b :: b2 :: l) (.long x :: st) h Q = WP d M u q (some (.long x) :: none :: l) st h Q := by
  intros
  subst hq
  refine WP_go ?_
  rw [stp_of hd rfl]
  simp only [stI, stJ1]
  exact if_pos (by first | (simp; done) | (show 3 < _; simp; done) | (show 3 < _; simp only [List.length_cons]; omega) | (show 3 + 1 < _; simp only [List.length_cons]; omega))
theorem W_iinc0 {M : qM} {pc q : Nat} {n : Int} {v : Int32} (hd : decode (mB M) pc = .ok (.iinc 0 n, 3)) (hq : pc + 3 = q) (hv : Int32.ofInt n = v) : ∀ ⦃d : Nat⦄ ⦃u : Nat × Nat⦄ ⦃l : qL⦄ ⦃st : List Value⦄ ⦃h : qH⦄ ⦃Q : Option (Option Value) → qH → Prop⦄ ⦃x : Int32⦄, WP d M u pc (some (.int x) :: l) st h Q = WP d M u q (some (.int (x + v)) :: l) st h Q := by
  intros
  subst hq
  subst hv
  refine WP_go ?_
  rw [stp_of hd rfl]
  simp only [stI, lg]
  exact if_pos (by first | (simp; done) | (show 3 < _; simp; done) | (show 3 < _; simp only [List.length_cons]; omega) | (show 3 + 1 < _; simp only [List.length_cons]; omega))
theorem W_iload1 {M : qM} {pc q : Nat} (hd : decode (mB M) pc = .ok (.iload_n 1, 1)) (hq : pc + 1 = q) : ∀ ⦃d : Nat⦄ ⦃u : Nat × Nat⦄ ⦃l : qL⦄ ⦃st : List Value⦄ ⦃h : qH⦄ ⦃Q : Option (Option Value) → qH → Prop⦄ ⦃a0 : Option Value⦄ ⦃x : Int32⦄, WP d M u pc (a0 :: some (.int x) :: l) st h Q = WP d M u q (a0 :: some (.int x) :: l) (.int x :: st) h Q := by
  intros
  subst hq
  exact WP_go (by rw [stp_of hd rfl]; rfl)
theorem W_lload1 {M : qM} {pc q : Nat} (hd : decode (mB M) pc = .ok (.lload_n 1, 1)) (hq : pc + 1 = q) : ∀ ⦃d : Nat⦄ ⦃u : Nat × Nat⦄ ⦃l : qL⦄ ⦃st : List Value⦄ ⦃h : qH⦄ ⦃Q : Option (Option Value) → qH → Prop⦄ ⦃a0 : Option Value⦄ ⦃x : Int64⦄, WP d M u pc (a0 :: some (.long x) :: l) st h Q = WP d M u q (a0 :: some (.long x) :: l) (.long x :: st) h Q := by
  intros
  subst hq
  exact WP_go (by rw [stp_of hd rfl]; rfl)
theorem W_aload1 {M : qM} {pc q : Nat} (hd : decode (mB M) pc = .ok (.aload_n 1, 1)) (hq : pc + 1 = q) : ∀ ⦃d : Nat⦄ ⦃u : Nat × Nat⦄ ⦃l : qL⦄ ⦃st : List Value⦄ ⦃h : qH⦄ ⦃Q : Option (Option Value) → qH → Prop⦄ ⦃a0 : Option Value⦄ ⦃x : Nat⦄, WP d M u pc (a0 :: some (.ref x) :: l) st h Q = WP d M u q (a0 :: some (.ref x) :: l) (.ref x :: st) h Q := by
  intros
  subst hq
  exact WP_go (by rw [stp_of hd rfl]; rfl)
theorem W_aloadR1 {M : qM} {pc q : Nat} (hd : decode (mB M) pc = .ok (.aload_n 1, 1)) (hq : pc + 1 = q) : ∀ ⦃d : Nat⦄ ⦃u : Nat × Nat⦄ ⦃l : qL⦄ ⦃st : List Value⦄ ⦃h : qH⦄ ⦃Q : Option (Option Value) → qH → Prop⦄ ⦃a0 : Option Value⦄ ⦃x : Nat⦄ (_ : x < 2000), WP d M u pc (a0 :: some (.retAddr x) :: l) st h Q = WP d M u q (a0 :: some (.retAddr x) :: l) (.retAddr x :: st) h Q := by
  intros
  subst hq
  exact WP_go (by rw [stp_of hd rfl]; rename_i g; simp only [stI, ldA]; exact if_pos g)
theorem W_istore1 {M : qM} {pc q : Nat} (hd : decode (mB M) pc = .ok (.istore_n 1, 1)) (hq : pc + 1 = q) : ∀ ⦃d : Nat⦄ ⦃u : Nat × Nat⦄ ⦃l : qL⦄ ⦃st : List Value⦄ ⦃h : qH⦄ ⦃Q : Option (Option Value) → qH → Prop⦄ ⦃a0 : Option Value⦄ ⦃b : Option Value⦄ ⦃x : Int32⦄, WP d M u pc (a0 :: b :: l) (.int x :: st) h Q = WP d M u q (kl a0 :: some (.int x) :: l) st h Q := by
  intros
  subst hq
  refine WP_go ?_
  rw [stp_of hd rfl]
  simp only [stI, stI1]
  exact if_pos (by first | (simp; done) | (show 3 < _; simp; done) | (show 3 < _; simp only [List.length_cons]; omega) | (show 3 + 1 < _; simp only [List.length_cons]; omega))
theorem W_astore1 {M : qM} {pc q : Nat} (hd : decode (mB M) pc = .ok (.astore_n 1, 1)) (hq : pc + 1 = q) : ∀ ⦃d : Nat⦄ ⦃u : Nat × Nat⦄ ⦃l : qL⦄ ⦃st : List Value⦄ ⦃h : qH⦄ ⦃Q : Option (Option Value) → qH → Prop⦄ ⦃a0 : Option Value⦄ ⦃b : Option Value⦄ ⦃x : Nat⦄, WP d M u pc (a0 :: b :: l) (.ref x :: st) h Q = WP d M u q (kl a0 :: some (.ref x) :: l) st h Q := by
  intros
  subst hq
  refine WP_go ?_
  rw [stp_of hd rfl]
  simp only [stI, stA1]
  exact if_pos (by first | (simp; done) | (show 3 < _; simp; done) | (show 3 < _; simp only [List.length_cons]; omega) | (show 3 + 1 < _; simp only [List.length_cons]; omega))
theorem W_lstore1 {M : qM} {pc q : Nat} (hd : decode (mB M) pc = .ok (.lstore_n 1, 1)) (hq : pc + 1 = q) : ∀ ⦃d : Nat⦄ ⦃u : Nat × Nat⦄ ⦃l : qL⦄ ⦃st : List Value⦄ ⦃h : qH⦄ ⦃Q : Option (Option Value) → qH → Prop⦄ ⦃a0 : Option Value⦄ ⦃b b2 : Option Value⦄ ⦃x : Int64⦄, WP d M u pc (a0 :: b :: b2 :: l) (.long x :: st) h Q = WP d M u q (kl a0 :: some (.long x) :: none :: l) st h Q := by
  intros
  subst hq
  refine WP_go ?_
  rw [stp_of hd rfl]
  simp only [stI, stJ1]
  exact if_pos (by first | (simp; done) | (show 3 < _; simp; done) | (show 3 < _; simp only [List.length_cons]; omega) | (show 3 + 1 < _; simp only [List.length_cons]; omega))
theorem W_iinc1 {M : qM} {pc q : Nat} {n : Int} {v : Int32} (hd : decode (mB M) pc = .ok (.iinc 1 n, 3)) (hq : pc + 3 = q) (hv : Int32.ofInt n = v) : ∀ ⦃d : Nat⦄ ⦃u : Nat × Nat⦄ ⦃l : qL⦄ ⦃st : List Value⦄ ⦃h : qH⦄ ⦃Q : Option (Option Value) → qH → Prop⦄ ⦃a0 : Option Value⦄ ⦃x : Int32⦄, WP d M u pc (a0 :: some (.int x) :: l) st h Q = WP d M u q (kl a0 :: some (.int (x + v)) :: l) st h Q := by
  intros
  subst hq
  subst hv
  refine WP_go ?_
  rw [stp_of hd rfl]
  simp only [stI, lg]
  exact if_pos (by first | (simp; done) | (show 3 < _; simp; done) | (show 3 < _; simp only [List.length_cons]; omega) | (show 3 + 1 < _; simp only [List.length_cons]; omega))
theorem W_iload2 {M : qM} {pc q : Nat} (hd : decode (mB M) pc = .ok (.iload_n 2, 1)) (hq : pc + 1 = q) : ∀ ⦃d : Nat⦄ ⦃u : Nat × Nat⦄ ⦃l : qL⦄ ⦃st : List Value⦄ ⦃h : qH⦄ ⦃Q : Option (Option Value) → qH → Prop⦄ ⦃a0 a1 : Option Value⦄ ⦃x : Int32⦄, WP d M u pc (a0 :: a1 :: some (.int x) :: l) st h Q = WP d M u q (a0 :: a1 :: some (.int x) :: l) (.int x :: st) h Q := by
  intros
  subst hq
  exact WP_go (by rw [stp_of hd rfl]; rfl)
theorem W_lload2 {M : qM} {pc q : Nat} (hd : decode (mB M) pc = .ok (.lload_n 2, 1)) (hq : pc + 1 = q) : ∀ ⦃d : Nat⦄ ⦃u : Nat × Nat⦄ ⦃l : qL⦄ ⦃st : List Value⦄ ⦃h : qH⦄ ⦃Q : Option (Option Value) → qH → Prop⦄ ⦃a0 a1 : Option Value⦄ ⦃x : Int64⦄, WP d M u pc (a0 :: a1 :: some (.long x) :: l) st h Q = WP d M u q (a0 :: a1 :: some (.long x) :: l) (.long x :: st) h Q := by
  intros
  subst hq
  exact WP_go (by rw [stp_of hd rfl]; rfl)
theorem W_aload2 {M : qM} {pc q : Nat} (hd : decode (mB M) pc = .ok (.aload_n 2, 1)) (hq : pc + 1 = q) : ∀ ⦃d : Nat⦄ ⦃u : Nat × Nat⦄ ⦃l : qL⦄ ⦃st : List Value⦄ ⦃h : qH⦄ ⦃Q : Option (Option Value) → qH → Prop⦄ ⦃a0 a1 : Option Value⦄ ⦃x : Nat⦄, WP d M u pc (a0 :: a1 :: some (.ref x) :: l) st h Q = WP d M u q (a0 :: a1 :: some (.ref x) :: l) (.ref x :: st) h Q := by
  intros
  subst hq
  exact WP_go (by rw [stp_of hd rfl]; rfl)
theorem W_aloadR2 {M : qM} {pc q : Nat} (hd : decode (mB M) pc = .ok (.aload_n 2, 1)) (hq : pc + 1 = q) : ∀ ⦃d : Nat⦄ ⦃u : Nat × Nat⦄ ⦃l : qL⦄ ⦃st : List Value⦄ ⦃h : qH⦄ ⦃Q : Option (Option Value) → qH → Prop⦄ ⦃a0 a1 : Option Value⦄ ⦃x : Nat⦄ (_ : x < 2000), WP d M u pc (a0 :: a1 :: some (.retAddr x) :: l) st h Q = WP d M u q (a0 :: a1 :: some (.retAddr x) :: l) (.retAddr x :: st) h Q := by
  intros
  subst hq
  exact WP_go (by rw [stp_of hd rfl]; rename_i g; simp only [stI, ldA]; exact if_pos g)
theorem W_istore2 {M : qM} {pc q : Nat} (hd : decode (mB M) pc = .ok (.istore_n 2, 1)) (hq : pc + 1 = q) : ∀ ⦃d : Nat⦄ ⦃u : Nat × Nat⦄ ⦃l : qL⦄ ⦃st : List Value⦄ ⦃h : qH⦄ ⦃Q : Option (Option Value) → qH → Prop⦄ ⦃a0 a1 : Option Value⦄ ⦃b : Option Value⦄ ⦃x : Int32⦄, WP d M u pc (a0 :: a1 :: b :: l) (.int x :: st) h Q = WP d M u q (a0 :: kl a1 :: some (.int x) :: l) st h Q := by
  intros
  subst hq
  refine WP_go ?_
  rw [stp_of hd rfl]
  simp only [stI, stI1]
  exact if_pos (by first | (simp; done) | (show 3 < _; simp; done) | (show 3 < _; simp only [List.length_cons]; omega) | (show 3 + 1 < _; simp only [List.length_cons]; omega))
theorem W_astore2 {M : qM} {pc q : Nat} (hd : decode (mB M) pc = .ok (.astore_n 2, 1)) (hq : pc + 1 = q) : ∀ ⦃d : Nat⦄ ⦃u : Nat × Nat⦄ ⦃l : qL⦄ ⦃st : List Value⦄ ⦃h : qH⦄ ⦃Q : Option (Option Value) → qH → Prop⦄ ⦃a0 a1 : Option Value⦄ ⦃b : Option Value⦄ ⦃x : Nat⦄, WP d M u pc (a0 :: a1 :: b :: l) (.ref x :: st) h Q = WP d M u q (a0 :: kl a1 :: some (.ref x) :: l) st h Q := by
  intros
  subst hq
  refine WP_go ?_
  rw [stp_of hd rfl]
  simp only [stI, stA1]
  exact if_pos (by first | (simp; done) | (show 3 < _; simp; done) | (show 3 < _; simp only [List.length_cons]; omega) | (show 3 + 1 < _; simp only [List.length_cons]; omega))
theorem W_lstore2 {M : qM} {pc q : Nat} (hd : decode (mB M) pc = .ok (.lstore_n 2, 1)) (hq : pc + 1 = q) : ∀ ⦃d : Nat⦄ ⦃u : Nat × Nat⦄ ⦃l : qL⦄ ⦃st : List Value⦄ ⦃h : qH⦄ ⦃Q : Option (Option Value) → qH → Prop⦄ ⦃a0 a1 : Option Value⦄ ⦃b b2 : Option Value⦄ ⦃x : Int64⦄, WP d M u pc (a0 :: a1 :: b :: b2 :: l) (.long x :: st) h Q = WP d M u q (a0 :: kl a1 :: some (.long x) :: none :: l) st h Q := by
  intros
  subst hq
  refine WP_go ?_
  rw [stp_of hd rfl]
  simp only [stI, stJ1]
  exact if_pos (by first | (simp; done) | (show 3 < _; simp; done) | (show 3 < _; simp only [List.length_cons]; omega) | (show 3 + 1 < _; simp only [List.length_cons]; omega))
theorem W_iinc2 {M : qM} {pc q : Nat} {n : Int} {v : Int32} (hd : decode (mB M) pc = .ok (.iinc 2 n, 3)) (hq : pc + 3 = q) (hv : Int32.ofInt n = v) : ∀ ⦃d : Nat⦄ ⦃u : Nat × Nat⦄ ⦃l : qL⦄ ⦃st : List Value⦄ ⦃h : qH⦄ ⦃Q : Option (Option Value) → qH → Prop⦄ ⦃a0 a1 : Option Value⦄ ⦃x : Int32⦄, WP d M u pc (a0 :: a1 :: some (.int x) :: l) st h Q = WP d M u q (a0 :: kl a1 :: some (.int (x + v)) :: l) st h Q := by
  intros
  subst hq
  subst hv
  refine WP_go ?_
  rw [stp_of hd rfl]
  simp only [stI, lg]
  exact if_pos (by first | (simp; done) | (show 3 < _; simp; done) | (show 3 < _; simp only [List.length_cons]; omega) | (show 3 + 1 < _; simp only [List.length_cons]; omega))
theorem W_iload3 {M : qM} {pc q : Nat} (hd : decode (mB M) pc = .ok (.iload_n 3, 1)) (hq : pc + 1 = q) : ∀ ⦃d : Nat⦄ ⦃u : Nat × Nat⦄ ⦃l : qL⦄ ⦃st : List Value⦄ ⦃h : qH⦄ ⦃Q : Option (Option Value) → qH → Prop⦄ ⦃a0 a1 a2 : Option Value⦄ ⦃x : Int32⦄, WP d M u pc (a0 :: a1 :: a2 :: some (.int x) :: l) st h Q = WP d M u q (a0 :: a1 :: a2 :: some (.int x) :: l) (.int x :: st) h Q := by
  intros
  subst hq
  exact WP_go (by rw [stp_of hd rfl]; rfl)
theorem W_lload3 {M : qM} {pc q : Nat} (hd : decode (mB M) pc = .ok (.lload_n 3, 1)) (hq : pc + 1 = q) : ∀ ⦃d : Nat⦄ ⦃u : Nat × Nat⦄ ⦃l : qL⦄ ⦃st : List Value⦄ ⦃h : qH⦄ ⦃Q : Option (Option Value) → qH → Prop⦄ ⦃a0 a1 a2 : Option Value⦄ ⦃x : Int64⦄, WP d M u pc (a0 :: a1 :: a2 :: some (.long x) :: l) st h Q = WP d M u q (a0 :: a1 :: a2 :: some (.long x) :: l) (.long x :: st) h Q := by
  intros
  subst hq
  exact WP_go (by rw [stp_of hd rfl]; rfl)
theorem W_aload3 {M : qM} {pc q : Nat} (hd : decode (mB M) pc = .ok (.aload_n 3, 1)) (hq : pc + 1 = q) : ∀ ⦃d : Nat⦄ ⦃u : Nat × Nat⦄ ⦃l : qL⦄ ⦃st : List Value⦄ ⦃h : qH⦄ ⦃Q : Option (Option Value) → qH → Prop⦄ ⦃a0 a1 a2 : Option Value⦄ ⦃x : Nat⦄, WP d M u pc (a0 :: a1 :: a2 :: some (.ref x) :: l) st h Q = WP d M u q (a0 :: a1 :: a2 :: some (.ref x) :: l) (.ref x :: st) h Q := by
  intros
  subst hq
  exact WP_go (by rw [stp_of hd rfl]; rfl)
theorem W_aloadR3 {M : qM} {pc q : Nat} (hd : decode (mB M) pc = .ok (.aload_n 3, 1)) (hq : pc + 1 = q) : ∀ ⦃d : Nat⦄ ⦃u : Nat × Nat⦄ ⦃l : qL⦄ ⦃st : List Value⦄ ⦃h : qH⦄ ⦃Q : Option (Option Value) → qH → Prop⦄ ⦃a0 a1 a2 : Option Value⦄ ⦃x : Nat⦄ (_ : x < 2000), WP d M u pc (a0 :: a1 :: a2 :: some (.retAddr x) :: l) st h Q = WP d M u q (a0 :: a1 :: a2 :: some (.retAddr x) :: l) (.retAddr x :: st) h Q := by
  intros
  subst hq
  exact WP_go (by rw [stp_of hd rfl]; rename_i g; simp only [stI, ldA]; exact if_pos g)
theorem W_istore3 {M : qM} {pc q : Nat} (hd : decode (mB M) pc = .ok (.istore_n 3, 1)) (hq : pc + 1 = q) : ∀ ⦃d : Nat⦄ ⦃u : Nat × Nat⦄ ⦃l : qL⦄ ⦃st : List Value⦄ ⦃h : qH⦄ ⦃Q : Option (Option Value) → qH → Prop⦄ ⦃a0 a1 a2 : Option Value⦄ ⦃b : Option Value⦄ ⦃x : Int32⦄, WP d M u pc (a0 :: a1 :: a2 :: b :: l) (.int x :: st) h Q = WP d M u q (a0 :: a1 :: kl a2 :: some (.int x) :: l) st h Q := by
  intros
  subst hq
  refine WP_go ?_
  rw [stp_of hd rfl]
  simp only [stI, stI1]
  exact if_pos (by first | (simp; done) | (show 3 < _; simp; done) | (show 3 < _; simp only [List.length_cons]; omega) | (show 3 + 1 < _; simp only [List.length_cons]; omega))
theorem W_astore3 {M : qM} {pc q : Nat} (hd : decode (mB M) pc = .ok (.astore_n 3, 1)) (hq : pc + 1 = q) : ∀ ⦃d : Nat⦄ ⦃u : Nat × Nat⦄ ⦃l : qL⦄ ⦃st : List Value⦄ ⦃h : qH⦄ ⦃Q : Option (Option Value) → qH → Prop⦄ ⦃a0 a1 a2 : Option Value⦄ ⦃b : Option Value⦄ ⦃x : Nat⦄, WP d M u pc (a0 :: a1 :: a2 :: b :: l) (.ref x :: st) h Q = WP d M u q (a0 :: a1 :: kl a2 :: some (.ref x) :: l) st h Q := by
  intros
  subst hq
  refine WP_go ?_
  rw [stp_of hd rfl]
  simp only [stI, stA1]
  exact if_pos (by first | (simp; done) | (show 3 < _; simp; done) | (show 3 < _; simp only [List.length_cons]; omega) | (show 3 + 1 < _; simp only [List.length_cons]; omega))
theorem W_lstore3 {M : qM} {pc q : Nat} (hd : decode (mB M) pc = .ok (.lstore_n 3, 1)) (hq : pc + 1 = q) : ∀ ⦃d : Nat⦄ ⦃u : Nat × Nat⦄ ⦃l : qL⦄ ⦃st : List Value⦄ ⦃h : qH⦄ ⦃Q : Option (Option Value) → qH → Prop⦄ ⦃a0 a1 a2 : Option Value⦄ ⦃b b2 : Option Value⦄ ⦃x : Int64⦄, WP d M u pc (a0 :: a1 :: a2 :: b :: b2 :: l) (.long x :: st) h Q = WP d M u q (a0 :: a1 :: kl a2 :: some (.long x) :: none :: l) st h Q := by
  intros
  subst hq
  refine WP_go ?_
  rw [stp_of hd rfl]
  simp only [stI, stJ1]
  exact if_pos (by first | (simp; done) | (show 3 < _; simp; done) | (show 3 < _; simp only [List.length_cons]; omega) | (show 3 + 1 < _; simp only [List.length_cons]; omega))
theorem W_iinc3 {M : qM} {pc q : Nat} {n : Int} {v : Int32} (hd : decode (mB M) pc = .ok (.iinc 3 n, 3)) (hq : pc + 3 = q) (hv : Int32.ofInt n = v) : ∀ ⦃d : Nat⦄ ⦃u : Nat × Nat⦄ ⦃l : qL⦄ ⦃st : List Value⦄ ⦃h : qH⦄ ⦃Q : Option (Option Value) → qH → Prop⦄ ⦃a0 a1 a2 : Option Value⦄ ⦃x : Int32⦄, WP d M u pc (a0 :: a1 :: a2 :: some (.int x) :: l) st h Q = WP d M u q (a0 :: a1 :: kl a2 :: some (.int (x + v)) :: l) st h Q := by
  intros
  subst hq
  subst hv
  refine WP_go ?_
  rw [stp_of hd rfl]
  simp only [stI, lg]
  exact if_pos (by first | (simp; done) | (show 3 < _; simp; done) | (show 3 < _; simp only [List.length_cons]; omega) | (show 3 + 1 < _; simp only [List.length_cons]; omega))
theorem W_iload4 {M : qM} {pc q : Nat} (hd : decode (mB M) pc = .ok (.iload 4, 2)) (hq : pc + 2 = q) : ∀ ⦃d : Nat⦄ ⦃u : Nat × Nat⦄ ⦃l : qL⦄ ⦃st : List Value⦄ ⦃h : qH⦄ ⦃Q : Option (Option Value) → qH → Prop⦄ ⦃a0 a1 a2 a3 : Option Value⦄ ⦃x : Int32⦄, WP d M u pc (a0 :: a1 :: a2 :: a3 :: some (.int x) :: l) st h Q = WP d M u q (a0 :: a1 :: a2 :: a3 :: some (.int x) :: l) (.int x :: st) h Q := by
  intros
  subst hq
  exact WP_go (by rw [stp_of hd rfl]; rfl)
theorem W_lload4 {M : qM} {pc q : Nat} (hd : decode (mB M) pc = .ok (.lload 4, 2)) (hq : pc + 2 = q) : ∀ ⦃d : Nat⦄ ⦃u : Nat × Nat⦄ ⦃l : qL⦄ ⦃st : List Value⦄ ⦃h : qH⦄ ⦃Q : Option (Option Value) → qH → Prop⦄ ⦃a0 a1 a2 a3 : Option Value⦄ ⦃x : Int64⦄, WP d M u pc (a0 :: a1 :: a2 :: a3 :: some (.long x) :: l) st h Q = WP d M u q (a0 :: a1 :: a2 :: a3 :: some (.long x) :: l) (.long x :: st) h Q := by
  intros
  subst hq
  exact WP_go (by rw [stp_of hd rfl]; rfl)
theorem W_aload4 {M : qM} {pc q : Nat} (hd : decode (mB M) pc = .ok (.aload 4, 2)) (hq : pc + 2 = q) : ∀ ⦃d : Nat⦄ ⦃u : Nat × Nat⦄ ⦃l : qL⦄ ⦃st : List Value⦄ ⦃h : qH⦄ ⦃Q : Option (Option Value) → qH → Prop⦄ ⦃a0 a1 a2 a3 : Option Value⦄ ⦃x : Nat⦄, WP d M u pc (a0 :: a1 :: a2 :: a3 :: some (.ref x) :: l) st h Q = WP d M u q (a0 :: a1 :: a2 :: a3 :: some (.ref x) :: l) (.ref x :: st) h Q := by
  intros
  subst hq
  exact WP_go (by rw [stp_of hd rfl]; rfl)
theorem W_aloadR4 {M : qM} {pc q : Nat} (hd : decode (mB M) pc = .ok (.aload 4, 2)) (hq : pc + 2 = q) : ∀ ⦃d : Nat⦄ ⦃u : Nat × Nat⦄ ⦃l : qL⦄ ⦃st : List Value⦄ ⦃h : qH⦄ ⦃Q : Option (Option Value) → qH → Prop⦄ ⦃a0 a1 a2 a3 : Option Value⦄ ⦃x : Nat⦄ (_ : x < 2000), WP d M u pc (a0 :: a1 :: a2 :: a3 :: some (.retAddr x) :: l) st h Q = WP d M u q (a0 :: a1 :: a2 :: a3 :: some (.retAddr x) :: l) (.retAddr x :: st) h Q := by
  intros
  subst hq
  exact WP_go (by rw [stp_of hd rfl]; rename_i g; simp only [stI, ldA]; exact if_pos g)
theorem W_istore4 {M : qM} {pc q : Nat} (hd : decode (mB M) pc = .ok (.istore 4, 2)) (hq : pc + 2 = q) : ∀ ⦃d : Nat⦄ ⦃u : Nat × Nat⦄ ⦃l : qL⦄ ⦃st : List Value⦄ ⦃h : qH⦄ ⦃Q : Option (Option Value) → qH → Prop⦄ ⦃a0 a1 a2 a3 : Option Value⦄ ⦃b : Option Value⦄ ⦃x : Int32⦄, WP d M u pc (a0 :: a1 :: a2 :: a3 :: b :: l) (.int x :: st) h Q = WP d M u q (a0 :: a1 :: a2 :: kl a3 :: some (.int x) :: l) st h Q := by
  intros
  subst hq
  refine WP_go ?_
  rw [stp_of hd rfl]
  simp only [stI, stI1]
  exact if_pos (by first | (simp; done) | (show 3 < _; simp; done) | (show 3 < _; simp only [List.length_cons]; omega) | (show 3 + 1 < _; simp only [List.length_cons]; omega))
theorem W_astore4 {M : qM} {pc q : Nat} (hd : decode (mB M) pc = .ok (.astore 4, 2)) (hq : pc + 2 = q) : ∀ ⦃d : Nat⦄ ⦃u : Nat × Nat⦄ ⦃l : qL⦄ ⦃st : List Value⦄ ⦃h : qH⦄ ⦃Q : Option (Option Value) → qH → Prop⦄ ⦃a0 a1 a2 a3 : Option Value⦄ ⦃b : Option Value⦄ ⦃x : Nat⦄, WP d M u pc (a0 :: a1 :: a2 :: a3 :: b :: l) (.ref x :: st) h Q = WP d M u q (a0 :: a1 :: a2 :: kl a3 :: some (.ref x) :: l) st h Q := by
  intros
  subst hq
  refine WP_go ?_
  rw [stp_of hd rfl]
  simp only [stI, stA1]
  exact if_pos (by first | (simp; done) | (show 3 < _; simp; done) | (show 3 < _; simp only [List.length_cons]; omega) | (show 3 + 1 < _; simp only [List.length_cons]; omega))
theorem W_lstore4 {M : qM} {pc q : Nat} (hd : decode (mB M) pc = .ok (.lstore 4, 2)) (hq : pc + 2 = q) : ∀ ⦃d : Nat⦄ ⦃u : Nat × Nat⦄ ⦃l : qL⦄ ⦃st : List Value⦄ ⦃h : qH⦄ ⦃Q : Option (Option Value) → qH → Prop⦄ ⦃a0 a1 a2 a3 : Option Value⦄ ⦃b b2 : Option Value⦄ ⦃x : Int64⦄, WP d M u pc (a0 :: a1 :: a2 :: a3 :: b :: b2 :: l) (.long x :: st) h Q = WP d M u q (a0 :: a1 :: a2 :: kl a3 :: some (.long x) :: none :: l) st h Q := by
  intros
  subst hq
  refine WP_go ?_
  rw [stp_of hd rfl]
  simp only [stI, stJ1]
  exact if_pos (by first | (simp; done) | (show 3 < _; simp; done) | (show 3 < _; simp only [List.length_cons]; omega) | (show 3 + 1 < _; simp only [List.length_cons]; omega))
theorem W_iinc4 {M : qM} {pc q : Nat} {n : Int} {v : Int32} (hd : decode (mB M) pc = .ok (.iinc 4 n, 3)) (hq : pc + 3 = q) (hv : Int32.ofInt n = v) : ∀ ⦃d : Nat⦄ ⦃u : Nat × Nat⦄ ⦃l : qL⦄ ⦃st : List Value⦄ ⦃h : qH⦄ ⦃Q : Option (Option Value) → qH → Prop⦄ ⦃a0 a1 a2 a3 : Option Value⦄ ⦃x : Int32⦄, WP d M u pc (a0 :: a1 :: a2 :: a3 :: some (.int x) :: l) st h Q = WP d M u q (a0 :: a1 :: a2 :: kl a3 :: some (.int (x + v)) :: l) st h Q := by
  intros
  subst hq
  subst hv
  refine WP_go ?_
  rw [stp_of hd rfl]
  simp only [stI, lg]
  exact if_pos (by first | (simp; done) | (show 3 < _; simp; done) | (show 3 < _; simp only [List.length_cons]; omega) | (show 3 + 1 < _; simp only [List.length_cons]; omega))
theorem W_iload5 {M : qM} {pc q : Nat} (hd : decode (mB M) pc = .ok (.iload 5, 2)) (hq : pc + 2 = q) : ∀ ⦃d : Nat⦄ ⦃u : Nat × Nat⦄ ⦃l : qL⦄ ⦃st : List Value⦄ ⦃h : qH⦄ ⦃Q : Option (Option Value) → qH → Prop⦄ ⦃a0 a1 a2 a3 a4 : Option Value⦄ ⦃x : Int32⦄, WP d M u pc (a0 :: a1 :: a2 :: a3 :: a4 :: some (.int x) :: l) st h Q = WP d M u q (a0 :: a1 :: a2 :: a3 :: a4 :: some (.int x) :: l) (.int x :: st) h Q := by
  intros
  subst hq
  exact WP_go (by rw [stp_of hd rfl]; rfl)
theorem W_lload5 {M : qM} {pc q : Nat} (hd : decode (mB M) pc = .ok (.lload 5, 2)) (hq : pc + 2 = q) : ∀ ⦃d : Nat⦄ ⦃u : Nat × Nat⦄ ⦃l : qL⦄ ⦃st : List Value⦄ ⦃h : qH⦄ ⦃Q : Option (Option Value) → qH → Prop⦄ ⦃a0 a1 a2 a3 a4 : Option Value⦄ ⦃x : Int64⦄, WP d M u pc (a0 :: a1 :: a2 :: a3 :: a4 :: some (.long x) :: l) st h Q = WP d M u q (a0 :: a1 :: a2 :: a3 :: a4 :: some (.long x) :: l) (.long x :: st) h Q := by
  intros
  subst hq
  exact WP_go (by rw [stp_of hd rfl]; rfl)
theorem W_aload5 {M : qM} {pc q : Nat} (hd : decode (mB M) pc = .ok (.aload 5, 2)) (hq : pc + 2 = q) : ∀ ⦃d : Nat⦄ ⦃u : Nat × Nat⦄ ⦃l : qL⦄ ⦃st : List Value⦄ ⦃h : qH⦄ ⦃Q : Option (Option Value) → qH → Prop⦄ ⦃a0 a1 a2 a3 a4 : Option Value⦄ ⦃x : Nat⦄, WP d M u pc (a0 :: a1 :: a2 :: a3 :: a4 :: some (.ref x) :: l) st h Q = WP d M u q (a0 :: a1 :: a2 :: a3 :: a4 :: some (.ref x) :: l) (.ref x :: st) h Q := by
  intros
  subst hq
  exact WP_go (by rw [stp_of hd rfl]; rfl)
theorem W_aloadR5 {M : qM} {pc q : Nat} (hd : decode (mB M) pc = .ok (.aload 5, 2)) (hq : pc + 2 = q) : ∀ ⦃d : Nat⦄ ⦃u : Nat × Nat⦄ ⦃l : qL⦄ ⦃st : List Value⦄ ⦃h : qH⦄ ⦃Q : Option (Option Value) → qH → Prop⦄ ⦃a0 a1 a2 a3 a4 : Option Value⦄ ⦃x : Nat⦄ (_ : x < 2000), WP d M u pc (a0 :: a1 :: a2 :: a3 :: a4 :: some (.retAddr x) :: l) st h Q = WP d M u q (a0 :: a1 :: a2 :: a3 :: a4 :: some (.retAddr x) :: l) (.retAddr x :: st) h Q := by
  intros
  subst hq
  exact WP_go (by rw [stp_of hd rfl]; rename_i g; simp only [stI, ldA]; exact if_pos g)
theorem W_istore5 {M : qM} {pc q : Nat} (hd : decode (mB M) pc = .ok (.istore 5, 2)) (hq : pc + 2 = q) : ∀ ⦃d : Nat⦄ ⦃u : Nat × Nat⦄ ⦃l : qL⦄ ⦃st : List Value⦄ ⦃h : qH⦄ ⦃Q : Option (Option Value) → qH → Prop⦄ ⦃a0 a1 a2 a3 a4 : Option Value⦄ ⦃b : Option Value⦄ ⦃x : Int32⦄, WP d M u pc (a0 :: a1 :: a2 :: a3 :: a4 :: b :: l) (.int x :: st) h Q = WP d M u q (a0 :: a1 :: a2 :: a3 :: kl a4 :: some (.int x) :: l) st h Q := by
  intros
  subst hq
  refine WP_go ?_
  rw [stp_of hd rfl]
  simp only [stI, stI1]
  exact if_pos (by first | (simp; done) | (show 3 < _; simp; done) | (show 3 < _; simp only [List.length_cons]; omega) | (show 3 + 1 < _; simp only [List.length_cons]; omega))
theorem W_astore5 {M : qM} {pc q : Nat} (hd : decode (mB M) pc = .ok (.astore 5, 2)) (hq : pc + 2 = q) : ∀ ⦃d : Nat⦄ ⦃u : Nat × Nat⦄ ⦃l : qL⦄ ⦃st : List Value⦄ ⦃h : qH⦄ ⦃Q : Option (Option Value) → qH → Prop⦄ ⦃a0 a1 a2 a3 a4 : Option Value⦄ ⦃b : Option Value⦄ ⦃x : Nat⦄, WP d M u pc (a0 :: a1 :: a2 :: a3 :: a4 :: b :: l) (.ref x :: st) h Q = WP d M u q (a0 :: a1 :: a2 :: a3 :: kl a4 :: some (.ref x) :: l) st h Q := by
  intros
  subst hq
  refine WP_go ?_
  rw [stp_of hd rfl]
  simp only [stI, stA1]
  exact if_pos (by first | (simp; done) | (show 3 < _; simp; done) | (show 3 < _; simp only [List.length_cons]; omega) | (show 3 + 1 < _; simp only [List.length_cons]; omega))
theorem W_lstore5 {M : qM} {pc q : Nat} (hd : decode (mB M) pc = .ok (.lstore 5, 2)) (hq : pc + 2 = q) : ∀ ⦃d : Nat⦄ ⦃u : Nat × Nat⦄ ⦃l : qL⦄ ⦃st : List Value⦄ ⦃h : qH⦄ ⦃Q : Option (Option Value) → qH → Prop⦄ ⦃a0 a1 a2 a3 a4 : Option Value⦄ ⦃b b2 : Option Value⦄ ⦃x : Int64⦄, WP d M u pc (a0 :: a1 :: a2 :: a3 :: a4 :: b :: b2 :: l) (.long x :: st) h Q = WP d M u q (a0 :: a1 :: a2 :: a3 :: kl a4 :: some (.long x) :: none :: l) st h Q := by
  intros
  subst hq
  refine WP_go ?_
  rw [stp_of hd rfl]
  simp only [stI, stJ1]
  exact if_pos (by first | (simp; done) | (show 3 < _; simp; done) | (show 3 < _; simp only [List.length_cons]; omega) | (show 3 + 1 < _; simp only [List.length_cons]; omega))
theorem W_iinc5 {M : qM} {pc q : Nat} {n : Int} {v : Int32} (hd : decode (mB M) pc = .ok (.iinc 5 n, 3)) (hq : pc + 3 = q) (hv : Int32.ofInt n = v) : ∀ ⦃d : Nat⦄ ⦃u : Nat × Nat⦄ ⦃l : qL⦄ ⦃st : List Value⦄ ⦃h : qH⦄ ⦃Q : Option (Option Value) → qH → Prop⦄ ⦃a0 a1 a2 a3 a4 : Option Value⦄ ⦃x : Int32⦄, WP d M u pc (a0 :: a1 :: a2 :: a3 :: a4 :: some (.int x) :: l) st h Q = WP d M u q (a0 :: a1 :: a2 :: a3 :: kl a4 :: some (.int (x + v)) :: l) st h Q := by
  intros
  subst hq
  subst hv
  refine WP_go ?_
  rw [stp_of hd rfl]
  simp only [stI, lg]
  exact if_pos (by first | (simp; done) | (show 3 < _; simp; done) | (show 3 < _; simp only [List.length_cons]; omega) | (show 3 + 1 < _; simp only [List.length_cons]; omega))
theorem W_iload6 {M : qM} {pc q : Nat} (hd : decode (mB M) pc = .ok (.iload 6, 2)) (hq : pc + 2 = q) : ∀ ⦃d : Nat⦄ ⦃u : Nat × Nat⦄ ⦃l : qL⦄ ⦃st : List Value⦄ ⦃h : qH⦄ ⦃Q : Option (Option Value) → qH → Prop⦄ ⦃a0 a1 a2 a3 a4 a5 : Option Value⦄ ⦃x : Int32⦄, WP d M u pc (a0 :: a1 :: a2 :: a3 :: a4 :: a5 :: some (.int x) :: l) st h Q = WP d M u q (a0 :: a1 :: a2 :: a3 :: a4 :: a5 :: some (.int x) :: l) (.int x :: st) h Q := by
  intros
  subst hq
  exact WP_go (by rw [stp_of hd rfl]; rfl)
theorem W_lload6 {M : qM} {pc q : Nat} (hd : decode (mB M) pc = .ok (.lload 6, 2)) (hq : pc + 2 = q) : ∀ ⦃d : Nat⦄ ⦃u : Nat × Nat⦄ ⦃l : qL⦄ ⦃st : List Value⦄ ⦃h : qH⦄ ⦃Q : Option (Option Value) → qH → Prop⦄ ⦃a0 a1 a2 a3 a4 a5 : Option Value⦄ ⦃x : Int64⦄, WP d M u pc (a0 :: a1 :: a2 :: a3 :: a4 :: a5 :: some (.long x) :: l) st h Q = WP d M u q (a0 :: a1 :: a2 :: a3 :: a4 :: a5 :: some (.long x) :: l) (.long x :: st) h Q := by
  intros
  subst hq
  exact WP_go (by rw [stp_of hd rfl]; rfl)
theorem W_aload6 {M : qM} {pc q : Nat} (hd : decode (mB M) pc = .ok (.aload 6, 2)) (hq : pc + 2 = q) : ∀ ⦃d : Nat⦄ ⦃u : Nat × Nat⦄ ⦃l : qL⦄ ⦃st : List Value⦄ ⦃h : qH⦄ ⦃Q : Option (Option Value) → qH → Prop⦄ ⦃a0 a1 a2 a3 a4 a5 : Option Value⦄ ⦃x : Nat⦄, WP d M u pc (a0 :: a1 :: a2 :: a3 :: a4 :: a5 :: some (.ref x) :: l) st h Q = WP d M u q (a0 :: a1 :: a2 :: a3 :: a4 :: a5 :: some (.ref x) :: l) (.ref x :: st) h Q := by
  intros
  subst hq
  exact WP_go (by rw [stp_of hd rfl]; rfl)
theorem W_aloadR6 {M : qM} {pc q : Nat} (hd : decode (mB M) pc = .ok (.aload 6, 2)) (hq : pc + 2 = q) : ∀ ⦃d : Nat⦄ ⦃u : Nat × Nat⦄ ⦃l : qL⦄ ⦃st : List Value⦄ ⦃h : qH⦄ ⦃Q : Option (Option Value) → qH → Prop⦄ ⦃a0 a1 a2 a3 a4 a5 : Option Value⦄ ⦃x : Nat⦄ (_ : x < 2000), WP d M u pc (a0 :: a1 :: a2 :: a3 :: a4 :: a5 :: some (.retAddr x) :: l) st h Q = WP d M u q (a0 :: a1 :: a2 :: a3 :: a4 :: a5 :: some (.retAddr x) :: l) (.retAddr x :: st) h Q := by
  intros
  subst hq
  exact WP_go (by rw [stp_of hd rfl]; rename_i g; simp only [stI, ldA]; exact if_pos g)
theorem W_istore6 {M : qM} {pc q : Nat} (hd : decode (mB M) pc = .ok (.istore 6, 2)) (hq : pc + 2 = q) : ∀ ⦃d : Nat⦄ ⦃u : Nat × Nat⦄ ⦃l : qL⦄ ⦃st : List Value⦄ ⦃h : qH⦄ ⦃Q : Option (Option Value) → qH → Prop⦄ ⦃a0 a1 a2 a3 a4 a5 : Option Value⦄ ⦃b : Option Value⦄ ⦃x : Int32⦄, WP d M u pc (a0 :: a1 :: a2 :: a3 :: a4 :: a5 :: b :: l) (.int x :: st) h Q = WP d M u q (a0 :: a1 :: a2 :: a3 :: a4 :: kl a5 :: some (.int x) :: l) st h Q := by
  intros
  subst hq
  refine WP_go ?_
  rw [stp_of hd rfl]
  simp only [stI, stI1]
  exact if_pos (by first | (simp; done) | (show 3 < _; simp; done) | (show 3 < _; simp only [List.length_cons]; omega) | (show 3 + 1 < _; simp only [List.length_cons]; omega))
theorem W_astore6 {M : qM} {pc q : Nat} (hd : decode (mB M) pc = .ok (.astore 6, 2)) (hq : pc + 2 = q) : ∀ ⦃d : Nat⦄ ⦃u : Nat × Nat⦄ ⦃l : qL⦄ ⦃st : List Value⦄ ⦃h : qH⦄ ⦃Q : Option (Option Value) → qH → Prop⦄ ⦃a0 a1 a2 a3 a4 a5 : Option Value⦄ ⦃b : Option Value⦄ ⦃x : Nat⦄, WP d M u pc (a0 :: a1 :: a2 :: a3 :: a4 :: a5 :: b :: l) (.ref x :: st) h Q = WP d M u q (a0 :: a1 :: a2 :: a3 :: a4 :: kl a5 :: some (.ref x) :: l) st h Q := by
  intros
  subst hq
  refine WP_go ?_
  rw [stp_of hd rfl]
  simp only [stI, stA1]
  exact if_pos (by first | (simp; done) | (show 3 < _; simp; done) | (show 3 < _; simp only [List.length_cons]; omega) | (show 3 + 1 < _; simp only [List.length_cons]; omega))
theorem W_lstore6 {M : qM} {pc q : Nat} (hd : decode (mB M) pc = .ok (.lstore 6, 2)) (hq : pc + 2 = q) : ∀ ⦃d : Nat⦄ ⦃u : Nat × Nat⦄ ⦃l : qL⦄ ⦃st : List Value⦄ ⦃h : qH⦄ ⦃Q : Option (Option Value) → qH → Prop⦄ ⦃a0 a1 a2 a3 a4 a5 : Option Value⦄ ⦃b b2 : Option Value⦄ ⦃x : Int64⦄, WP d M u pc (a0 :: a1 :: a2 :: a3 :: a4 :: a5 :: b :: b2 :: l) (.long x :: st) h Q = WP d M u q (a0 :: a1 :: a2 :: a3 :: a4 :: kl a5 :: some (.long x) :: none :: l) st h Q := by
  intros
  subst hq
  refine WP_go ?_
  rw [stp_of hd rfl]
  simp only [stI, stJ1]
  exact if_pos (by first | (simp; done) | (show 3 < _; simp; done) | (show 3 < _; simp only [List.length_cons]; omega) | (show 3 + 1 < _; simp only [List.length_cons]; omega))
theorem W_iinc6 {M : qM} {pc q : Nat} {n : Int} {v : Int32} (hd : decode (mB M) pc = .ok (.iinc 6 n, 3)) (hq : pc + 3 = q) (hv : Int32.ofInt n = v) : ∀ ⦃d : Nat⦄ ⦃u : Nat × Nat⦄ ⦃l : qL⦄ ⦃st : List Value⦄ ⦃h : qH⦄ ⦃Q : Option (Option Value) → qH → Prop⦄ ⦃a0 a1 a2 a3 a4 a5 : Option Value⦄ ⦃x : Int32⦄, WP d M u pc (a0 :: a1 :: a2 :: a3 :: a4 :: a5 :: some (.int x) :: l) st h Q = WP d M u q (a0 :: a1 :: a2 :: a3 :: a4 :: kl a5 :: some (.int (x + v)) :: l) st h Q := by
  intros
  subst hq
  subst hv
  refine WP_go ?_
  rw [stp_of hd rfl]
  simp only [stI, lg]
  exact if_pos (by first | (simp; done) | (show 3 < _; simp; done) | (show 3 < _; simp only [List.length_cons]; omega) | (show 3 + 1 < _; simp only [List.length_cons]; omega))
theorem W_iload7 {M : qM} {pc q : Nat} (hd : decode (mB M) pc = .ok (.iload 7, 2)) (hq : pc + 2 = q) : ∀ ⦃d : Nat⦄ ⦃u : Nat × Nat⦄ ⦃l : qL⦄ ⦃st : List Value⦄ ⦃h : qH⦄ ⦃Q : Option (Option Value) → qH → Prop⦄ ⦃a0 a1 a2 a3 a4 a5 a6 : Option Value⦄ ⦃x : Int32⦄, WP d M u pc (a0 :: a1 :: a2 :: a3 :: a4 :: a5 :: a6 :: some (.int x) :: l) st h Q = WP d M u q (a0 :: a1 :: a2 :: a3 :: a4 :: a5 :: a6 :: some (.int x) :: l) (.int x :: st) h Q := by
  intros
  subst hq
  exact WP_go (by rw [stp_of hd rfl]; rfl)
theorem W_lload7 {M : qM} {pc q : Nat} (hd : decode (mB M) pc = .ok (.lload 7, 2)) (hq : pc + 2 = q) : ∀ ⦃d : Nat⦄ ⦃u : Nat × Nat⦄ ⦃l : qL⦄ ⦃st : List Value⦄ ⦃h : qH⦄ ⦃Q : Option (Option Value) → qH → Prop⦄ ⦃a0 a1 a2 a3 a4 a5 a6 : Option Value⦄ ⦃x : Int64⦄, WP d M u pc (a0 :: a1 :: a2 :: a3 :: a4 :: a5 :: a6 :: some (.long x) :: l) st h Q = WP d M u q (a0 :: a1 :: a2 :: a3 :: a4 :: a5 :: a6 :: some (.long x) :: l) (.long x :: st) h Q := by
  intros
  subst hq
  exact WP_go (by rw [stp_of hd rfl]; rfl)
theorem W_aload7 {M : qM} {pc q : Nat} (hd : decode (mB M) pc = .ok (.aload 7, 2)) (hq : pc + 2 = q) : ∀ ⦃d : Nat⦄ ⦃u : Nat × Nat⦄ ⦃l : qL⦄ ⦃st : List Value⦄ ⦃h : qH⦄ ⦃Q : Option (Option Value) → qH → Prop⦄ ⦃a0 a1 a2 a3 a4 a5 a6 : Option Value⦄ ⦃x : Nat⦄, WP d M u pc (a0 :: a1 :: a2 :: a3 :: a4 :: a5 :: a6 :: some (.ref x) :: l) st h Q = WP d M u q (a0 :: a1 :: a2 :: a3 :: a4 :: a5 :: a6 :: some (.ref x) :: l) (.ref x :: st) h Q := by
  intros
  subst hq
  exact WP_go (by rw [stp_of hd rfl]; rfl)
theorem W_aloadR7 {M : qM} {pc q : Nat} (hd : decode (mB M) pc = .ok (.aload 7, 2)) (hq : pc + 2 = q) : ∀ ⦃d : Nat⦄ ⦃u : Nat × Nat⦄ ⦃l : qL⦄ ⦃st : List Value⦄ ⦃h : qH⦄ ⦃Q : Option (Option Value) → qH → Prop⦄ ⦃a0 a1 a2 a3 a4 a5 a6 : Option Value⦄ ⦃x : Nat⦄ (_ : x < 2000), WP d M u pc (a0 :: a1 :: a2 :: a3 :: a4 :: a5 :: a6 :: some (.retAddr x) :: l) st h Q = WP d M u q (a0 :: a1 :: a2 :: a3 :: a4 :: a5 :: a6 :: some (.retAddr x) :: l) (.retAddr x :: st) h Q := by
  intros
  subst hq
  exact WP_go (by rw [stp_of hd rfl]; rename_i g; simp only [stI, ldA]; exact if_pos g)
theorem W_istore7 {M : qM} {pc q : Nat} (hd : decode (mB M) pc = .ok (.istore 7, 2)) (hq : pc + 2 = q) : ∀ ⦃d : Nat⦄ ⦃u : Nat × Nat⦄ ⦃l : qL⦄ ⦃st : List Value⦄ ⦃h : qH⦄ ⦃Q : Option (Option Value) → qH → Prop⦄ ⦃a0 a1 a2 a3 a4 a5 a6 : Option Value⦄ ⦃b : Option Value⦄ ⦃x : Int32⦄, WP d M u pc (a0 :: a1 :: a2 :: a3 :: a4 :: a5 :: a6 :: b :: l) (.int x :: st) h Q = WP d M u q (a0 :: a1 :: a2 :: a3 :: a4 :: a5 :: kl a6 :: some (.int x) :: l) st h Q := by
  intros
  subst hq
  refine WP_go ?_
  rw [stp_of hd rfl]
  simp only [stI, stI1]
  exact if_pos (by first | (simp; done) | (show 3 < _; simp; done) | (show 3 < _; simp only [List.length_cons]; omega) | (show 3 + 1 < _; simp only [List.length_cons]; omega))
theorem W_astore7 {M : qM} {pc q : Nat} (hd : decode (mB M) pc = .ok (.astore 7, 2)) (hq : pc + 2 = q) : ∀ ⦃d : Nat⦄ ⦃u : Nat × Nat⦄ ⦃l : qL⦄ ⦃st : List Value⦄ ⦃h : qH⦄ ⦃Q : Option (Option Value) → qH → Prop⦄ ⦃a0 a1 a2 a3 a4 a5 a6 : Option Value⦄ ⦃b : Option Value⦄ ⦃x : Nat⦄, WP d M u pc (a0 :: a1 :: a2 :: a3 :: a4 :: a5 :: a6 :: b :: l) (.ref x :: st) h Q = WP d M u q (a0 :: a1 :: a2 :: a3 :: a4 :: a5 :: kl a6 :: some (.ref x) :: l) st h Q := by
  intros
  subst hq
  refine WP_go ?_
  rw [stp_of hd rfl]
  simp only [stI, stA1]
  exact if_pos (by first | (simp; done) | (show 3 < _; simp; done) | (show 3 < _; simp only [List.length_cons]; omega) | (show 3 + 1 < _; simp only [List.length_cons]; omega))
theorem W_lstore7 {M : qM} {pc q : Nat} (hd : decode (mB M) pc = .ok (.lstore 7, 2)) (hq : pc + 2 = q) : ∀ ⦃d : Nat⦄ ⦃u : Nat × Nat⦄ ⦃l : qL⦄ ⦃st : List Value⦄ ⦃h : qH⦄ ⦃Q : Option (Option Value) → qH → Prop⦄ ⦃a0 a1 a2 a3 a4 a5 a6 : Option Value⦄ ⦃b b2 : Option Value⦄ ⦃x : Int64⦄, WP d M u pc (a0 :: a1 :: a2 :: a3 :: a4 :: a5 :: a6 :: b :: b2 :: l) (.long x :: st) h Q = WP d M u q (a0 :: a1 :: a2 :: a3 :: a4 :: a5 :: kl a6 :: some (.long x) :: none :: l) st h Q := by
  intros
  subst hq
  refine WP_go ?_
  rw [stp_of hd rfl]
  simp only [stI, stJ1]
  exact if_pos (by first | (simp; done) | (show 3 < _; simp; done) | (show 3 < _; simp only [List.length_cons]; omega) | (show 3 + 1 < _; simp only [List.length_cons]; omega))
theorem W_iinc7 {M : qM} {pc q : Nat} {n : Int} {v : Int32} (hd : decode (mB M) pc = .ok (.iinc 7 n, 3)) (hq : pc + 3 = q) (hv : Int32.ofInt n = v) : ∀ ⦃d : Nat⦄ ⦃u : Nat × Nat⦄ ⦃l : qL⦄ ⦃st : List Value⦄ ⦃h : qH⦄ ⦃Q : Option (Option Value) → qH → Prop⦄ ⦃a0 a1 a2 a3 a4 a5 a6 : Option Value⦄ ⦃x : Int32⦄, WP d M u pc (a0 :: a1 :: a2 :: a3 :: a4 :: a5 :: a6 :: some (.int x) :: l) st h Q = WP d M u q (a0 :: a1 :: a2 :: a3 :: a4 :: a5 :: kl a6 :: some (.int (x + v)) :: l) st h Q := by
  intros
  subst hq
  subst hv
  refine WP_go ?_
  rw [stp_of hd rfl]
  simp only [stI, lg]
  exact if_pos (by first | (simp; done) | (show 3 < _; simp; done) | (show 3 < _; simp only [List.length_cons]; omega) | (show 3 + 1 < _; simp only [List.length_cons]; omega))
theorem W_iload8 {M : qM} {pc q : Nat} (hd : decode (mB M) pc = .ok (.iload 8, 2)) (hq : pc + 2 = q) : ∀ ⦃d : Nat⦄ ⦃u : Nat × Nat⦄ ⦃l : qL⦄ ⦃st : List Value⦄ ⦃h : qH⦄ ⦃Q : Option (Option Value) → qH → Prop⦄ ⦃a0 a1 a2 a3 a4 a5 a6 a7 : Option Value⦄ ⦃x : Int32⦄, WP d M u pc (a0 :: a1 :: a2 :: a3 :: a4 :: a5 :: a6 :: a7 :: some (.int x) :: l) st h Q = WP d M u q (a0 :: a1 :: a2 :: a3 :: a4 :: a5 :: a6 :: a7 :: some (.int x) :: l) (.int x :: st) h Q := by
  intros
  subst hq
  exact WP_go (by rw [stp_of hd rfl]; rfl)
theorem W_lload8 {M : qM} {pc q : Nat} (hd : decode (mB M) pc = .ok (.lload 8, 2)) (hq : pc + 2 = q) : ∀ ⦃d : Nat⦄ ⦃u : Nat × Nat⦄ ⦃l : qL⦄ ⦃st : List Value⦄ ⦃h : qH⦄ ⦃Q : Option (Option Value) → qH → Prop⦄ ⦃a0 a1 a2 a3 a4 a5 a6 a7 : Option Value⦄ ⦃x : Int64⦄, WP d M u pc (a0 :: a1 :: a2 :: a3 :: a4 :: a5 :: a6 :: a7 :: some (.long x) :: l) st h Q = WP d M u q (a0 :: a1 :: a2 :: a3 :: a4 :: a5 :: a6 :: a7 :: some (.long x) :: l) (.long x :: st) h Q := by
  intros
  subst hq
  exact WP_go (by rw [stp_of hd rfl]; rfl)
theorem W_aload8 {M : qM} {pc q : Nat} (hd : decode (mB M) pc = .ok (.aload 8, 2)) (hq : pc + 2 = q) : ∀ ⦃d : Nat⦄ ⦃u : Nat × Nat⦄ ⦃l : qL⦄ ⦃st : List Value⦄ ⦃h : qH⦄ ⦃Q : Option (Option Value) → qH → Prop⦄ ⦃a0 a1 a2 a3 a4 a5 a6 a7 : Option Value⦄ ⦃x : Nat⦄, WP d M u pc (a0 :: a1 :: a2 :: a3 :: a4 :: a5 :: a6 :: a7 :: some (.ref x) :: l) st h Q = WP d M u q (a0 :: a1 :: a2 :: a3 :: a4 :: a5 :: a6 :: a7 :: some (.ref x) :: l) (.ref x :: st) h Q := by
  intros
  subst hq
  exact WP_go (by rw [stp_of hd rfl]; rfl)
theorem W_aloadR8 {M : qM} {pc q : Nat} (hd : decode (mB M) pc = .ok (.aload 8, 2)) (hq : pc + 2 = q) : ∀ ⦃d : Nat⦄ ⦃u : Nat × Nat⦄ ⦃l : qL⦄ ⦃st : List Value⦄ ⦃h : qH⦄ ⦃Q : Option (Option Value) → qH → Prop⦄ ⦃a0 a1 a2 a3 a4 a5 a6 a7 : Option Value⦄ ⦃x : Nat⦄ (_ : x < 2000), WP d M u pc (a0 :: a1 :: a2 :: a3 :: a4 :: a5 :: a6 :: a7 :: some (.retAddr x) :: l) st h Q = WP d M u q (a0 :: a1 :: a2 :: a3 :: a4 :: a5 :: a6 :: a7 :: some (.retAddr x) :: l) (.retAddr x :: st) h Q := by
  intros
  subst hq
  exact WP_go (by rw [stp_of hd rfl]; rename_i g; simp only [stI, ldA]; exact if_pos g)
theorem W_istore8 {M : qM} {pc q : Nat} (hd : decode (mB M) pc = .ok (.istore 8, 2)) (hq : pc + 2 = q) : ∀ ⦃d : Nat⦄ ⦃u : Nat × Nat⦄ ⦃l : qL⦄ ⦃st : List Value⦄ ⦃h : qH⦄ ⦃Q : Option (Option Value) → qH → Prop⦄ ⦃a0 a1 a2 a3 a4 a5 a6 a7 : Option Value⦄ ⦃b : Option Value⦄ ⦃x : Int32⦄, WP d M u pc (a0 :: a1 :: a2 :: a3 :: a4 :: a5 :: a6 :: a7 :: b :: l) (.int x :: st) h Q = WP d M u q (a0 :: a1 :: a2 :: a3 :: a4 :: a5 :: a6 :: kl a7 :: some (.int x) :: l) st h Q := by
  intros
  subst hq
  refine WP_go ?_
  rw [stp_of hd rfl]
  simp only [stI, stI1]
  exact if_pos (by first | (simp; done) | (show 3 < _; simp; done) | (show 3 < _; simp only [List.length_cons]; omega) | (show 3 + 1 < _; simp only [List.length_cons]; omega))
theorem W_astore8 {M : qM} {pc q : Nat} (hd : decode (mB M) pc = .ok (.astore 8, 2)) (hq : pc + 2 = q) : ∀ ⦃d : Nat⦄ ⦃u : Nat × Nat⦄ ⦃l : qL⦄ ⦃st : List Value⦄ ⦃h : qH⦄ ⦃Q : Option (Option Value) → qH → Prop⦄ ⦃a0 a1 a2 a3 a4 a5 a6 a7 : Option Value⦄ ⦃b : Option Value⦄ ⦃x : Nat⦄, WP d M u pc (a0 :: a1 :: a2 :: a3 :: a4 :: a5 :: a6 :: a7 :: b :: l) (.ref x :: st) h Q = WP d M u q (a0 :: a1 :: a2 :: a3 :: a4 :: a5 :: a6 :: kl a7 :: some (.ref x) :: l) st h Q := by
  intros
  subst hq
  refine WP_go ?_
  rw [stp_of hd rfl]
  simp only [stI, stA1]
  exact if_pos (by first | (simp; done) | (show 3 < _; simp; done) | (show 3 < _; simp only [List.length_cons]; omega) | (show 3 + 1 < _; simp only [List.length_cons]; omega))
theorem W_lstore8 {M : qM} {pc q : Nat} (hd : decode (mB M) pc = .ok (.lstore 8, 2)) (hq : pc + 2 = q) : ∀ ⦃d : Nat⦄ ⦃u : Nat × Nat⦄ ⦃l : qL⦄ ⦃st : List Value⦄ ⦃h : qH⦄ ⦃Q : Option (Option Value) → qH → Prop⦄ ⦃a0 a1 a2 a3 a4 a5 a6 a7 : Option Value⦄ ⦃b b2 : Option Value⦄ ⦃x : Int64⦄, WP d M u pc (a0 :: a1 :: a2 :: a3 :: a4 :: a5 :: a6 :: a7 :: b :: b2 :: l) (.long x :: st) h Q = WP d M u q (a0 :: a1 :: a2 :: a3 :: a4 :: a5 :: a6 :: kl a7 :: some (.long x) :: none :: l) st h Q := by
  intros
  subst hq
  refine WP_go ?_
  rw [stp_of hd rfl]
  simp only [stI, stJ1]
  exact if_pos (by first | (simp; done) | (show 3 < _; simp; done) | (show 3 < _; simp only [List.length_cons]; omega) | (show 3 + 1 < _; simp only [List.length_cons]; omega))
theorem W_iinc8 {M : qM} {pc q : Nat} {n : Int} {v : Int32} (hd : decode (mB M) pc = .ok (.iinc 8 n, 3)) (hq : pc + 3 = q) (hv : Int32.ofInt n = v) : ∀ ⦃d : Nat⦄ ⦃u : Nat × Nat⦄ ⦃l : qL⦄ ⦃st : List Value⦄ ⦃h : qH⦄ ⦃Q : Option (Option Value) → qH → Prop⦄ ⦃a0 a1 a2 a3 a4 a5 a6 a7 : Option Value⦄ ⦃x : Int32⦄, WP d M u pc (a0 :: a1 :: a2 :: a3 :: a4 :: a5 :: a6 :: a7 :: some (.int x) :: l) st h Q = WP d M u q (a0 :: a1 :: a2 :: a3 :: a4 :: a5 :: a6 :: kl a7 :: some (.int (x + v)) :: l) st h Q := by
  intros
  subst hq
  subst hv
  refine WP_go ?_
  rw [stp_of hd rfl]
  simp only [stI, lg]
  exact if_pos (by first | (simp; done) | (show 3 < _; simp; done) | (show 3 < _; simp only [List.length_cons]; omega) | (show 3 + 1 < _; simp only [List.length_cons]; omega))
theorem W_iload9 {M : qM} {pc q : Nat} (hd : decode (mB M) pc = .ok (.iload 9, 2)) (hq : pc + 2 = q) : ∀ ⦃d : Nat⦄ ⦃u : Nat × Nat⦄ ⦃l : qL⦄ ⦃st : List Value⦄ ⦃h : qH⦄ ⦃Q : Option (Option Value) → qH → Prop⦄ ⦃a0 a1 a2 a3 a4 a5 a6 a7 a8 : Option Value⦄ ⦃x : Int32⦄, WP d M u pc (a0 :: a1 :: a2 :: a3 :: a4 :: a5 :: a6 :: a7 :: a8 :: some (.int x) :: l) st h Q = WP d M u q (a0 :: a1 :: a2 :: a3 :: a4 :: a5 :: a6 :: a7 :: a8 :: some (.int x) :: l) (.int x :: st) h Q := by
  intros
  subst hq
  exact WP_go (by rw [stp_of hd rfl]; rfl)
theorem W_lload9 {M : qM} {pc q : Nat} (hd : decode (mB M) pc = .ok (.lload 9, 2)) (hq : pc + 2 = q) : ∀ ⦃d : Nat⦄ ⦃u : Nat × Nat⦄ ⦃l : qL⦄ ⦃st : List Value⦄ ⦃h : qH⦄ ⦃Q : Option (Option Value) → qH → Prop⦄ ⦃a0 a1 a2 a3 a4 a5 a6 a7 a8 : Option Value⦄ ⦃x : Int64⦄, WP d M u pc (a0 :: a1 :: a2 :: a3 :: a4 :: a5 :: a6 :: a7 :: a8 :: some (.long x) :: l) st h Q = WP d M u q (a0 :: a1 :: a2 :: a3 :: a4 :: a5 :: a6 :: a7 :: a8 :: some (.long x) :: l) (.long x :: st) h Q := by
  intros
  subst hq
  exact WP_go (by rw [stp_of hd rfl]; rfl)
theorem W_aload9 {M : qM} {pc q : Nat} (hd : decode (mB M) pc = .ok (.aload 9, 2)) (hq : pc + 2 = q) : ∀ ⦃d : Nat⦄ ⦃u : Nat × Nat⦄ ⦃l : qL⦄ ⦃st : List Value⦄ ⦃h : qH⦄ ⦃Q : Option (Option Value) → qH → Prop⦄ ⦃a0 a1 a2 a3 a4 a5 a6 a7 a8 : Option Value⦄ ⦃x : Nat⦄, WP d M u pc (a0 :: a1 :: a2 :: a3 :: a4 :: a5 :: a6 :: a7 :: a8 :: some (.ref x) :: l) st h Q = WP d M u q (a0 :: a1 :: a2 :: a3 :: a4 :: a5 :: a6 :: a7 :: a8 :: some (.ref x) :: l) (.ref x :: st) h Q := by
  intros
  subst hq
  exact WP_go (by rw [stp_of hd rfl]; rfl)
theorem W_aloadR9 {M : qM} {pc q : Nat} (hd : decode (mB M) pc = .ok (.aload 9, 2)) (hq : pc + 2 = q) : ∀ ⦃d : Nat⦄ ⦃u : Nat × Nat⦄ ⦃l : qL⦄ ⦃st : List Value⦄ ⦃h : qH⦄ ⦃Q : Option (Option Value) → qH → Prop⦄ ⦃a0 a1 a2 a3 a4 a5 a6 a7 a8 : Option Value⦄ ⦃x : Nat⦄ (_ : x < 2000), WP d M u pc (a0 :: a1 :: a2 :: a3 :: a4 :: a5 :: a6 :: a7 :: a8 :: some (.retAddr x) :: l) st h Q = WP d M u q (a0 :: a1 :: a2 :: a3 :: a4 :: a5 :: a6 :: a7 :: a8 :: some (.retAddr x) :: l) (.retAddr x :: st) h Q := by
  intros
  subst hq
  exact WP_go (by rw [stp_of hd rfl]; rename_i g; simp only [stI, ldA]; exact if_pos g)
theorem W_istore9 {M : qM} {pc q : Nat} (hd : decode (mB M) pc = .ok (.istore 9, 2)) (hq : pc + 2 = q) : ∀ ⦃d : Nat⦄ ⦃u : Nat × Nat⦄ ⦃l : qL⦄ ⦃st : List Value⦄ ⦃h : qH⦄ ⦃Q : Option (Option Value) → qH → Prop⦄ ⦃a0 a1 a2 a3 a4 a5 a6 a7 a8 : Option Value⦄ ⦃b : Option Value⦄ ⦃x : Int32⦄, WP d M u pc (a0 :: a1 :: a2 :: a3 :: a4 :: a5 :: a6 :: a7 :: a8 :: b :: l) (.int x :: st) h Q = WP d M u q (a0 :: a1 :: a2 :: a3 :: a4 :: a5 :: a6 :: a7 :: kl a8 :: some (.int x) :: l) st h Q := by
  intros
  subst hq
  refine WP_go ?_
  rw [stp_of hd rfl]
  simp only [stI, stI1]
  exact if_pos (by first | (simp; done) | (show 3 < _; simp; done) | (show 3 < _; simp only [List.length_cons]; omega) | (show 3 + 1 < _; simp only [List.length_cons]; omega))
theorem W_astore9 {M : qM} {pc q : Nat} (hd : decode (mB M) pc = .ok (.astore 9, 2)) (hq : pc + 2 = q) : ∀ ⦃d : Nat⦄ ⦃u : Nat × Nat⦄ ⦃l : qL⦄ ⦃st : List Value⦄ ⦃h : qH⦄ ⦃Q : Option (Option Value) → qH → Prop⦄ ⦃a0 a1 a2 a3 a4 a5 a6 a7 a8 : Option Value⦄ ⦃b : Option Value⦄ ⦃x : Nat⦄, WP d M u pc (a0 :: a1 :: a2 :: a3 :: a4 :: a5 :: a6 :: a7 :: a8 :: b :: l) (.ref x :: st) h Q = WP d M u q (a0 :: a1 :: a2 :: a3 :: a4 :: a5 :: a6 :: a7 :: kl a8 :: some (.ref x) :: l) st h Q := by
  intros
  subst hq
  refine WP_go ?_
  rw [stp_of hd rfl]
  simp only [stI, stA1]
  exact if_pos (by first | (simp; done) | (show 3 < _; simp; done) | (show 3 < _; simp only [List.length_cons]; omega) | (show 3 + 1 < _; simp only [List.length_cons]; omega))
theorem W_lstore9 {M : qM} {pc q : Nat} (hd : decode (mB M) pc = .ok (.lstore 9, 2)) (hq : pc + 2 = q) : ∀ ⦃d : Nat⦄ ⦃u : Nat × Nat⦄ ⦃l : qL⦄ ⦃st : List Value⦄ ⦃h : qH⦄ ⦃Q : Option (Option Value) → qH → Prop⦄ ⦃a0 a1 a2 a3 a4 a5 a6 a7 a8 : Option Value⦄ ⦃b b2 : Option Value⦄ ⦃x : Int64⦄, WP d M u pc (a0 :: a1 :: a2 :: a3 :: a4 :: a5 :: a6 :: a7 :: a8 :: b :: b2 :: l) (.long x :: st) h Q = WP d M u q (a0 :: a1 :: a2 :: a3 :: a4 :: a5 :: a6 :: a7 :: kl a8 :: some (.long x) :: none :: l) st h Q := by
  intros
  subst hq
  refine WP_go ?_
  rw [stp_of hd rfl]
  simp only [stI, stJ1]
  exact if_pos (by first | (simp; done) | (show 3 < _; simp; done) | (show 3 < _; simp only [List.length_cons]; omega) | (show 3 + 1 < _; simp only [List.length_cons]; omega))
theorem W_iinc9 {M : qM} {pc q : Nat} {n : Int} {v : Int32} (hd : decode (mB M) pc = .ok (.iinc 9 n, 3)) (hq : pc + 3 = q) (hv : Int32.ofInt n = v) : ∀ ⦃d : Nat⦄ ⦃u : Nat × Nat⦄ ⦃l : qL⦄ ⦃st : List Value⦄ ⦃h : qH⦄ ⦃Q : Option (Option Value) → qH → Prop⦄ ⦃a0 a1 a2 a3 a4 a5 a6 a7 a8 : Option Value⦄ ⦃x : Int32⦄, WP d M u pc (a0 :: a1 :: a2 :: a3 :: a4 :: a5 :: a6 :: a7 :: a8 :: some (.int x) :: l) st h Q = WP d M u q (a0 :: a1 :: a2 :: a3 :: a4 :: a5 :: a6 :: a7 :: kl a8 :: some (.int (x + v)) :: l) st h Q := by
  intros
  subst hq
  subst hv
  refine WP_go ?_
  rw [stp_of hd rfl]
  simp only [stI, lg]
  exact if_pos (by first | (simp; done) | (show 3 < _; simp; done) | (show 3 < _; simp only [List.length_cons]; omega) | (show 3 + 1 < _; simp only [List.length_cons]; omega))
theorem W_iload10 {M : qM} {pc q : Nat} (hd : decode (mB M) pc = .ok (.iload 10, 2)) (hq : pc + 2 = q) : ∀ ⦃d : Nat⦄ ⦃u : Nat × Nat⦄ ⦃l : qL⦄ ⦃st : List Value⦄ ⦃h : qH⦄ ⦃Q : Option (Option Value) → qH → Prop⦄ ⦃a0 a1 a2 a3 a4 a5 a6 a7 a8 a9 : Option Value⦄ ⦃x : Int32⦄, WP d M u pc (a0 :: a1 :: a2 :: a3 :: a4 :: a5 :: a6 :: a7 :: a8 :: a9 :: some (.int x) :: l) st h Q = WP d M u q (a0 :: a1 :: a2 :: a3 :: a4 :: a5 :: a6 :: a7 :: a8 :: a9 :: some (.int x) :: l) (.int x :: st) h Q := by
  intros
  subst hq
  exact WP_go (by rw [stp_of hd rfl]; rfl)
theorem W_lload10 {M : qM} {pc q : Nat} (hd : decode (mB M) pc = .ok (.lload 10, 2)) (hq : pc + 2 = q) : ∀ ⦃d : Nat⦄ ⦃u : Nat × Nat⦄ ⦃l : qL⦄ ⦃st : List Value⦄ ⦃h : qH⦄ ⦃Q : Option (Option Value) → qH → Prop⦄ ⦃a0 a1 a2 a3 a4 a5 a6 a7 a8 a9 : Option Value⦄ ⦃x : Int64⦄, WP d M u pc (a0 :: a1 :: a2 :: a3 :: a4 :: a5 :: a6 :: a7 :: a8 :: a9 :: some (.long x) :: l) st h Q = WP d M u q (a0 :: a1 :: a2 :: a3 :: a4 :: a5 :: a6 :: a7 :: a8 :: a9 :: some (.long x) :: l) (.long x :: st) h Q := by
  intros
  subst hq
  exact WP_go (by rw [stp_of hd rfl]; rfl)
theorem W_aload10 {M : qM} {pc q : Nat} (hd : decode (mB M) pc = .ok (.aload 10, 2)) (hq : pc + 2 = q) : ∀ ⦃d : Nat⦄ ⦃u : Nat × Nat⦄ ⦃l : qL⦄ ⦃st : List Value⦄ ⦃h : qH⦄ ⦃Q : Option (Option Value) → qH → Prop⦄ ⦃a0 a1 a2 a3 a4 a5 a6 a7 a8 a9 : Option Value⦄ ⦃x : Nat⦄, WP d M u pc (a0 :: a1 :: a2 :: a3 :: a4 :: a5 :: a6 :: a7 :: a8 :: a9 :: some (.ref x) :: l) st h Q = WP d M u q (a0 :: a1 :: a2 :: a3 :: a4 :: a5 :: a6 :: a7 :: a8 :: a9 :: some (.ref x) :: l) (.ref x :: st) h Q := by
  intros
  subst hq
  exact WP_go (by rw [stp_of hd rfl]; rfl)
theorem W_aloadR10 {M : qM} {pc q : Nat} (hd : decode (mB M) pc = .ok (.aload 10, 2)) (hq : pc + 2 = q) : ∀ ⦃d : Nat⦄ ⦃u : Nat × Nat⦄ ⦃l : qL⦄ ⦃st : List Value⦄ ⦃h : qH⦄ ⦃Q : Option (Option Value) → qH → Prop⦄ ⦃a0 a1 a2 a3 a4 a5 a6 a7 a8 a9 : Option Value⦄ ⦃x : Nat⦄ (_ : x < 2000), WP d M u pc (a0 :: a1 :: a2 :: a3 :: a4 :: a5 :: a6 :: a7 :: a8 :: a9 :: some (.retAddr x) :: l) st h Q = WP d M u q (a0 :: a1 :: a2 :: a3 :: a4 :: a5 :: a6 :: a7 :: a8 :: a9 :: some (.retAddr x) :: l) (.retAddr x :: st) h Q := by
  intros
  subst hq
  exact WP_go (by rw [stp_of hd rfl]; rename_i g; simp only [stI, ldA]; exact if_pos g)
theorem W_istore10 {M : qM} {pc q : Nat} (hd : decode (mB M) pc = .ok (.istore 10, 2)) (hq : pc + 2 = q) : ∀ ⦃d : Nat⦄ ⦃u : Nat × Nat⦄ ⦃l : qL⦄ ⦃st : List Value⦄ ⦃h : qH⦄ ⦃Q : Option (Option Value) → qH → Prop⦄ ⦃a0 a1 a2 a3 a4 a5 a6 a7 a8 a9 : Option Value⦄ ⦃b : Option Value⦄ ⦃x : Int32⦄, WP d M u pc (a0 :: a1 :: a2 :: a3 :: a4 :: a5 :: a6 :: a7 :: a8 :: a9 :: b :: l) (.int x :: st) h Q = WP d M u q (a0 :: a1 :: a2 :: a3 :: a4 :: a5 :: a6 :: a7 :: a8 :: kl a9 :: some (.int x) :: l) st h Q := by
  intros
  subst hq
  refine WP_go ?_
  rw [stp_of hd rfl]
  simp only [stI, stI1]
  exact if_pos (by first | (simp; done) | (show 3 < _; simp; done) | (show 3 < _; simp only [List.length_cons]; omega) | (show 3 + 1 < _; simp only [List.length_cons]; omega))
theorem W_astore10 {M : qM} {pc q : Nat} (hd : decode (mB M) pc = .ok (.astore 10, 2)) (hq : pc + 2 = q) : ∀ ⦃d : Nat⦄ ⦃u : Nat × Nat⦄ ⦃l : qL⦄ ⦃st : List Value⦄ ⦃h : qH⦄ ⦃Q : Option (Option Value) → qH → Prop⦄ ⦃a0 a1 a2 a3 a4 a5 a6 a7 a8 a9 : Option Value⦄ ⦃b : Option Value⦄ ⦃x : Nat⦄, WP d M u pc (a0 :: a1 :: a2 :: a3 :: a4 :: a5 :: a6 :: a7 :: a8 :: a9 :: b :: l) (.ref x :: st) h Q = WP d M u q (a0 :: a1 :: a2 :: a3 :: a4 :: a5 :: a6 :: a7 :: a8 :: kl a9 :: some (.ref x) :: l) st h Q := by
  intros
  subst hq
  refine WP_go ?_
  rw [stp_of hd rfl]
  simp only [stI, stA1]
  exact if_pos (by first | (simp; done) | (show 3 < _; simp; done) | (show 3 < _; simp only [List.length_cons]; omega) | (show 3 + 1 < _; simp only [List.length_cons]; omega))
theorem W_lstore10 {M : qM} {pc q : Nat} (hd : decode (mB M) pc = .ok (.lstore 10, 2)) (hq : pc + 2 = q) : ∀ ⦃d : Nat⦄ ⦃u : Nat × Nat⦄ ⦃l : qL⦄ ⦃st : List Value⦄ ⦃h : qH⦄ ⦃Q : Option (Option Value) → qH → Prop⦄ ⦃a0 a1 a2 a3 a4 a5 a6 a7 a8 a9 : Option Value⦄ ⦃b b2 : Option Value⦄ ⦃x : Int64⦄, WP d M u pc (a0 :: a1 :: a2 :: a3 :: a4 :: a5 :: a6 :: a7 :: a8 :: a9 :: b :: b2 :: l) (.long x :: st) h Q = WP d M u q (a0 :: a1 :: a2 :: a3 :: a4 :: a5 :: a6 :: a7 :: a8 :: kl a9 :: some (.long x) :: none :: l) st h Q := by
  intros
  subst hq
  refine WP_go ?_
  rw [stp_of hd rfl]
  simp only [stI, stJ1]
  exact if_pos (by first | (simp; done) | (show 3 < _; simp; done) | (show 3 < _; simp only [List.length_cons]; omega) | (show 3 + 1 < _; simp only [List.length_cons]; omega))
theorem W_iinc10 {M : qM} {pc q : Nat} {n : Int} {v : Int32} (hd : decode (mB M) pc = .ok (.iinc 10 n, 3)) (hq : pc + 3 = q) (hv : Int32.ofInt n = v) : ∀ ⦃d : Nat⦄ ⦃u : Nat × Nat⦄ ⦃l : qL⦄ ⦃st : List Value⦄ ⦃h : qH⦄ ⦃Q : Option (Option Value) → qH → Prop⦄ ⦃a0 a1 a2 a3 a4 a5 a6 a7 a8 a9 : Option Value⦄ ⦃x : Int32⦄, WP d M u pc (a0 :: a1 :: a2 :: a3 :: a4 :: a5 :: a6 :: a7 :: a8 :: a9 :: some (.int x) :: l) st h Q = WP d M u q (a0 :: a1 :: a2 :: a3 :: a4 :: a5 :: a6 :: a7 :: a8 :: kl a9 :: some (.int (x + v)) :: l) st h Q := by
  intros
  subst hq
  subst hv
  refine WP_go ?_
  rw [stp_of hd rfl]
  simp only [stI, lg]
  exact if_pos (by first | (simp; done) | (show 3 < _; simp; done) | (show 3 < _; simp only [List.length_cons]; omega) | (show 3 + 1 < _; simp only [List.length_cons]; omega))
theorem W_iload11 {M : qM} {pc q : Nat} (hd : decode (mB M) pc = .ok (.iload 11, 2)) (hq : pc + 2 = q) : ∀ ⦃d : Nat⦄ ⦃u : Nat × Nat⦄ ⦃l : qL⦄ ⦃st : List Value⦄ ⦃h : qH⦄ ⦃Q : Option (Option Value) → qH → Prop⦄ ⦃a0 a1 a2 a3 a4 a5 a6 a7 a8 a9 a10 : Option Value⦄ ⦃x : Int32⦄, WP d M u pc (a0 :: a1 :: a2 :: a3 :: a4 :: a5 :: a6 :: a7 :: a8 :: a9 :: a10 :: some (.int x) :: l) st h Q = WP d M u q (a0 :: a1 :: a2 :: a3 :: a4 :: a5 :: a6 :: a7 :: a8 :: a9 :: a10 :: some (.int x) :: l) (.int x :: st) h Q := by
  intros
  subst hq
  exact WP_go (by rw [stp_of hd rfl]; rfl)
theorem W_lload11 {M : qM} {pc q : Nat} (hd : decode (mB M) pc = .ok (.lload 11, 2)) (hq : pc + 2 = q) : ∀ ⦃d : Nat⦄ ⦃u : Nat × Nat⦄ ⦃l : qL⦄ ⦃st : List Value⦄ ⦃h : qH⦄ ⦃Q : Option (Option Value) → qH → Prop⦄ ⦃a0 a1 a2 a3 a4 a5 a6 a7 a8 a9 a10 : Option Value⦄ ⦃x : Int64⦄, WP d M u pc (a0 :: a1 :: a2 :: a3 :: a4 :: a5 :: a6 :: a7 :: a8 :: a9 :: a10 :: some (.long x) :: l) st h Q = WP d M u q (a0 :: a1 :: a2 :: a3 :: a4 :: a5 :: a6 :: a7 :: a8 :: a9 :: a10 :: some (.long x) :: l) (.long x :: st) h Q := by
  intros
  subst hq
  exact WP_go (by rw [stp_of hd rfl]; rfl)
theorem W_aload11 {M : qM} {pc q : Nat} (hd : decode (mB M) pc = .ok (.aload 11, 2)) (hq : pc + 2 = q) : ∀ ⦃d : Nat⦄ ⦃u : Nat × Nat⦄ ⦃l : qL⦄ ⦃st : List Value⦄ ⦃h : qH⦄ ⦃Q : Option (Option Value) → qH → Prop⦄ ⦃a0 a1 a2 a3 a4 a5 a6 a7 a8 a9 a10 : Option Value⦄ ⦃x : Nat⦄, WP d M u pc (a0 :: a1 :: a2 :: a3 :: a4 :: a5 :: a6 :: a7 :: a8 :: a9 :: a10 :: some (.ref x) :: l) st h Q = WP d M u q (a0 :: a1 :: a2 :: a3 :: a4 :: a5 :: a6 :: a7 :: a8 :: a9 :: a10 :: some (.ref x) :: l) (.ref x :: st) h Q := by
  intros
  subst hq
  exact WP_go (by rw [stp_of hd rfl]; rfl)
theorem W_aloadR11 {M : qM} {pc q : Nat} (hd : decode (mB M) pc = .ok (.aload 11, 2)) (hq : pc + 2 = q) : ∀ ⦃d : Nat⦄ ⦃u : Nat × Nat⦄ ⦃l : qL⦄ ⦃st : List Value⦄ ⦃h : qH⦄ ⦃Q : Option (Option Value) → qH → Prop⦄ ⦃a0 a1 a2 a3 a4 a5 a6 a7 a8 a9 a10 : Option Value⦄ ⦃x : Nat⦄ (_ : x < 2000), WP d M u pc (a0 :: a1 :: a2 :: a3 :: a4 :: a5 :: a6 :: a7 :: a8 :: a9 :: a10 :: some (.retAddr x) :: l) st h Q = WP d M u q (a0 :: a1 :: a2 :: a3 :: a4 :: a5 :: a6 :: a7 :: a8 :: a9 :: a10 :: some (.retAddr x) :: l) (.retAddr x :: st) h Q := by
  intros
  subst hq
  exact WP_go (by rw [stp_of hd rfl]; rename_i g; simp only [stI, ldA]; exact if_pos g)
theorem W_istore11 {M : qM} {pc q : Nat} (hd : decode (mB M) pc = .ok (.istore 11, 2)) (hq : pc + 2 = q) : ∀ ⦃d : Nat⦄ ⦃u : Nat × Nat⦄ ⦃l : qL⦄ ⦃st : List Value⦄ ⦃h : qH⦄ ⦃Q : Option (Option Value) → qH → Prop⦄ ⦃a0 a1 a2 a3 a4 a5 a6 a7 a8 a9 a10 : Option Value⦄ ⦃b : Option Value⦄ ⦃x : Int32⦄, WP d M u pc (a0 :: a1 :: a2 :: a3 :: a4 :: a5 :: a6 :: a7 :: a8 :: a9 :: a10 :: b :: l) (.int x :: st) h Q = WP d M u q (a0 :: a1 :: a2 :: a3 :: a4 :: a5 :: a6 :: a7 :: a8 :: a9 :: kl a10 :: some (.int x) :: l) st h Q := by
  intros
  subst hq
  refine WP_go ?_
  rw [stp_of hd rfl]
  simp only [stI, stI1]
  exact if_pos (by first | (simp; done) | (show 3 < _; simp; done) | (show 3 < _; simp only [List.length_cons]; omega) | (show 3 + 1 < _; simp only [List.length_cons]; omega))
theorem W_astore11 {M : qM} {pc q : Nat} (hd : decode (mB M) pc = .ok (.astore 11, 2)) (hq : pc + 2 = q) : ∀ ⦃d : Nat⦄ ⦃u : Nat × Nat⦄ ⦃l : qL⦄ ⦃st : List Value⦄ ⦃h : qH⦄ ⦃Q : Option (Option Value) → qH → Prop⦄ ⦃a0 a1 a2 a3 a4 a5 a6 a7 a8 a9 a10 : Option Value⦄ ⦃b : Option Value⦄ ⦃x : Nat⦄, WP d M u pc (a0 :: a1 :: a2 :: a3 :: a4 :: a5 :: a6 :: a7 :: a8 :: a9 :: a10 :: b :: l) (.ref x :: st) h Q = WP d M u q (a0 :: a1 :: a2 :: a3 :: a4 :: a5 :: a6 :: a7 :: a8 :: a9 :: kl a10 :: some (.ref x) :: l) st h Q := by
  intros
  subst hq
  refine WP_go ?_
  rw [stp_of hd rfl]
  simp only [stI, stA1]
  exact if_pos (by first | (simp; done) | (show 3 < _; simp; done) | (show 3 < _; simp only [List.length_cons]; omega) | (show 3 + 1 < _; simp only [List.length_cons]; omega))
theorem W_lstore11 {M : qM} {pc q : Nat} (hd : decode (mB M) pc = .ok (.lstore 11, 2)) (hq : pc + 2 = q) : ∀ ⦃d : Nat⦄ ⦃u : Nat × Nat⦄ ⦃l : qL⦄ ⦃st : List Value⦄ ⦃h : qH⦄ ⦃Q : Option (Option Value) → qH → Prop⦄ ⦃a0 a1 a2 a3 a4 a5 a6 a7 a8 a9 a10 : Option Value⦄ ⦃b b2 : Option Value⦄ ⦃x : Int64⦄, WP d M u pc (a0 :: a1 :: a2 :: a3 :: a4 :: a5 :: a6 :: a7 :: a8 :: a9 :: a10 :: b :: b2 :: l) (.long x :: st) h Q = WP d M u q (a0 :: a1 :: a2 :: a3 :: a4 :: a5 :: a6 :: a7 :: a8 :: a9 :: kl a10 :: some (.long x) :: none :: l) st h Q := by
  intros
  subst hq
  refine WP_go ?_
  rw [stp_of hd rfl]
  simp only [stI, stJ1]
  exact if_pos (by first | (simp; done) | (show 3 < _; simp; done) | (show 3 < _; simp only [List.length_cons]; omega) | (show 3 + 1 < _; simp only [List.length_cons]; omega))
theorem W_iinc11 {M : qM} {pc q : Nat} {n : Int} {v : Int32} (hd : decode (mB M) pc = .ok (.iinc 11 n, 3)) (hq : pc + 3 = q) (hv : Int32.ofInt n = v) : ∀ ⦃d : Nat⦄ ⦃u : Nat × Nat⦄ ⦃l : qL⦄ ⦃st : List Value⦄ ⦃h : qH⦄ ⦃Q : Option (Option Value) → qH → Prop⦄ ⦃a0 a1 a2 a3 a4 a5 a6 a7 a8 a9 a10 : Option Value⦄ ⦃x : Int32⦄, WP d M u pc (a0 :: a1 :: a2 :: a3 :: a4 :: a5 :: a6 :: a7 :: a8 :: a9 :: a10 :: some (.int x) :: l) st h Q = WP d M u q (a0 :: a1 :: a2 :: a3 :: a4 :: a5 :: a6 :: a7 :: a8 :: a9 :: kl a10 :: some (.int (x + v)) :: l) st h Q := by
  intros
  subst hq
  subst hv
  refine WP_go ?_
  rw [stp_of hd rfl]
  simp only [stI, lg]
  exact if_pos (by first | (simp; done) | (show 3 < _; simp; done) | (show 3 < _; simp only [List.length_cons]; omega) | (show 3 + 1 < _; simp only [List.length_cons]; omega))
theorem W_iload12 {M : qM} {pc q : Nat} (hd : decode (mB M) pc = .ok (.iload 12, 2)) (hq : pc + 2 = q) : ∀ ⦃d : Nat⦄ ⦃u : Nat × Nat⦄ ⦃l : qL⦄ ⦃st : List Value⦄ ⦃h : qH⦄ ⦃Q : Option (Option Value) → qH → Prop⦄ ⦃a0 a1 a2 a3 a4 a5 a6 a7 a8 a9 a10 a11 : Option Value⦄ ⦃x : Int32⦄, WP d M u pc (a0 :: a1 :: a2 :: a3 :: a4 :: a5 :: a6 :: a7 :: a8 :: a9 :: a10 :: a11 :: some (.int x) :: l) st h Q = WP d M u q (a0 :: a1 :: a2 :: a3 :: a4 :: a5 :: a6 :: a7 :: a8 :: a9 :: a10 :: a11 :: some (.int x) :: l) (.int x :: st) h Q := by
  intros
  subst hq
  exact WP_go (by rw [stp_of hd rfl]; rfl)
theorem W_lload12 {M : qM} {pc q : Nat} (hd : decode (mB M) pc = .ok (.lload 12, 2)) (hq : pc + 2 = q) : ∀ ⦃d : Nat⦄ ⦃u : Nat × Nat⦄ ⦃l : qL⦄ ⦃st : List Value⦄ ⦃h : qH⦄ ⦃Q : Option (Option Value) → qH → Prop⦄ ⦃a0 a1 a2 a3 a4 a5 a6 a7 a8 a9 a10 a11 : Option Value⦄ ⦃x : Int64⦄, WP d M u pc (a0 :: a1 :: a2 :: a3 :: a4 :: a5 :: a6 :: a7 :: a8 :: a9 :: a10 :: a11 :: some (.long x) :: l) st h Q = WP d M u q (a0 :: a1 :: a2 :: a3 :: a4 :: a5 :: a6 :: a7 :: a8 :: a9 :: a10 :: a11 :: some (.long x) :: l) (.long x :: st) h Q := by
  intros
  subst hq
  exact WP_go (by rw [stp_of hd rfl]; rfl)
theorem W_aload12 {M : qM} {pc q : Nat} (hd : decode (mB M) pc = .ok (.aload 12, 2)) (hq : pc + 2 = q) : ∀ ⦃d : Nat⦄ ⦃u : Nat × Nat⦄ ⦃l : qL⦄ ⦃st : List Value⦄ ⦃h : qH⦄ ⦃Q : Option (Option Value) → qH → Prop⦄ ⦃a0 a1 a2 a3 a4 a5 a6 a7 a8 a9 a10 a11 : Option Value⦄ ⦃x : Nat⦄, WP d M u pc (a0 :: a1 :: a2 :: a3 :: a4 :: a5 :: a6 :: a7 :: a8 :: a9 :: a10 :: a11 :: some (.ref x) :: l) st h Q = WP d M u q (a0 :: a1 :: a2 :: a3 :: a4 :: a5 :: a6 :: a7 :: a8 :: a9 :: a10 :: a11 :: some (.ref x) :: l) (.ref x :: st) h Q := by
  intros
  subst hq
  exact WP_go (by rw [stp_of hd rfl]; rfl)
theorem W_aloadR12 {M : qM} {pc q : Nat} (hd : decode (mB M) pc = .ok (.aload 12, 2)) (hq : pc + 2 = q) : ∀ ⦃d : Nat⦄ ⦃u : Nat × Nat⦄ ⦃l : qL⦄ ⦃st : List Value⦄ ⦃h : qH⦄ ⦃Q : Option (Option Value) → qH → Prop⦄ ⦃a0 a1 a2 a3 a4 a5 a6 a7 a8 a9 a10 a11 : Option Value⦄ ⦃x : Nat⦄ (_ : x < 2000), WP d M u pc (a0 :: a1 :: a2 :: a3 :: a4 :: a5 :: a6 :: a7 :: a8 :: a9 :: a10 :: a11 :: some (.retAddr x) :: l) st h Q = WP d M u q (a0 :: a1 :: a2 :: a3 :: a4 :: a5 :: a6 :: a7 :: a8 :: a9 :: a10 :: a11 :: some (.retAddr x) :: l) (.retAddr x :: st) h Q := by
  intros
  subst hq
  exact WP_go (by rw [stp_of hd rfl]; rename_i g; simp only [stI, ldA]; exact if_pos g)
theorem W_istore12 {M : qM} {pc q : Nat} (hd : decode (mB M) pc = .ok (.istore 12, 2)) (hq : pc + 2 = q) : ∀ ⦃d : Nat⦄ ⦃u : Nat × Nat⦄ ⦃l : qL⦄ ⦃st : List Value⦄ ⦃h : qH⦄ ⦃Q : Option (Option Value) → qH → Prop⦄ ⦃a0 a1 a2 a3 a4 a5 a6 a7 a8 a9 a10 a11 : Option Value⦄ ⦃b : Option Value⦄ ⦃x : Int32⦄, WP d M u pc (a0 :: a1 :: a2 :: a3 :: a4 :: a5 :: a6 :: a7 :: a8 :: a9 :: a10 :: a11 :: b :: l) (.int x :: st) h Q = WP d M u q (a0 :: a1 :: a2 :: a3 :: a4 :: a5 :: a6 :: a7 :: a8 :: a9 :: a10 :: kl a11 :: some (.int x) :: l) st h Q := by
  intros
  subst hq
  refine WP_go ?_
  rw [stp_of hd rfl]
  simp only [stI, stI1]
  exact if_pos (by first | (simp; done) | (show 3 < _; simp; done) | (show 3 < _; simp only [List.length_cons]; omega) | (show 3 + 1 < _; simp only [List.length_cons]; omega))
theorem W_astore12 {M : qM} {pc q : Nat} (hd : decode (mB M) pc = .ok (.astore 12, 2)) (hq : pc + 2 = q) : ∀ ⦃d : Nat⦄ ⦃u : Nat × Nat⦄ ⦃l : qL⦄ ⦃st : List Value⦄ ⦃h : qH⦄ ⦃Q : Option (Option Value) → qH → Prop⦄ ⦃a0 a1 a2 a3 a4 a5 a6 a7 a8 a9 a10 a11 : Option Value⦄ ⦃b : Option Value⦄ ⦃x : Nat⦄, WP d M u pc (a0 :: a1 :: a2 :: a3 :: a4 :: a5 :: a6 :: a7 :: a8 :: a9 :: a10 :: a11 :: b :: l) (.ref x :: st) h Q = WP d M u q (a0 :: a1 :: a2 :: a3 :: a4 :: a5 :: a6 :: a7 :: a8 :: a9 :: a10 :: kl a11 :: some (.ref x) :: l) st h Q := by
  intros
  subst hq
  refine WP_go ?_
  rw [stp_of hd rfl]
  simp only [stI, stA1]
  exact if_pos (by first | (simp; done) | (show 3 < _; simp; done) | (show 3 < _; simp only [List.length_cons]; omega) | (show 3 + 1 < _; simp only [List.length_cons]; omega))
theorem W_lstore12 {M : qM} {pc q : Nat} (hd : decode (mB M) pc = .ok (.lstore 12, 2)) (hq : pc + 2 = q) : ∀ ⦃d : Nat⦄ ⦃u : Nat × Nat⦄ ⦃l : qL⦄ ⦃st : List Value⦄ ⦃h : qH⦄ ⦃Q : Option (Option Value) → qH → Prop⦄ ⦃a0 a1 a2 a3 a4 a5 a6 a7 a8 a9 a10 a11 : Option Value⦄ ⦃b b2 : Option Value⦄ ⦃x : Int64⦄, WP d M u pc (a0 :: a1 :: a2 :: a3 :: a4 :: a5 :: a6 :: a7 :: a8 :: a9 :: a10 :: a11 :: b :: b2 :: l) (.long x :: st) h Q = WP d M u q (a0 :: a1 :: a2 :: a3 :: a4 :: a5 :: a6 :: a7 :: a8 :: a9 :: a10 :: kl a11 :: some (.long x) :: none :: l) st h Q := by
  intros
  subst hq
  refine WP_go ?_
  rw [stp_of hd rfl]
  simp only [stI, stJ1]
  exact if_pos (by first | (simp; done) | (show 3 < _; simp; done) | (show 3 < _; simp only [List.length_cons]; omega) | (show 3 + 1 < _; simp only [List.length_cons]; omega))
theorem W_iinc12 {M : qM} {pc q : Nat} {n : Int} {v : Int32} (hd : decode (mB M) pc = .ok (.iinc 12 n, 3)) (hq : pc + 3 = q) (hv : Int32.ofInt n = v) : ∀ ⦃d : Nat⦄ ⦃u : Nat × Nat⦄ ⦃l : qL⦄ ⦃st : List Value⦄ ⦃h : qH⦄ ⦃Q : Option (Option Value) → qH → Prop⦄ ⦃a0 a1 a2 a3 a4 a5 a6 a7 a8 a9 a10 a11 : Option Value⦄ ⦃x : Int32⦄, WP d M u pc (a0 :: a1 :: a2 :: a3 :: a4 :: a5 :: a6 :: a7 :: a8 :: a9 :: a10 :: a11 :: some (.int x) :: l) st h Q = WP d M u q (a0 :: a1 :: a2 :: a3 :: a4 :: a5 :: a6 :: a7 :: a8 :: a9 :: a10 :: kl a11 :: some (.int (x + v)) :: l) st h Q := by
  intros
  subst hq
  subst hv
  refine WP_go ?_
  rw [stp_of hd rfl]
  simp only [stI, lg]
  exact if_pos (by first | (simp; done) | (show 3 < _; simp; done) | (show 3 < _; simp only [List.length_cons]; omega) | (show 3 + 1 < _; simp only [List.length_cons]; omega))
theorem W_iload13 {M : qM} {pc q : Nat} (hd : decode (mB M) pc = .ok (.iload 13, 2)) (hq : pc + 2 = q) : ∀ ⦃d : Nat⦄ ⦃u : Nat × Nat⦄ ⦃l : qL⦄ ⦃st : List Value⦄ ⦃h : qH⦄ ⦃Q : Option (Option Value) → qH → Prop⦄ ⦃a0 a1 a2 a3 a4 a5 a6 a7 a8 a9 a10 a11 a12 : Option Value⦄ ⦃x : Int32⦄, WP d M u pc (a0 :: a1 :: a2 :: a3 :: a4 :: a5 :: a6 :: a7 :: a8 :: a9 :: a10 :: a11 :: a12 :: some (.int x) :: l) st h Q = WP d M u q (a0 :: a1 :: a2 :: a3 :: a4 :: a5 :: a6 :: a7 :: a8 :: a9 :: a10 :: a11 :: a12 :: some (.int x) :: l) (.int x :: st) h Q := by
  intros
  subst hq
  exact WP_go (by rw [stp_of hd rfl]; rfl)
theorem W_lload13 {M : qM} {pc q : Nat} (hd : decode (mB M) pc = .ok (.lload 13, 2)) (hq : pc + 2 = q) : ∀ ⦃d : Nat⦄ ⦃u : Nat × Nat⦄ ⦃l : qL⦄ ⦃st : List Value⦄ ⦃h : qH⦄ ⦃Q : Option (Option Value) → qH → Prop⦄ ⦃a0 a1 a2 a3 a4 a5 a6 a7 a8 a9 a10 a11 a12 : Option Value⦄ ⦃x : Int64⦄, WP d M u pc (a0 :: a1 :: a2 :: a3 :: a4 :: a5 :: a6 :: a7 :: a8 :: a9 :: a10 :: a11 :: a12 :: some (.long x) :: l) st h Q = WP d M u q (a0 :: a1 :: a2 :: a3 :: a4 :: a5 :: a6 :: a7 :: a8 :: a9 :: a10 :: a11 :: a12 :: some (.long x) :: l) (.long x :: st) h Q := by
  intros
  subst hq
  exact WP_go (by rw [stp_of hd rfl]; rfl)
theorem W_aload13 {M : qM} {pc q : Nat} (hd : decode (mB M) pc = .ok (.aload 13, 2)) (hq : pc + 2 = q) : ∀ ⦃d : Nat⦄ ⦃u : Nat × Nat⦄ ⦃l : qL⦄ ⦃st : List Value⦄ ⦃h : qH⦄ ⦃Q : Option (Option Value) → qH → Prop⦄ ⦃a0 a1 a2 a3 a4 a5 a6 a7 a8 a9 a10 a11 a12 : Option Value⦄ ⦃x : Nat⦄, WP d M u pc (a0 :: a1 :: a2 :: a3 :: a4 :: a5 :: a6 :: a7 :: a8 :: a9 :: a10 :: a11 :: a12 :: some (.ref x) :: l) st h Q = WP d M u q (a0 :: a1 :: a2 :: a3 :: a4 :: a5 :: a6 :: a7 :: a8 :: a9 :: a10 :: a11 :: a12 :: some (.ref x) :: l) (.ref x :: st) h Q := by
  intros
  subst hq
  exact WP_go (by rw [stp_of hd rfl]; rfl)
theorem W_aloadR13 {M : qM} {pc q : Nat} (hd : decode (mB M) pc = .ok (.aload 13, 2)) (hq : pc + 2 = q) : ∀ ⦃d : Nat⦄ ⦃u : Nat × Nat⦄ ⦃l : qL⦄ ⦃st : List Value⦄ ⦃h : qH⦄ ⦃Q : Option (Option Value) → qH → Prop⦄ ⦃a0 a1 a2 a3 a4 a5 a6 a7 a8 a9 a10 a11 a12 : Option Value⦄ ⦃x : Nat⦄ (_ : x < 2000), WP d M u pc (a0 :: a1 :: a2 :: a3 :: a4 :: a5 :: a6 :: a7 :: a8 :: a9 :: a10 :: a11 :: a12 :: some (.retAddr x) :: l) st h Q = WP d M u q (a0 :: a1 :: a2 :: a3 :: a4 :: a5 :: a6 :: a7 :: a8 :: a9 :: a10 :: a11 :: a12 :: some (.retAddr x) :: l) (.retAddr x :: st) h Q := by
  intros
  subst hq
  exact WP_go (by rw [stp_of hd rfl]; rename_i g; simp only [stI, ldA]; exact if_pos g)
theorem W_istore13 {M : qM} {pc q : Nat} (hd : decode (mB M) pc = .ok (.istore 13, 2)) (hq : pc + 2 = q) : ∀ ⦃d : Nat⦄ ⦃u : Nat × Nat⦄ ⦃l : qL⦄ ⦃st : List Value⦄ ⦃h : qH⦄ ⦃Q : Option (Option Value) → qH → Prop⦄ ⦃a0 a1 a2 a3 a4 a5 a6 a7 a8 a9 a10 a11 a12 : Option Value⦄ ⦃b : Option Value⦄ ⦃x : Int32⦄, WP d M u pc (a0 :: a1 :: a2 :: a3 :: a4 :: a5 :: a6 :: a7 :: a8 :: a9 :: a10 :: a11 :: a12 :: b :: l) (.int x :: st) h Q = WP d M u q (a0 :: a1 :: a2 :: a3 :: a4 :: a5 :: a6 :: a7 :: a8 :: a9 :: a10 :: a11 :: kl a12 :: some (.int x) :: l) st h Q := by
  intros
  subst hq
  refine WP_go ?_
  rw [stp_of hd rfl]
  simp only [stI, stI1]
  exact if_pos (by first | (simp; done) | (show 3 < _; simp; done) | (show 3 < _; simp only [List.length_cons]; omega) | (show 3 + 1 < _; simp only [List.length_cons]; omega))
theorem W_astore13 {M : qM} {pc q : Nat} (hd : decode (mB M) pc = .ok (.astore 13, 2)) (hq : pc + 2 = q) : ∀ ⦃d : Nat⦄ ⦃u : Nat × Nat⦄ ⦃l : qL⦄ ⦃st : List Value⦄ ⦃h : qH⦄ ⦃Q : Option (Option Value) → qH → Prop⦄ ⦃a0 a1 a2 a3 a4 a5 a6 a7 a8 a9 a10 a11 a12 : Option Value⦄ ⦃b : Option Value⦄ ⦃x : Nat⦄, WP d M u pc (a0 :: a1 :: a2 :: a3 :: a4 :: a5 :: a6 :: a7 :: a8 :: a9 :: a10 :: a11 :: a12 :: b :: l) (.ref x :: st) h Q = WP d M u q (a0 :: a1 :: a2 :: a3 :: a4 :: a5 :: a6 :: a7 :: a8 :: a9 :: a10 :: a11 :: kl a12 :: some (.ref x) :: l) st h Q := by
  intros
  subst hq
  refine WP_go ?_
  rw [stp_of hd rfl]
  simp only [stI, stA1]
  exact if_pos (by first | (simp; done) | (show 3 < _; simp; done) | (show 3 < _; simp only [List.length_cons]; omega) | (show 3 + 1 < _; simp only [List.length_cons]; omega))
theorem W_lstore13 {M : qM} {pc q : Nat} (hd : decode (mB M) pc = .ok (.lstore 13, 2)) (hq : pc + 2 = q) : ∀ ⦃d : Nat⦄ ⦃u : Nat × Nat⦄ ⦃l : qL⦄ ⦃st : List Value⦄ ⦃h : qH⦄ ⦃Q : Option (Option Value) → qH → Prop⦄ ⦃a0 a1 a2 a3 a4 a5 a6 a7 a8 a9 a10 a11 a12 : Option Value⦄ ⦃b b2 : Option Value⦄ ⦃x : Int64⦄, WP d M u pc (a0 :: a1 :: a2 :: a3 :: a4 :: a5 :: a6 :: a7 :: a8 :: a9 :: a10 :: a11 :: a12 :: b :: b2 :: l) (.long x :: st) h Q = WP d M u q (a0 :: a1 :: a2 :: a3 :: a4 :: a5 :: a6 :: a7 :: a8 :: a9 :: a10 :: a11 :: kl a12 :: some (.long x) :: none :: l) st h Q := by
  intros
  subst hq
  refine WP_go ?_
  rw [stp_of hd rfl]
  simp only [stI, stJ1]
  exact if_pos (by first | (simp; done) | (show 3 < _; simp; done) | (show 3 < _; simp only [List.length_cons]; omega) | (show 3 + 1 < _; simp only [List.length_cons]; omega))
theorem W_iinc13 {M : qM} {pc q : Nat} {n : Int} {v : Int32} (hd : decode (mB M) pc = .ok (.iinc 13 n, 3)) (hq : pc + 3 = q) (hv : Int32.ofInt n = v) : ∀ ⦃d : Nat⦄ ⦃u : Nat × Nat⦄ ⦃l : qL⦄ ⦃st : List Value⦄ ⦃h : qH⦄ ⦃Q : Option (Option Value) → qH → Prop⦄ ⦃a0 a1 a2 a3 a4 a5 a6 a7 a8 a9 a10 a11 a12 : Option Value⦄ ⦃x : Int32⦄, WP d M u pc (a0 :: a1 :: a2 :: a3 :: a4 :: a5 :: a6 :: a7 :: a8 :: a9 :: a10 :: a11 :: a12 :: some (.int x) :: l) st h Q = WP d M u q (a0 :: a1 :: a2 :: a3 :: a4 :: a5 :: a6 :: a7 :: a8 :: a9 :: a10 :: a11 :: kl a12 :: some (.int (x + v)) :: l) st h Q := by
  intros
  subst hq
  subst hv
  refine WP_go ?_
  rw [stp_of hd rfl]
  simp only [stI, lg]
  exact if_pos (by first | (simp; done) | (show 3 < _; simp; done) | (show 3 < _; simp only [List.length_cons]; omega) | (show 3 + 1 < _; simp only [List.length_cons]; omega))
theorem W_iload14 {M : qM} {pc q : Nat} (hd : decode (mB M) pc = .ok (.iload 14, 2)) (hq : pc + 2 = q) : ∀ ⦃d : Nat⦄ ⦃u : Nat × Nat⦄ ⦃l : qL⦄ ⦃st : List Value⦄ ⦃h : qH⦄ ⦃Q : Option (Option Value) → qH → Prop⦄ ⦃a0 a1 a2 a3 a4 a5 a6 a7 a8 a9 a10 a11 a12 a13 : Option Value⦄ ⦃x : Int32⦄, WP d M u pc (a0 :: a1 :: a2 :: a3 :: a4 :: a5 :: a6 :: a7 :: a8 :: a9 :: a10 :: a11 :: a12 :: a13 :: some (.int x) :: l) st h Q = WP d M u q (a0 :: a1 :: a2 :: a3 :: a4 :: a5 :: a6 :: a7 :: a8 :: a9 :: a10 :: a11 :: a12 :: a13 :: some (.int x) :: l) (.int x :: st) h Q := by
  intros
  subst hq
  exact WP_go (by rw [stp_of hd rfl]; rfl)
theorem W_lload14 {M : qM} {pc q : Nat} (hd : decode (mB M) pc = .ok (.lload 14, 2)) (hq : pc + 2 = q) : ∀ ⦃d : Nat⦄ ⦃u : Nat × Nat⦄ ⦃l : qL⦄ ⦃st : List Value⦄ ⦃h : qH⦄ ⦃Q : Option (Option Value) → qH → Prop⦄ ⦃a0 a1 a2 a3 a4 a5 a6 a7 a8 a9 a10 a11 a12 a13 : Option Value⦄ ⦃x : Int64⦄, WP d M u pc (a0 :: a1 :: a2 :: a3 :: a4 :: a5 :: a6 :: a7 :: a8 :: a9 :: a10 :: a11 :: a12 :: a13 :: some (.long x) :: l) st h Q = WP d M u q (a0 :: a1 :: a2 :: a3 :: a4 :: a5 :: a6 :: a7 :: a8 :: a9 :: a10 :: a11 :: a12 :: a13 :: some (.long x) :: l) (.long x :: st) h Q := by
  intros
  subst hq
  exact WP_go (by rw [stp_of hd rfl]; rfl)
theorem W_aload14 {M : qM} {pc q : Nat} (hd : decode (mB M) pc = .ok (.aload 14, 2)) (hq : pc + 2 = q) : ∀ ⦃d : Nat⦄ ⦃u : Nat × Nat⦄ ⦃l : qL⦄ ⦃st : List Value⦄ ⦃h : qH⦄ ⦃Q : Option (Option Value) → qH → Prop⦄ ⦃a0 a1 a2 a3 a4 a5 a6 a7 a8 a9 a10 a11 a12 a13 : Option Value⦄ ⦃x : Nat⦄, WP d M u pc (a0 :: a1 :: a2 :: a3 :: a4 :: a5 :: a6 :: a7 :: a8 :: a9 :: a10 :: a11 :: a12 :: a13 :: some (.ref x) :: l) st h Q = WP d M u q (a0 :: a1 :: a2 :: a3 :: a4 :: a5 :: a6 :: a7 :: a8 :: a9 :: a10 :: a11 :: a12 :: a13 :: some (.ref x) :: l) (.ref x :: st) h Q := by
  intros
  subst hq
  exact WP_go (by rw [stp_of hd rfl]; rfl)
theorem W_aloadR14 {M : qM} {pc q : Nat} (hd : decode (mB M) pc = .ok (.aload 14, 2)) (hq : pc + 2 = q) : ∀ ⦃d : Nat⦄ ⦃u : Nat × Nat⦄ ⦃l : qL⦄ ⦃st : List Value⦄ ⦃h : qH⦄ ⦃Q : Option (Option Value) → qH → Prop⦄ ⦃a0 a1 a2 a3 a4 a5 a6 a7 a8 a9 a10 a11 a12 a13 : Option Value⦄ ⦃x : Nat⦄ (_ : x < 2000), WP d M u pc (a0 :: a1 :: a2 :: a3 :: a4 :: a5 :: a6 :: a7 :: a8 :: a9 :: a10 :: a11 :: a12 :: a13 :: some (.retAddr x) :: l) st h Q = WP d M u q (a0 :: a1 :: a2 :: a3 :: a4 :: a5 :: a6 :: a7 :: a8 :: a9 :: a10 :: a11 :: a12 :: a13 :: some (.retAddr x) :: l) (.retAddr x :: st) h Q := by
  intros
  subst hq
  exact WP_go (by rw [stp_of hd rfl]; rename_i g; simp only [stI, ldA]; exact if_pos g)
theorem W_istore14 {M : qM} {pc q : Nat} (hd : decode (mB M) pc = .ok (.istore 14, 2)) (hq : pc + 2 = q) : ∀ ⦃d : Nat⦄ ⦃u : Nat × Nat⦄ ⦃l : qL⦄ ⦃st : List Value⦄ ⦃h : qH⦄ ⦃Q : Option (Option Value) → qH → Prop⦄ ⦃a0 a1 a2 a3 a4 a5 a6 a7 a8 a9 a10 a11 a12 a13 : Option Value⦄ ⦃b : Option Value⦄ ⦃x : Int32⦄, WP d M u pc (a0 :: a1 :: a2 :: a3 :: a4 :: a5 :: a6 :: a7 :: a8 :: a9 :: a10 :: a11 :: a12 :: a13 :: b :: l) (.int x :: st) h Q = WP d M u q (a0 :: a1 :: a2 :: a3 :: a4 :: a5 :: a6 :: a7 :: a8 :: a9 :: a10 :: a11 :: a12 :: kl a13 :: some (.int x) :: l) st h Q := by
  intros
  subst hq
  refine WP_go ?_
  rw [stp_of hd rfl]
  simp only [stI, stI1]
  exact if_pos (by first | (simp; done) | (show 3 < _; simp; done) | (show 3 < _; simp only [List.length_cons]; omega) | (show 3 + 1 < _; simp only [List.length_cons]; omega))
theorem W_astore14 {M : qM} {pc q : Nat} (hd : decode (mB M) pc = .ok (.astore 14, 2)) (hq : pc + 2 = q) : ∀ ⦃d : Nat⦄ ⦃u : Nat × Nat⦄ ⦃l : qL⦄ ⦃st : List Value⦄ ⦃h : qH⦄ ⦃Q : Option (Option Value) → qH → Prop⦄ ⦃a0 a1 a2 a3 a4 a5 a6 a7 a8 a9 a10 a11 a12 a13 : Option Value⦄ ⦃b : Option Value⦄ ⦃x : Nat⦄, WP d M u pc (a0 :: a1 :: a2 :: a3 :: a4 :: a5 :: a6 :: a7 :: a8 :: a9 :: a10 :: a11 :: a12 :: a13 :: b :: l) (.ref x :: st) h Q = WP d M u q (a0 :: a1 :: a2 :: a3 :: a4 :: a5 :: a6 :: a7 :: a8 :: a9 :: a10 :: a11 :: a12 :: kl a13 :: some (.ref x) :: l) st h Q := by
  intros
  subst hq
  refine WP_go ?_
  rw [stp_of hd rfl]
  simp only [stI, stA1]
  exact if_pos (by first | (simp; done) | (show 3 < _; simp; done) | (show 3 < _; simp only [List.length_cons]; omega) | (show 3 + 1 < _; simp only [List.length_cons]; omega))
theorem W_lstore14 {M : qM} {pc q : Nat} (hd : decode (mB M) pc = .ok (.lstore 14, 2)) (hq : pc + 2 = q) : ∀ ⦃d : Nat⦄ ⦃u : Nat × Nat⦄ ⦃l : qL⦄ ⦃st : List Value⦄ ⦃h : qH⦄ ⦃Q : Option (Option Value) → qH → Prop⦄ ⦃a0 a1 a2 a3 a4 a5 a6 a7 a8 a9 a10 a11 a12 a13 : Option Value⦄ ⦃b b2 : Option Value⦄ ⦃x : Int64⦄, WP d M u pc (a0 :: a1 :: a2 :: a3 :: a4 :: a5 :: a6 :: a7 :: a8 :: a9 :: a10 :: a11 :: a12 :: a13 :: b :: b2 :: l) (.long x :: st) h Q = WP d M u q (a0 :: a1 :: a2 :: a3 :: a4 :: a5 :: a6 :: a7 :: a8 :: a9 :: a10 :: a11 :: a12 :: kl a13 :: some (.long x) :: none :: l) st h Q := by
  intros
  subst hq
  refine WP_go ?_
  rw [stp_of hd rfl]
  simp only [stI, stJ1]
  exact if_pos (by first | (simp; done) | (show 3 < _; simp; done) | (show 3 < _; simp only [List.length_cons]; omega) | (show 3 + 1 < _; simp only [List.length_cons]; omega))
theorem W_iinc14 {M : qM} {pc q : Nat} {n : Int} {v : Int32} (hd : decode (mB M) pc = .ok (.iinc 14 n, 3)) (hq : pc + 3 = q) (hv : Int32.ofInt n = v) : ∀ ⦃d : Nat⦄ ⦃u : Nat × Nat⦄ ⦃l : qL⦄ ⦃st : List Value⦄ ⦃h : qH⦄ ⦃Q : Option (Option Value) → qH → Prop⦄ ⦃a0 a1 a2 a3 a4 a5 a6 a7 a8 a9 a10 a11 a12 a13 : Option Value⦄ ⦃x : Int32⦄, WP d M u pc (a0 :: a1 :: a2 :: a3 :: a4 :: a5 :: a6 :: a7 :: a8 :: a9 :: a10 :: a11 :: a12 :: a13 :: some (.int x) :: l) st h Q = WP d M u q (a0 :: a1 :: a2 :: a3 :: a4 :: a5 :: a6 :: a7 :: a8 :: a9 :: a10 :: a11 :: a12 :: kl a13 :: some (.int (x + v)) :: l) st h Q := by
  intros
  subst hq
  subst hv
  refine WP_go ?_
  rw [stp_of hd rfl]
  simp only [stI, lg]
  exact if_pos (by first | (simp; done) | (show 3 < _; simp; done) | (show 3 < _; simp only [List.length_cons]; omega) | (show 3 + 1 < _; simp only [List.length_cons]; omega))
theorem W_iload15 {M : qM} {pc q : Nat} (hd : decode (mB M) pc = .ok (.iload 15, 2)) (hq : pc + 2 = q) : ∀ ⦃d : Nat⦄ ⦃u : Nat × Nat⦄ ⦃l : qL⦄ ⦃st : List Value⦄ ⦃h : qH⦄ ⦃Q : Option (Option Value) → qH → Prop⦄ ⦃a0 a1 a2 a3 a4 a5 a6 a7 a8 a9 a10 a11 a12 a13 a14 : Option Value⦄ ⦃x : Int32⦄, WP d M u pc (a0 :: a1 :: a2 :: a3 :: a4 :: a5 :: a6 :: a7 :: a8 :: a9 :: a10 :: a11 :: a12 :: a13 :: a14 :: some (.int x) :: l) st h Q = WP d M u q (a0 :: a1 :: a2 :: a3 :: a4 :: a5 :: a6 :: a7 :: a8 :: a9 :: a10 :: a11 :: a12 :: a13 :: a14 :: some (.int x) :: l) (.int x :: st) h Q := by
  intros
  subst hq
  exact WP_go (by rw [stp_of hd rfl]; rfl)
theorem W_lload15 {M : qM} {pc q : Nat} (hd : decode (mB M) pc = .ok (.lload 15, 2)) (hq : pc + 2 = q) : ∀ ⦃d : Nat⦄ ⦃u : Nat × Nat⦄ ⦃l : qL⦄ ⦃st : List Value⦄ ⦃h : qH⦄ ⦃Q : Option (Option Value) → qH → Prop⦄ ⦃a0 a1 a2 a3 a4 a5 a6 a7 a8 a9 a10 a11 a12 a13 a14 : Option Value⦄ ⦃x : Int64⦄, WP d M u pc (a0 :: a1 :: a2 :: a3 :: a4 :: a5 :: a6 :: a7 :: a8 :: a9 :: a10 :: a11 :: a12 :: a13 :: a14 :: some (.long x) :: l) st h Q = WP d M u q (a0 :: a1 :: a2 :: a3 :: a4 :: a5 :: a6 :: a7 :: a8 :: a9 :: a10 :: a11 :: a12 :: a13 :: a14 :: some (.long x) :: l) (.long x :: st) h Q := by
  intros
  subst hq
  exact WP_go (by rw [stp_of hd rfl]; rfl)
theorem W_aload15 {M : qM} {pc q : Nat} (hd : decode (mB M) pc = .ok (.aload 15, 2)) (hq : pc + 2 = q) : ∀ ⦃d : Nat⦄ ⦃u : Nat × Nat⦄ ⦃l : qL⦄ ⦃st : List Value⦄ ⦃h : qH⦄ ⦃Q : Option (Option Value) → qH → Prop⦄ ⦃a0 a1 a2 a3 a4 a5 a6 a7 a8 a9 a10 a11 a12 a13 a14 : Option Value⦄ ⦃x : Nat⦄, WP d M u pc (a0 :: a1 :: a2 :: a3 :: a4 :: a5 :: a6 :: a7 :: a8 :: a9 :: a10 :: a11 :: a12 :: a13 :: a14 :: some (.ref x) :: l) st h Q = WP d M u q (a0 :: a1 :: a2 :: a3 :: a4 :: a5 :: a6 :: a7 :: a8 :: a9 :: a10 :: a11 :: a12 :: a13 :: a14 :: some (.ref x) :: l) (.ref x :: st) h Q := by
  intros
  subst hq
  exact WP_go (by rw [stp_of hd rfl]; rfl)
theorem W_aloadR15 {M : qM} {pc q : Nat} (hd : decode (mB M) pc = .ok (.aload 15, 2)) (hq : pc + 2 = q) : ∀ ⦃d : Nat⦄ ⦃u : Nat × Nat⦄ ⦃l : qL⦄ ⦃st : List Value⦄ ⦃h : qH⦄ ⦃Q : Option (Option Value) → qH → Prop⦄ ⦃a0 a1 a2 a3 a4 a5 a6 a7 a8 a9 a10 a11 a12 a13 a14 : Option Value⦄ ⦃x : Nat⦄ (_ : x < 2000), WP d M u pc (a0 :: a1 :: a2 :: a3 :: a4 :: a5 :: a6 :: a7 :: a8 :: a9 :: a10 :: a11 :: a12 :: a13 :: a14 :: some (.retAddr x) :: l) st h Q = WP d M u q (a0 :: a1 :: a2 :: a3 :: a4 :: a5 :: a6 :: a7 :: a8 :: a9 :: a10 :: a11 :: a12 :: a13 :: a14 :: some (.retAddr x) :: l) (.retAddr x :: st) h Q := by
  intros
  subst hq
  exact WP_go (by rw [stp_of hd rfl]; rename_i g; simp only [stI, ldA]; exact if_pos g)
theorem W_istore15 {M : qM} {pc q : Nat} (hd : decode (mB M) pc = .ok (.istore 15, 2)) (hq : pc + 2 = q) : ∀ ⦃d : Nat⦄ ⦃u : Nat × Nat⦄ ⦃l : qL⦄ ⦃st : List Value⦄ ⦃h : qH⦄ ⦃Q : Option (Option Value) → qH → Prop⦄ ⦃a0 a1 a2 a3 a4 a5 a6 a7 a8 a9 a10 a11 a12 a13 a14 : Option Value⦄ ⦃b : Option Value⦄ ⦃x : Int32⦄, WP d M u pc (a0 :: a1 :: a2 :: a3 :: a4 :: a5 :: a6 :: a7 :: a8 :: a9 :: a10 :: a11 :: a12 :: a13 :: a14 :: b :: l) (.int x :: st) h Q = WP d M u q (a0 :: a1 :: a2 :: a3 :: a4 :: a5 :: a6 :: a7 :: a8 :: a9 :: a10 :: a11 :: a12 :: a13 :: kl a14 :: some (.int x) :: l) st h Q := by
  intros
  subst hq
  refine WP_go ?_
  rw [stp_of hd rfl]
  simp only [stI, stI1]
  exact if_pos (by first | (simp; done) | (show 3 < _; simp; done) | (show 3 < _; simp only [List.length_cons]; omega) | (show 3 + 1 < _; simp only [List.length_cons]; omega))
theorem W_astore15 {M : qM} {pc q : Nat} (hd : decode (mB M) pc = .ok (.astore 15, 2)) (hq : pc + 2 = q) : ∀ ⦃d : Nat⦄ ⦃u : Nat × Nat⦄ ⦃l : qL⦄ ⦃st : List Value⦄ ⦃h : qH⦄ ⦃Q : Option (Option Value) → qH → Prop⦄ ⦃a0 a1 a2 a3 a4 a5 a6 a7 a8 a9 a10 a11 a12 a13 a14 : Option Value⦄ ⦃b : Option Value⦄ ⦃x : Nat⦄, WP d M u pc (a0 :: a1 :: a2 :: a3 :: a4 :: a5 :: a6 :: a7 :: a8 :: a9 :: a10 :: a11 :: a12 :: a13 :: a14 :: b :: l) (.ref x :: st) h Q = WP d M u q (a0 :: a1 :: a2 :: a3 :: a4 :: a5 :: a6 :: a7 :: a8 :: a9 :: a10 :: a11 :: a12 :: a13 :: kl a14 :: some (.ref x) :: l) st h Q := by
  intros
  subst hq
  refine WP_go ?_
  rw [stp_of hd rfl]
  simp only [stI, stA1]
  exact if_pos (by first | (simp; done) | (show 3 < _; simp; done) | (show 3 < _; simp only [List.length_cons]; omega) | (show 3 + 1 < _; simp only [List.length_cons]; omega))
theorem W_lstore15 {M : qM} {pc q : Nat} (hd : decode (mB M) pc = .ok (.lstore 15, 2)) (hq : pc + 2 = q) : ∀ ⦃d : Nat⦄ ⦃u : Nat × Nat⦄ ⦃l : qL⦄ ⦃st : List Value⦄ ⦃h : qH⦄ ⦃Q : Option (Option Value) → qH → Prop⦄ ⦃a0 a1 a2 a3 a4 a5 a6 a7 a8 a9 a10 a11 a12 a13 a14 : Option Value⦄ ⦃b b2 : Option Value⦄ ⦃x : Int64⦄, WP d M u pc (a0 :: a1 :: a2 :: a3 :: a4 :: a5 :: a6 :: a7 :: a8 :: a9 :: a10 :: a11 :: a12 :: a13 :: a14 :: b :: b2 :: l) (.long x :: st) h Q = WP d M u q (a0 :: a1 :: a2 :: a3 :: a4 :: a5 :: a6 :: a7 :: a8 :: a9 :: a10 :: a11 :: a12 :: a13 :: kl a14 :: some (.long x) :: none :: l) st h Q := by
  intros
  subst hq
  refine WP_go ?_
  rw [stp_of hd rfl]
  simp only [stI, stJ1]
  exact if_pos (by first | (simp; done) | (show 3 < _; simp; done) | (show 3 < _; simp only [List.length_cons]; omega) | (show 3 + 1 < _; simp only [List.length_cons]; omega))
theorem W_iinc15 {M : qM} {pc q : Nat} {n : Int} {v : Int32} (hd : decode (mB M) pc = .ok (.iinc 15 n, 3)) (hq : pc + 3 = q) (hv : Int32.ofInt n = v) : ∀ ⦃d : Nat⦄ ⦃u : Nat × Nat⦄ ⦃l : qL⦄ ⦃st : List Value⦄ ⦃h : qH⦄ ⦃Q : Option (Option Value) → qH → Prop⦄ ⦃a0 a1 a2 a3 a4 a5 a6 a7 a8 a9 a10 a11 a12 a13 a14 : Option Value⦄ ⦃x : Int32⦄, WP d M u pc (a0 :: a1 :: a2 :: a3 :: a4 :: a5 :: a6 :: a7 :: a8 :: a9 :: a10 :: a11 :: a12 :: a13 :: a14 :: some (.int x) :: l) st h Q = WP d M u q (a0 :: a1 :: a2 :: a3 :: a4 :: a5 :: a6 :: a7 :: a8 :: a9 :: a10 :: a11 :: a12 :: a13 :: kl a14 :: some (.int (x + v)) :: l) st h Q := by
  intros
  subst hq
  subst hv
  refine WP_go ?_
  rw [stp_of hd rfl]
  simp only [stI, lg]
  exact if_pos (by first | (simp; done) | (show 3 < _; simp; done) | (show 3 < _; simp only [List.length_cons]; omega) | (show 3 + 1 < _; simp only [List.length_cons]; omega))
theorem kl_I {x : Int32} : kl (some (.int x)) = some (.int x) := rfl
theorem kl_J {x : Int64} : kl (some (.long x)) = none := rfl
theorem kl_R {x : Nat} : kl (some (.ref x)) = some (.ref x) := rfl
theorem kl_T {x : Nat} : kl (some (.retAddr x)) = some (.retAddr x) := rfl
theorem kl_N : kl none = none := rfl
theorem W_if_eq {M : qM} {pc q t : Nat} {off : Int} (hd : decode (mB M) pc = .ok (.ifCond .eq off, 3)) (hq : pc + 3 = q) (ht : (pc : Int) + off = (t : Int)) : ∀ ⦃d : Nat⦄ ⦃u : Nat × Nat⦄ ⦃ls : qL⦄ ⦃st : List Value⦄ ⦃h : qH⦄ ⦃Q : Option (Option Value) → qH → Prop⦄ ⦃x : Int32⦄, WP d M u pc ls (.int x :: st) h Q = if x = 0 then WP d M u t ls st h Q else WP d M u q ls st h Q := by
  intros
  subst hq
  have h0 : 0 ≤ (pc : Int) + off := by omega
  have h1 : ((pc : Int) + off).toNat = t := by omega
  split
  · rename_i g; exact WP_go (by rw [stp_of hd rfl]; simp only [stI, br2, if_pos h0, h1, cnd]; exact if_pos (decide_eq_true g))
  · rename_i g; exact WP_go (by rw [stp_of hd rfl]; simp only [stI, br2, if_pos h0, h1, cnd]; exact if_neg (fun z => g (of_decide_eq_true z)))
theorem W_icmp_eq {M : qM} {pc q t : Nat} {off : Int} (hd : decode (mB M) pc = .ok (.if_icmp .eq off, 3)) (hq : pc + 3 = q) (ht : (pc : Int) + off = (t : Int)) : ∀ ⦃d : Nat⦄ ⦃u : Nat × Nat⦄ ⦃ls : qL⦄ ⦃st : List Value⦄ ⦃h : qH⦄ ⦃Q : Option (Option Value) → qH → Prop⦄ ⦃x y : Int32⦄, WP d M u pc ls (.int y :: .int x :: st) h Q = if x = y then WP d M u t ls st h Q else WP d M u q ls st h Q := by
  intros
  subst hq
  have h0 : 0 ≤ (pc : Int) + off := by omega
  have h1 : ((pc : Int) + off).toNat = t := by omega
  split
  · rename_i g; exact WP_go (by rw [stp_of hd rfl]; simp only [stI, br2, if_pos h0, h1, cnd]; exact if_pos (decide_eq_true g))
  · rename_i g; exact WP_go (by rw [stp_of hd rfl]; simp only [stI, br2, if_pos h0, h1, cnd]; exact if_neg (fun z => g (of_decide_eq_true z)))
theorem W_if_ne {M : qM} {pc q t : Nat} {off : Int} (hd : decode (mB M) pc = .ok (.ifCond .ne off, 3)) (hq : pc + 3 = q) (ht : (pc : Int) + off = (t : Int)) : ∀ ⦃d : Nat⦄ ⦃u : Nat × Nat⦄ ⦃ls : qL⦄ ⦃st : List Value⦄ ⦃h : qH⦄ ⦃Q : Option (Option Value) → qH → Prop⦄ ⦃x : Int32⦄, WP d M u pc ls (.int x :: st) h Q = if ¬ x = 0 then WP d M u t ls st h Q else WP d M u q ls st h Q := by
  intros
  subst hq
  have h0 : 0 ≤ (pc : Int) + off := by omega
  have h1 : ((pc : Int) + off).toNat = t := by omega
  split
  · rename_i g; exact WP_go (by rw [stp_of hd rfl]; simp only [stI, br2, if_pos h0, h1, cnd]; exact if_pos (decide_eq_true g))
  · rename_i g; exact WP_go (by rw [stp_of hd rfl]; simp only [stI, br2, if_pos h0, h1, cnd]; exact if_neg (fun z => g (of_decide_eq_true z)))
theorem W_icmp_ne {M : qM} {pc q t : Nat} {off : Int} (hd : decode (mB M) pc = .ok (.if_icmp .ne off, 3)) (hq : pc + 3 = q) (ht : (pc : Int) + off = (t : Int)) : ∀ ⦃d : Nat⦄ ⦃u : Nat × Nat⦄ ⦃ls : qL⦄ ⦃st : List Value⦄ ⦃h : qH⦄ ⦃Q : Option (Option Value) → qH → Prop⦄ ⦃x y : Int32⦄, WP d M u pc ls (.int y :: .int x :: st) h Q = if ¬ x = y then WP d M u t ls st h Q else WP d M u q ls st h Q := by
  intros
  subst hq
  have h0 : 0 ≤ (pc : Int) + off := by omega
  have h1 : ((pc : Int) + off).toNat = t := by omega
  split
  · rename_i g; exact WP_go (by rw [stp_of hd rfl]; simp only [stI, br2, if_pos h0, h1, cnd]; exact if_pos (decide_eq_true g))
  · rename_i g; exact WP_go (by rw [stp_of hd rfl]; simp only [stI, br2, if_pos h0, h1, cnd]; exact if_neg (fun z => g (of_decide_eq_true z)))
theorem W_if_lt {M : qM} {pc q t : Nat} {off : Int} (hd : decode (mB M) pc = .ok (.ifCond .lt off, 3)) (hq : pc + 3 = q) (ht : (pc : Int) + off = (t : Int)) : ∀ ⦃d : Nat⦄ ⦃u : Nat × Nat⦄ ⦃ls : qL⦄ ⦃st : List Value⦄ ⦃h : qH⦄ ⦃Q : Option (Option Value) → qH → Prop⦄ ⦃x : Int32⦄, WP d M u pc ls (.int x :: st) h Q = if x < 0 then WP d M u t ls st h Q else WP d M u q ls st h Q := by
  intros
  subst hq
  have h0 : 0 ≤ (pc : Int) + off := by omega
  have h1 : ((pc : Int) + off).toNat = t := by omega
  split
  · rename_i g; exact WP_go (by rw [stp_of hd rfl]; simp only [stI, br2, if_pos h0, h1, cnd]; exact if_pos (decide_eq_true g))
  · rename_i g; exact WP_go (by rw [stp_of hd rfl]; simp only [stI, br2, if_pos h0, h1, cnd]; exact if_neg (fun z => g (of_decide_eq_true z)))
theorem W_icmp_lt {M : qM} {pc q t : Nat} {off : Int} (hd : decode (mB M) pc = .ok (.if_icmp .lt off, 3)) (hq : pc + 3 = q) (ht : (pc : Int) + off = (t : Int)) : ∀ ⦃d : Nat⦄ ⦃u : Nat × Nat⦄ ⦃ls : qL⦄ ⦃st : List Value⦄ ⦃h : qH⦄ ⦃Q : Option (Option Value) → qH → Prop⦄ ⦃x y : Int32⦄, WP d M u pc ls (.int y :: .int x :: st) h Q = if x < y then WP d M u t ls st h Q else WP d M u q ls st h Q := by
  intros
  subst hq
  have h0 : 0 ≤ (pc : Int) + off := by omega
  have h1 : ((pc : Int) + off).toNat = t := by omega
  split
  · rename_i g; exact WP_go (by rw [stp_of hd rfl]; simp only [stI, br2, if_pos h0, h1, cnd]; exact if_pos (decide_eq_true g))
  · rename_i g; exact WP_go (by rw [stp_of hd rfl]; simp only [stI, br2, if_pos h0, h1, cnd]; exact if_neg (fun z => g (of_decide_eq_true z)))
theorem W_if_ge {M : qM} {pc q t : Nat} {off : Int} (hd : decode (mB M) pc = .ok (.ifCond .ge off, 3)) (hq : pc + 3 = q) (ht : (pc : Int) + off = (t : Int)) : ∀ ⦃d : Nat⦄ ⦃u : Nat × Nat⦄ ⦃ls : qL⦄ ⦃st : List Value⦄ ⦃h : qH⦄ ⦃Q : Option (Option Value) → qH → Prop⦄ ⦃x : Int32⦄, WP d M u pc ls (.int x :: st) h Q = if 0 ≤ x then WP d M u t ls st h Q else WP d M u q ls st h Q := by
  intros
  subst hq
  have h0 : 0 ≤ (pc : Int) + off := by omega
  have h1 : ((pc : Int) + off).toNat = t := by omega
  split
  · rename_i g; exact WP_go (by rw [stp_of hd rfl]; simp only [stI, br2, if_pos h0, h1, cnd]; exact if_pos (decide_eq_true g))
  · rename_i g; exact WP_go (by rw [stp_of hd rfl]; simp only [stI, br2, if_pos h0, h1, cnd]; exact if_neg (fun z => g (of_decide_eq_true z)))
theorem W_icmp_ge {M : qM} {pc q t : Nat} {off : Int} (hd : decode (mB M) pc = .ok (.if_icmp .ge off, 3)) (hq : pc + 3 = q) (ht : (pc : Int) + off = (t : Int)) : ∀ ⦃d : Nat⦄ ⦃u : Nat × Nat⦄ ⦃ls : qL⦄ ⦃st : List Value⦄ ⦃h : qH⦄ ⦃Q : Option (Option Value) → qH → Prop⦄ ⦃x y : Int32⦄, WP d M u pc ls (.int y :: .int x :: st) h Q = if y ≤ x then WP d M u t ls st h Q else WP d M u q ls st h Q := by
  intros
  subst hq
  have h0 : 0 ≤ (pc : Int) + off := by omega
  have h1 : ((pc : Int) + off).toNat = t := by omega
  split
  · rename_i g; exact WP_go (by rw [stp_of hd rfl]; simp only [stI, br2, if_pos h0, h1, cnd]; exact if_pos (decide_eq_true g))
  · rename_i g; exact WP_go (by rw [stp_of hd rfl]; simp only [stI, br2, if_pos h0, h1, cnd]; exact if_neg (fun z => g (of_decide_eq_true z)))
theorem W_if_gt {M : qM} {pc q t : Nat} {off : Int} (hd : decode (mB M) pc = .ok (.ifCond .gt off, 3)) (hq : pc + 3 = q) (ht : (pc : Int) + off = (t : Int)) : ∀ ⦃d : Nat⦄ ⦃u : Nat × Nat⦄ ⦃ls : qL⦄ ⦃st : List Value⦄ ⦃h : qH⦄ ⦃Q : Option (Option Value) → qH → Prop⦄ ⦃x : Int32⦄, WP d M u pc ls (.int x :: st) h Q = if 0 < x then WP d M u t ls st h Q else WP d M u q ls st h Q := by
  intros
  subst hq
  have h0 : 0 ≤ (pc : Int) + off := by omega
  have h1 : ((pc : Int) + off).toNat = t := by omega
  split
  · rename_i g; exact WP_go (by rw [stp_of hd rfl]; simp only [stI, br2, if_pos h0, h1, cnd]; exact if_pos (decide_eq_true g))
  · rename_i g; exact WP_go (by rw [stp_of hd rfl]; simp only [stI, br2, if_pos h0, h1, cnd]; exact if_neg (fun z => g (of_decide_eq_true z)))
theorem W_icmp_gt {M : qM} {pc q t : Nat} {off : Int} (hd : decode (mB M) pc = .ok (.if_icmp .gt off, 3)) (hq : pc + 3 = q) (ht : (pc : Int) + off = (t : Int)) : ∀ ⦃d : Nat⦄ ⦃u : Nat × Nat⦄ ⦃ls : qL⦄ ⦃st : List Value⦄ ⦃h : qH⦄ ⦃Q : Option (Option Value) → qH → Prop⦄ ⦃x y : Int32⦄, WP d M u pc ls (.int y :: .int x :: st) h Q = if y < x then WP d M u t ls st h Q else WP d M u q ls st h Q := by
  intros
  subst hq
  have h0 : 0 ≤ (pc : Int) + off := by omega
  have h1 : ((pc : Int) + off).toNat = t := by omega
  split
  · rename_i g; exact WP_go (by rw [stp_of hd rfl]; simp only [stI, br2, if_pos h0, h1, cnd]; exact if_pos (decide_eq_true g))
  · rename_i g; exact WP_go (by rw [stp_of hd rfl]; simp only [stI, br2, if_pos h0, h1, cnd]; exact if_neg (fun z => g (of_decide_eq_true z)))
theorem W_if_le {M : qM} {pc q t : Nat} {off : Int} (hd : decode (mB M) pc = .ok (.ifCond .le off, 3)) (hq : pc + 3 = q) (ht : (pc : Int) + off = (t : Int)) : ∀ ⦃d : Nat⦄ ⦃u : Nat × Nat⦄ ⦃ls : qL⦄ ⦃st : List Value⦄ ⦃h : qH⦄ ⦃Q : Option (Option Value) → qH → Prop⦄ ⦃x : Int32⦄, WP d M u pc ls (.int x :: st) h Q = if x ≤ 0 then WP d M u t ls st h Q else WP d M u q ls st h Q := by
  intros
  subst hq
  have h0 : 0 ≤ (pc : Int) + off := by omega
  have h1 : ((pc : Int) + off).toNat = t := by omega
  split
  · rename_i g; exact WP_go (by rw [stp_of hd rfl]; simp only [stI, br2, if_pos h0, h1, cnd]; exact if_pos (decide_eq_true g))
  · rename_i g; exact WP_go (by rw [stp_of hd rfl]; simp only [stI, br2, if_pos h0, h1, cnd]; exact if_neg (fun z => g (of_decide_eq_true z)))
theorem W_icmp_le {M : qM} {pc q t : Nat} {off : Int} (hd : decode (mB M) pc = .ok (.if_icmp .le off, 3)) (hq : pc + 3 = q) (ht : (pc : Int) + off = (t : Int)) : ∀ ⦃d : Nat⦄ ⦃u : Nat × Nat⦄ ⦃ls : qL⦄ ⦃st : List Value⦄ ⦃h : qH⦄ ⦃Q : Option (Option Value) → qH → Prop⦄ ⦃x y : Int32⦄, WP d M u pc ls (.int y :: .int x :: st) h Q = if x ≤ y then WP d M u t ls st h Q else WP d M u q ls st h Q := by
  intros
  subst hq
  have h0 : 0 ≤ (pc : Int) + off := by omega
  have h1 : ((pc : Int) + off).toNat = t := by omega
  split
  · rename_i g; exact WP_go (by rw [stp_of hd rfl]; simp only [stI, br2, if_pos h0, h1, cnd]; exact if_pos (decide_eq_true g))
  · rename_i g; exact WP_go (by rw [stp_of hd rfl]; simp only [stI, br2, if_pos h0, h1, cnd]; exact if_neg (fun z => g (of_decide_eq_true z)))
theorem W_goto {M : qM} {pc t : Nat} {off : Int} (hd : decode (mB M) pc = .ok (.goto off, 3)) (ht : (pc : Int) + off = (t : Int)) : ∀ ⦃d : Nat⦄ ⦃u : Nat × Nat⦄ ⦃ls : qL⦄ ⦃st : List Value⦄ ⦃h : qH⦄ ⦃Q : Option (Option Value) → qH → Prop⦄, WP d M u pc ls st h Q = WP d M u t ls st h Q := by
  intros
  have h0 : 0 ≤ (pc : Int) + off := by omega
  have h1 : ((pc : Int) + off).toNat = t := by omega
  exact WP_go (by rw [stp_of hd rfl]; simp only [stI, gt2, if_pos h0, h1]; rfl)
theorem W_ifnull {M : qM} {pc q t : Nat} {off : Int} (hd : decode (mB M) pc = .ok (.ifnull off, 3)) (hq : pc + 3 = q) (ht : (pc : Int) + off = (t : Int)) : ∀ ⦃d : Nat⦄ ⦃u : Nat × Nat⦄ ⦃ls : qL⦄ ⦃st : List Value⦄ ⦃h : qH⦄ ⦃Q : Option (Option Value) → qH → Prop⦄ ⦃x : Nat⦄, WP d M u pc ls (.ref x :: st) h Q = WP d M u q ls st h Q := by
  intros
  subst hq
  exact WP_go (by rw [stp_of hd rfl]; rfl)
theorem W_ifnullN {M : qM} {pc q t : Nat} {off : Int} (hd : decode (mB M) pc = .ok (.ifnull off, 3)) (hq : pc + 3 = q) (ht : (pc : Int) + off = (t : Int)) : ∀ ⦃d : Nat⦄ ⦃u : Nat × Nat⦄ ⦃ls : qL⦄ ⦃st : List Value⦄ ⦃h : qH⦄ ⦃Q : Option (Option Value) → qH → Prop⦄ , WP d M u pc ls (.null :: st) h Q = WP d M u t ls st h Q := by
  intros
  subst hq
  have h0 : 0 ≤ (pc : Int) + off := by omega
  have h1 : ((pc : Int) + off).toNat = t := by omega
  exact WP_go (by rw [stp_of hd rfl]; simp only [stI, gt2, if_pos h0, h1]; rfl)
theorem W_ifnonnull {M : qM} {pc q t : Nat} {off : Int} (hd : decode (mB M) pc = .ok (.ifnonnull off, 3)) (hq : pc + 3 = q) (ht : (pc : Int) + off = (t : Int)) : ∀ ⦃d : Nat⦄ ⦃u : Nat × Nat⦄ ⦃ls : qL⦄ ⦃st : List Value⦄ ⦃h : qH⦄ ⦃Q : Option (Option Value) → qH → Prop⦄ ⦃x : Nat⦄, WP d M u pc ls (.ref x :: st) h Q = WP d M u t ls st h Q := by
  intros
  subst hq
  have h0 : 0 ≤ (pc : Int) + off := by omega
  have h1 : ((pc : Int) + off).toNat = t := by omega
  exact WP_go (by rw [stp_of hd rfl]; simp only [stI, gt2, if_pos h0, h1]; rfl)
theorem W_ifnonnullN {M : qM} {pc q t : Nat} {off : Int} (hd : decode (mB M) pc = .ok (.ifnonnull off, 3)) (hq : pc + 3 = q) (ht : (pc : Int) + off = (t : Int)) : ∀ ⦃d : Nat⦄ ⦃u : Nat × Nat⦄ ⦃ls : qL⦄ ⦃st : List Value⦄ ⦃h : qH⦄ ⦃Q : Option (Option Value) → qH → Prop⦄ , WP d M u pc ls (.null :: st) h Q = WP d M u q ls st h Q := by
  intros
  subst hq
  exact WP_go (by rw [stp_of hd rfl]; rfl)
theorem W_getI {M : qM} {pc q k ci f : Nat} {n : Bool} (hd : decode (mB M) pc = .ok (.getfield k, 3)) (hq : pc + 3 = q) (hf : fl (mO M) k = some (ci, f, n)) (hy : fTT ci f = .int ∨ fTT ci f = .boolean) : ∀ ⦃d : Nat⦄ ⦃u : Nat × Nat⦄ ⦃ls : qL⦄ ⦃st : List Value⦄ ⦃h : qH⦄ ⦃Q : Option (Option Value) → qH → Prop⦄ ⦃a : Nat⦄ (_ : (kd a).1 = ci), WP d M u pc ls (.ref a :: st) h Q = WP d M u q ls (.int (hI h a f) :: st) h Q := by
  intro d u ls st h Q a hk
  subst hq
  refine WP_go ?_
  rw [stp_of hd rfl]
  simp only [stI, hf, if_pos hk]
  rcases hy with hy | hy <;> rw [hy] <;> rfl
theorem W_getJ {M : qM} {pc q k ci f : Nat} {n : Bool} (hd : decode (mB M) pc = .ok (.getfield k, 3)) (hq : pc + 3 = q) (hf : fl (mO M) k = some (ci, f, n)) (hy : fTT ci f = .long) : ∀ ⦃d : Nat⦄ ⦃u : Nat × Nat⦄ ⦃ls : qL⦄ ⦃st : List Value⦄ ⦃h : qH⦄ ⦃Q : Option (Option Value) → qH → Prop⦄ ⦃a : Nat⦄ (_ : (kd a).1 = ci), WP d M u pc ls (.ref a :: st) h Q = WP d M u q ls (.long (hJ h a f) :: st) h Q := by
  intro d u ls st h Q a hk
  subst hq
  refine WP_go ?_
  rw [stp_of hd rfl]
  simp only [stI, hf, if_pos hk]
  rw [hy]; rfl
theorem W_getR {M : qM} {pc q k ci f : Nat} {n : Bool} (hd : decode (mB M) pc = .ok (.getfield k, 3)) (hq : pc + 3 = q) (hf : fl (mO M) k = some (ci, f, n)) (hy : ∃ t, fTT ci f = .object t) : ∀ ⦃d : Nat⦄ ⦃u : Nat × Nat⦄ ⦃ls : qL⦄ ⦃st : List Value⦄ ⦃h : qH⦄ ⦃Q : Option (Option Value) → qH → Prop⦄ ⦃a : Nat⦄ (_ : (kd a).1 = ci), WP d M u pc ls (.ref a :: st) h Q = WP d M u q ls (va_rf (hR h a f) :: st) h Q := by
  intro d u ls st h Q a hk
  subst hq
  refine WP_go ?_
  rw [stp_of hd rfl]
  simp only [stI, hf, if_pos hk]
  obtain ⟨t, hy⟩ := hy; rw [hy]; rfl
theorem W_getA {M : qM} {pc q k ci f : Nat} {n : Bool} (hd : decode (mB M) pc = .ok (.getfield k, 3)) (hq : pc + 3 = q) (hf : fl (mO M) k = some (ci, f, n)) (hy : ∃ t, fTT ci f = .array t) : ∀ ⦃d : Nat⦄ ⦃u : Nat × Nat⦄ ⦃ls : qL⦄ ⦃st : List Value⦄ ⦃h : qH⦄ ⦃Q : Option (Option Value) → qH → Prop⦄ ⦃a : Nat⦄ (_ : (kd a).1 = ci), WP d M u pc ls (.ref a :: st) h Q = WP d M u q ls (va_rf (hR h a f) :: st) h Q := by
  intro d u ls st h Q a hk
  subst hq
  refine WP_go ?_
  rw [stp_of hd rfl]
  simp only [stI, hf, if_pos hk]
  obtain ⟨t, hy⟩ := hy; rw [hy]; rfl
theorem W_putI {M : qM} {pc q k ci f : Nat} {n : Bool} (hd : decode (mB M) pc = .ok (.putfield k, 3)) (hq : pc + 3 = q) (hf : fl (mO M) k = some (ci, f, n)) (hy : fTT ci f = .int) (hw : (tTT ci f).2.2.2 = false ∨ (n = false ∧ (mY M).name = "<init>" ∧ nmC ci = nmC (mO M))) : ∀ ⦃d : Nat⦄ ⦃u : Nat × Nat⦄ ⦃ls : qL⦄ ⦃st : List Value⦄ ⦃h : qH⦄ ⦃Q : Option (Option Value) → qH → Prop⦄ ⦃a : Nat⦄ ⦃x : Int32⦄ (_ : (kd a).1 = ci), WP d M u pc ls (.int x :: .ref a :: st) h Q = WP d M u q ls st (wI h a (upd (hI h a) f x)) Q := by
  intros
  subst hq
  rename_i hk
  refine WP_go ?_
  rw [stp_of hd rfl]
  simp only [stI, hf, if_pos (And.intro hk hw)]
  rw [hy]
  rfl
theorem W_putZ {M : qM} {pc q k ci f : Nat} {n : Bool} (hd : decode (mB M) pc = .ok (.putfield k, 3)) (hq : pc + 3 = q) (hf : fl (mO M) k = some (ci, f, n)) (hy : fTT ci f = .boolean) (hw : (tTT ci f).2.2.2 = false ∨ (n = false ∧ (mY M).name = "<init>" ∧ nmC ci = nmC (mO M))) : ∀ ⦃d : Nat⦄ ⦃u : Nat × Nat⦄ ⦃ls : qL⦄ ⦃st : List Value⦄ ⦃h : qH⦄ ⦃Q : Option (Option Value) → qH → Prop⦄ ⦃a : Nat⦄ ⦃x : Int32⦄ (_ : (kd a).1 = ci) (_ : x = 0 ∨ x = 1), WP d M u pc ls (.int x :: .ref a :: st) h Q = WP d M u q ls st (wI h a (upd (hI h a) f x)) Q := by
  intros
  subst hq
  rename_i hk g
  refine WP_go ?_
  rw [stp_of hd rfl]
  simp only [stI, hf, if_pos (And.intro hk hw), hy, sfP, if_pos g]
  rfl
theorem W_putJ {M : qM} {pc q k ci f : Nat} {n : Bool} (hd : decode (mB M) pc = .ok (.putfield k, 3)) (hq : pc + 3 = q) (hf : fl (mO M) k = some (ci, f, n)) (hy : fTT ci f = .long) (hw : (tTT ci f).2.2.2 = false ∨ (n = false ∧ (mY M).name = "<init>" ∧ nmC ci = nmC (mO M))) : ∀ ⦃d : Nat⦄ ⦃u : Nat × Nat⦄ ⦃ls : qL⦄ ⦃st : List Value⦄ ⦃h : qH⦄ ⦃Q : Option (Option Value) → qH → Prop⦄ ⦃a : Nat⦄ ⦃x : Int64⦄ (_ : (kd a).1 = ci), WP d M u pc ls (.long x :: .ref a :: st) h Q = WP d M u q ls st (wJ h a (vp_updL (hJ h a) f x)) Q := by
  intros
  subst hq
  rename_i hk
  refine WP_go ?_
  rw [stp_of hd rfl]
  simp only [stI, hf, if_pos (And.intro hk hw)]
  rw [hy]
  rfl
theorem W_putR {M : qM} {pc q k ci f : Nat} {n : Bool} (hd : decode (mB M) pc = .ok (.putfield k, 3)) (hq : pc + 3 = q) (hf : fl (mO M) k = some (ci, f, n)) (hy : ∃ t, fTT ci f = .object t) (hw : (tTT ci f).2.2.2 = false ∨ (n = false ∧ (mY M).name = "<init>" ∧ nmC ci = nmC (mO M))) : ∀ ⦃d : Nat⦄ ⦃u : Nat × Nat⦄ ⦃ls : qL⦄ ⦃st : List Value⦄ ⦃h : qH⦄ ⦃Q : Option (Option Value) → qH → Prop⦄ ⦃a : Nat⦄ ⦃x : Nat⦄ (_ : (kd a).1 = ci), WP d M u pc ls (.ref x :: .ref a :: st) h Q = WP d M u q ls st (wR h a (va_up (hR h a) f (some x))) Q := by
  intros
  subst hq
  rename_i hk
  refine WP_go ?_
  rw [stp_of hd rfl]
  simp only [stI, hf, if_pos (And.intro hk hw)]
  obtain ⟨t, hy⟩ := hy
  rw [hy]
  rfl
theorem W_putA {M : qM} {pc q k ci f : Nat} {n : Bool} (hd : decode (mB M) pc = .ok (.putfield k, 3)) (hq : pc + 3 = q) (hf : fl (mO M) k = some (ci, f, n)) (hy : ∃ t, fTT ci f = .array t) (hw : (tTT ci f).2.2.2 = false ∨ (n = false ∧ (mY M).name = "<init>" ∧ nmC ci = nmC (mO M))) : ∀ ⦃d : Nat⦄ ⦃u : Nat × Nat⦄ ⦃ls : qL⦄ ⦃st : List Value⦄ ⦃h : qH⦄ ⦃Q : Option (Option Value) → qH → Prop⦄ ⦃a : Nat⦄ ⦃x : Nat⦄ (_ : (kd a).1 = ci), WP d M u pc ls (.ref x :: .ref a :: st) h Q = WP d M u q ls st (wR h a (va_up (hR h a) f (some x))) Q := by
  intros
  subst hq
  rename_i hk
  refine WP_go ?_
  rw [stp_of hd rfl]
  simp only [stI, hf, if_pos (And.intro hk hw)]
  obtain ⟨t, hy⟩ := hy
  rw [hy]
  rfl
theorem W_iald {M : qM} {pc q : Nat} (hd : decode (mB M) pc = .ok (.iaload, 1)) (hq : pc + 1 = q) : ∀ ⦃d : Nat⦄ ⦃u : Nat × Nat⦄ ⦃ls : qL⦄ ⦃st : List Value⦄ ⦃h : qH⦄ ⦃Q : Option (Option Value) → qH → Prop⦄ ⦃a : Nat⦄ ⦃i : Int32⦄ (_ : (kd a).1 = 11), WP d M u pc ls (.int i :: .ref a :: st) h Q = (vp_in i (kd a).2 ∧ WP d M u q ls (.int (hI h a i.toNatClampNeg) :: st) h Q) := by
  intro d u ls st h Q a i hk
  subst hq
  apply propext
  by_cases g : vpB i (kd a).2 = true
  · rw [WP_go (by rw [stp_of hd rfl]; exact if_pos ⟨hk, g⟩)]
    exact ⟨fun w => ⟨vpB_in g, w⟩, fun w => w.2⟩
  · rw [WP_stuck (by rw [stp_of hd rfl]; exact if_neg (fun z => g z.2))]
    exact ⟨False.elim, fun w => g (decide_eq_true w.1)⟩
theorem W_bald {M : qM} {pc q : Nat} (hd : decode (mB M) pc = .ok (.baload, 1)) (hq : pc + 1 = q) : ∀ ⦃d : Nat⦄ ⦃u : Nat × Nat⦄ ⦃ls : qL⦄ ⦃st : List Value⦄ ⦃h : qH⦄ ⦃Q : Option (Option Value) → qH → Prop⦄ ⦃a : Nat⦄ ⦃i : Int32⦄ (_ : (kd a).1 = 10), WP d M u pc ls (.int i :: .ref a :: st) h Q = (vp_in i (kd a).2 ∧ WP d M u q ls (.int (hI h a i.toNatClampNeg) :: st) h Q) := by
  intro d u ls st h Q a i hk
  subst hq
  apply propext
  by_cases g : vpB i (kd a).2 = true
  · rw [WP_go (by rw [stp_of hd rfl]; exact if_pos ⟨hk, g⟩)]
    exact ⟨fun w => ⟨vpB_in g, w⟩, fun w => w.2⟩
  · rw [WP_stuck (by rw [stp_of hd rfl]; exact if_neg (fun z => g z.2))]
    exact ⟨False.elim, fun w => g (decide_eq_true w.1)⟩
theorem W_lald {M : qM} {pc q : Nat} (hd : decode (mB M) pc = .ok (.laload, 1)) (hq : pc + 1 = q) : ∀ ⦃d : Nat⦄ ⦃u : Nat × Nat⦄ ⦃ls : qL⦄ ⦃st : List Value⦄ ⦃h : qH⦄ ⦃Q : Option (Option Value) → qH → Prop⦄ ⦃a : Nat⦄ ⦃i : Int32⦄ (_ : (kd a).1 = 12), WP d M u pc ls (.int i :: .ref a :: st) h Q = (vp_in i (kd a).2 ∧ WP d M u q ls (.long (hJ h a i.toNatClampNeg) :: st) h Q) := by
  intro d u ls st h Q a i hk
  subst hq
  apply propext
  by_cases g : vpB i (kd a).2 = true
  · rw [WP_go (by rw [stp_of hd rfl]; exact if_pos ⟨hk, g⟩)]
    exact ⟨fun w => ⟨vpB_in g, w⟩, fun w => w.2⟩
  · rw [WP_stuck (by rw [stp_of hd rfl]; exact if_neg (fun z => g z.2))]
    exact ⟨False.elim, fun w => g (decide_eq_true w.1)⟩
theorem W_iast {M : qM} {pc q : Nat} (hd : decode (mB M) pc = .ok (.iastore, 1)) (hq : pc + 1 = q) : ∀ ⦃d : Nat⦄ ⦃u : Nat × Nat⦄ ⦃ls : qL⦄ ⦃st : List Value⦄ ⦃h : qH⦄ ⦃Q : Option (Option Value) → qH → Prop⦄ ⦃a : Nat⦄ ⦃i : Int32⦄ ⦃x : Int32⦄ (_ : (kd a).1 = 11), WP d M u pc ls (.int x :: .int i :: .ref a :: st) h Q = (vp_in i (kd a).2 ∧ WP d M u q ls st (wI h a (upd (hI h a) i.toNatClampNeg x)) Q) := by
  intro d u ls st h Q a i x hk
  subst hq
  apply propext
  by_cases g : vpB i (kd a).2 = true
  · rw [WP_go (by rw [stp_of hd rfl]; exact if_pos ⟨hk, g⟩)]
    exact ⟨fun w => ⟨vpB_in g, w⟩, fun w => w.2⟩
  · rw [WP_stuck (by rw [stp_of hd rfl]; exact if_neg (fun z => g z.2))]
    exact ⟨False.elim, fun w => g (decide_eq_true w.1)⟩
theorem W_bast {M : qM} {pc q : Nat} (hd : decode (mB M) pc = .ok (.bastore, 1)) (hq : pc + 1 = q) : ∀ ⦃d : Nat⦄ ⦃u : Nat × Nat⦄ ⦃ls : qL⦄ ⦃st : List Value⦄ ⦃h : qH⦄ ⦃Q : Option (Option Value) → qH → Prop⦄ ⦃a : Nat⦄ ⦃i : Int32⦄ ⦃x : Int32⦄ (_ : (kd a).1 = 10), WP d M u pc ls (.int x :: .int i :: .ref a :: st) h Q = (vp_in i (kd a).2 ∧ WP d M u q ls st (wI h a (upd (hI h a) i.toNatClampNeg (vp_nar .byte x))) Q) := by
  intro d u ls st h Q a i x hk
  subst hq
  apply propext
  by_cases g : vpB i (kd a).2 = true
  · rw [WP_go (by rw [stp_of hd rfl]; exact if_pos ⟨hk, g⟩)]
    exact ⟨fun w => ⟨vpB_in g, w⟩, fun w => w.2⟩
  · rw [WP_stuck (by rw [stp_of hd rfl]; exact if_neg (fun z => g z.2))]
    exact ⟨False.elim, fun w => g (decide_eq_true w.1)⟩
theorem W_last {M : qM} {pc q : Nat} (hd : decode (mB M) pc = .ok (.lastore, 1)) (hq : pc + 1 = q) : ∀ ⦃d : Nat⦄ ⦃u : Nat × Nat⦄ ⦃ls : qL⦄ ⦃st : List Value⦄ ⦃h : qH⦄ ⦃Q : Option (Option Value) → qH → Prop⦄ ⦃a : Nat⦄ ⦃i : Int32⦄ ⦃x : Int64⦄ (_ : (kd a).1 = 12), WP d M u pc ls (.long x :: .int i :: .ref a :: st) h Q = (vp_in i (kd a).2 ∧ WP d M u q ls st (wJ h a (vp_updL (hJ h a) i.toNatClampNeg x)) Q) := by
  intro d u ls st h Q a i x hk
  subst hq
  apply propext
  by_cases g : vpB i (kd a).2 = true
  · rw [WP_go (by rw [stp_of hd rfl]; exact if_pos ⟨hk, g⟩)]
    exact ⟨fun w => ⟨vpB_in g, w⟩, fun w => w.2⟩
  · rw [WP_stuck (by rw [stp_of hd rfl]; exact if_neg (fun z => g z.2))]
    exact ⟨False.elim, fun w => g (decide_eq_true w.1)⟩
theorem W_alen {M : qM} {pc q : Nat} (hd : decode (mB M) pc = .ok (.arraylength, 1)) (hq : pc + 1 = q) : ∀ ⦃d : Nat⦄ ⦃u : Nat × Nat⦄ ⦃ls : qL⦄ ⦃st : List Value⦄ ⦃h : qH⦄ ⦃Q : Option (Option Value) → qH → Prop⦄ ⦃a : Nat⦄ (_ : 10 ≤ (kd a).1 ∧ (kd a).1 ≤ 12), WP d M u pc ls (.ref a :: st) h Q = WP d M u q ls (.int (Int32.ofNat (kd a).2) :: st) h Q := by
  intros
  rename_i hk
  subst hq
  exact WP_go (by rw [stp_of hd rfl]; exact if_pos hk)
theorem W_invS0 {M N : qM} {pc q k : Nat} (hd : decode (mB M) pc = .ok (.invokestatic k, 3)) (hq : pc + 3 = q) (hl : mlF ml1T (mO M) k = some N) (hA : mA N = 0) (hc : mC N = 0) (hs : mS N = 0) : ∀ ⦃d : Nat⦄ ⦃u : Nat × Nat⦄ ⦃ls : qL⦄ ⦃st : List Value⦄ ⦃h : qH⦄ ⦃Q : Option (Option Value) → qH → Prop⦄ (_ : u.1 ≤ mC M) (_ : u.2 ≤ mS M) (_ : (st.map fun v => v.category).sum ≤ 8) (_ : (([] : List Value).map fun v => v.category).sum ≤ mL N), WP (d + 1) M u pc ls (st) h Q = WM d N [] h (kR fun v h1 => WP (d + 1) M u q ls (v.toList ++ st) h1 Q) := by
  intros
  rename_i g1 g2 g3 g4
  subst hq
  refine WP_call ?_
  rw [stp_of hd rfl]
  simp only [stI, hl, inv2, hA]
  refine (if_pos (by simp)).trans ?_
  simp only [cl2, hc, hs, Nat.add_zero]
  exact if_pos ⟨g1, g2, by simpa using g3, by simpa using g4⟩
theorem W_invS1 {M N : qM} {pc q k : Nat} (hd : decode (mB M) pc = .ok (.invokestatic k, 3)) (hq : pc + 3 = q) (hl : mlF ml1T (mO M) k = some N) (hA : mA N = 1) (hc : mC N = 0) (hs : mS N = 0) : ∀ ⦃d : Nat⦄ ⦃u : Nat × Nat⦄ ⦃ls : qL⦄ ⦃st : List Value⦄ ⦃h : qH⦄ ⦃Q : Option (Option Value) → qH → Prop⦄ ⦃v0 : Value⦄ (_ : u.1 ≤ mC M) (_ : u.2 ≤ mS M) (_ : (st.map fun v => v.category).sum ≤ 8) (_ : (([v0] : List Value).map fun v => v.category).sum ≤ mL N), WP (d + 1) M u pc ls (v0 :: st) h Q = WM d N [v0] h (kR fun v h1 => WP (d + 1) M u q ls (v.toList ++ st) h1 Q) := by
  intros
  rename_i g1 g2 g3 g4
  subst hq
  refine WP_call ?_
  rw [stp_of hd rfl]
  simp only [stI, hl, inv2, hA]
  refine (if_pos (by simp)).trans ?_
  simp only [cl2, hc, hs, Nat.add_zero]
  exact if_pos ⟨g1, g2, by simpa using g3, by simpa using g4⟩
theorem W_invV0 {M N : qM} {pc q k : Nat} (hd : decode (mB M) pc = .ok (.invokevirtual k, 3)) (hq : pc + 3 = q) (hl : mlF ml0T (mO M) k = some N) (hA : mA N = 0) : ∀ ⦃d : Nat⦄ ⦃u : Nat × Nat⦄ ⦃ls : qL⦄ ⦃st : List Value⦄ ⦃h : qH⦄ ⦃Q : Option (Option Value) → qH → Prop⦄ ⦃b : Nat⦄ (_ : (kd b).1 = mO N) (_ : u.1 + mC N ≤ mC M) (_ : u.2 + mS N ≤ mS M) (_ : (st.map fun v => v.category).sum ≤ 8) (_ : (([.ref b] : List Value).map fun v => v.category).sum ≤ mL N), WP (d + 1) M u pc ls (.ref b :: st) h Q = WM d N [.ref b] h (kR fun v h1 => WP (d + 1) M (u.1 + mC N, u.2 + mS N) q ls (v.toList ++ st) h1 Q) := by
  intros
  rename_i g0 g1 g2 g3 g4
  subst hq
  refine WP_call ?_
  rw [stp_of hd rfl]
  simp only [stI, hl, hA]
  refine (if_pos (by simp [rcv, g0])).trans ?_
  simp only [inv2]
  refine (if_pos (by simp)).trans ?_
  simp only [cl2]
  exact if_pos ⟨g1, g2, by simpa using g3, by simpa using g4⟩
theorem W_invI0 {M N : qM} {pc q k : Nat} (hd : decode (mB M) pc = .ok (.invokespecial k, 3)) (hq : pc + 3 = q) (hl : mlF ml2T (mO M) k = some N) (hA : mA N = 0) : ∀ ⦃d : Nat⦄ ⦃u : Nat × Nat⦄ ⦃ls : qL⦄ ⦃st : List Value⦄ ⦃h : qH⦄ ⦃Q : Option (Option Value) → qH → Prop⦄ ⦃b : Nat⦄ (_ : (kd b).1 = mO N) (_ : u.1 + mC N ≤ mC M) (_ : u.2 + mS N ≤ mS M) (_ : (st.map fun v => v.category).sum ≤ 8) (_ : (([.ref b] : List Value).map fun v => v.category).sum ≤ mL N), WP (d + 1) M u pc ls (.ref b :: st) h Q = WM d N [.ref b] h (kR fun v h1 => WP (d + 1) M (u.1 + mC N, u.2 + mS N) q ls (v.toList ++ st) h1 Q) := by
  intros
  rename_i g0 g1 g2 g3 g4
  subst hq
  refine WP_call ?_
  rw [stp_of hd rfl]
  simp only [stI, hl, hA]
  refine (if_pos (by simp [rcv, g0])).trans ?_
  simp only [inv2]
  refine (if_pos (by simp)).trans ?_
  simp only [cl2]
  exact if_pos ⟨g1, g2, by simpa using g3, by simpa using g4⟩
theorem W_invN0 {M N : qM} {pc q k : Nat} (hd : decode (mB M) pc = .ok (.invokespecial k, 3)) (hq : pc + 3 = q) (hl : mlF ml3T (mO M) k = some N) (hl2 : mlF ml2T (mO M) k = none) (hA : mA N = 0) : ∀ ⦃d : Nat⦄ ⦃u : Nat × Nat⦄ ⦃ls : qL⦄ ⦃st : List Value⦄ ⦃h : qH⦄ ⦃Q : Option (Option Value) → qH → Prop⦄ ⦃b : Nat⦄ (_ : (kd b).1 = mO N) (_ : u.1 + mC N ≤ mC M) (_ : u.2 + mS N ≤ mS M) (_ : (st.map fun v => v.category).sum ≤ 8) (_ : (([.ref b] : List Value).map fun v => v.category).sum ≤ mL N), WP (d + 1) M u pc ls (.ref b :: st) h Q = WM d N [.ref b] h (kR fun v h1 => WP (d + 1) M (u.1 + mC N, u.2 + mS N) q ls (v.toList ++ st) h1 Q) := by
  intros
  rename_i g0 g1 g2 g3 g4
  subst hq
  refine WP_call ?_
  rw [stp_of hd rfl]
  simp only [stI, hl, hl2, hA]
  refine (if_pos (by simp [rcv, g0])).trans ?_
  simp only [inv2]
  refine (if_pos (by simp)).trans ?_
  simp only [cl2]
  exact if_pos ⟨g1, g2, by simpa using g3, by simpa using g4⟩
theorem W_invS2 {M N : qM} {pc q k : Nat} (hd : decode (mB M) pc = .ok (.invokestatic k, 3)) (hq : pc + 3 = q) (hl : mlF ml1T (mO M) k = some N) (hA : mA N = 2) (hc : mC N = 0) (hs : mS N = 0) : ∀ ⦃d : Nat⦄ ⦃u : Nat × Nat⦄ ⦃ls : qL⦄ ⦃st : List Value⦄ ⦃h : qH⦄ ⦃Q : Option (Option Value) → qH → Prop⦄ ⦃v0 v1 : Value⦄ (_ : u.1 ≤ mC M) (_ : u.2 ≤ mS M) (_ : (st.map fun v => v.category).sum ≤ 8) (_ : (([v0, v1] : List Value).map fun v => v.category).sum ≤ mL N), WP (d + 1) M u pc ls (v1 :: v0 :: st) h Q = WM d N [v0, v1] h (kR fun v h1 => WP (d + 1) M u q ls (v.toList ++ st) h1 Q) := by
  intros
  rename_i g1 g2 g3 g4
  subst hq
  refine WP_call ?_
  rw [stp_of hd rfl]
  simp only [stI, hl, inv2, hA]
  refine (if_pos (by simp)).trans ?_
  simp only [cl2, hc, hs, Nat.add_zero]
  exact if_pos ⟨g1, g2, by simpa using g3, by simpa using g4⟩
theorem W_invV1 {M N : qM} {pc q k : Nat} (hd : decode (mB M) pc = .ok (.invokevirtual k, 3)) (hq : pc + 3 = q) (hl : mlF ml0T (mO M) k = some N) (hA : mA N = 1) : ∀ ⦃d : Nat⦄ ⦃u : Nat × Nat⦄ ⦃ls : qL⦄ ⦃st : List Value⦄ ⦃h : qH⦄ ⦃Q : Option (Option Value) → qH → Prop⦄ ⦃b : Nat⦄ ⦃v1 : Value⦄ (_ : (kd b).1 = mO N) (_ : u.1 + mC N ≤ mC M) (_ : u.2 + mS N ≤ mS M) (_ : (st.map fun v => v.category).sum ≤ 8) (_ : (([.ref b, v1] : List Value).map fun v => v.category).sum ≤ mL N), WP (d + 1) M u pc ls (v1 :: .ref b :: st) h Q = WM d N [.ref b, v1] h (kR fun v h1 => WP (d + 1) M (u.1 + mC N, u.2 + mS N) q ls (v.toList ++ st) h1 Q) := by
  intros
  rename_i g0 g1 g2 g3 g4
  subst hq
  refine WP_call ?_
  rw [stp_of hd rfl]
  simp only [stI, hl, hA]
  refine (if_pos (by simp [rcv, g0])).trans ?_
  simp only [inv2]
  refine (if_pos (by simp)).trans ?_
  simp only [cl2]
  exact if_pos ⟨g1, g2, by simpa using g3, by simpa using g4⟩
theorem W_invI1 {M N : qM} {pc q k : Nat} (hd : decode (mB M) pc = .ok (.invokespecial k, 3)) (hq : pc + 3 = q) (hl : mlF ml2T (mO M) k = some N) (hA : mA N = 1) : ∀ ⦃d : Nat⦄ ⦃u : Nat × Nat⦄ ⦃ls : qL⦄ ⦃st : List Value⦄ ⦃h : qH⦄ ⦃Q : Option (Option Value) → qH → Prop⦄ ⦃b : Nat⦄ ⦃v1 : Value⦄ (_ : (kd b).1 = mO N) (_ : u.1 + mC N ≤ mC M) (_ : u.2 + mS N ≤ mS M) (_ : (st.map fun v => v.category).sum ≤ 8) (_ : (([.ref b, v1] : List Value).map fun v => v.category).sum ≤ mL N), WP (d + 1) M u pc ls (v1 :: .ref b :: st) h Q = WM d N [.ref b, v1] h (kR fun v h1 => WP (d + 1) M (u.1 + mC N, u.2 + mS N) q ls (v.toList ++ st) h1 Q) := by
  intros
  rename_i g0 g1 g2 g3 g4
  subst hq
  refine WP_call ?_
  rw [stp_of hd rfl]
  simp only [stI, hl, hA]
  refine (if_pos (by simp [rcv, g0])).trans ?_
  simp only [inv2]
  refine (if_pos (by simp)).trans ?_
  simp only [cl2]
  exact if_pos ⟨g1, g2, by simpa using g3, by simpa using g4⟩
theorem W_invN1 {M N : qM} {pc q k : Nat} (hd : decode (mB M) pc = .ok (.invokespecial k, 3)) (hq : pc + 3 = q) (hl : mlF ml3T (mO M) k = some N) (hl2 : mlF ml2T (mO M) k = none) (hA : mA N = 1) : ∀ ⦃d : Nat⦄ ⦃u : Nat × Nat⦄ ⦃ls : qL⦄ ⦃st : List Value⦄ ⦃h : qH⦄ ⦃Q : Option (Option Value) → qH → Prop⦄ ⦃b : Nat⦄ ⦃v1 : Value⦄ (_ : (kd b).1 = mO N) (_ : u.1 + mC N ≤ mC M) (_ : u.2 + mS N ≤ mS M) (_ : (st.map fun v => v.category).sum ≤ 8) (_ : (([.ref b, v1] : List Value).map fun v => v.category).sum ≤ mL N), WP (d + 1) M u pc ls (v1 :: .ref b :: st) h Q = WM d N [.ref b, v1] h (kR fun v h1 => WP (d + 1) M (u.1 + mC N, u.2 + mS N) q ls (v.toList ++ st) h1 Q) := by
  intros
  rename_i g0 g1 g2 g3 g4
  subst hq
  refine WP_call ?_
  rw [stp_of hd rfl]
  simp only [stI, hl, hl2, hA]
  refine (if_pos (by simp [rcv, g0])).trans ?_
  simp only [inv2]
  refine (if_pos (by simp)).trans ?_
  simp only [cl2]
  exact if_pos ⟨g1, g2, by simpa using g3, by simpa using g4⟩
theorem W_invS3 {M N : qM} {pc q k : Nat} (hd : decode (mB M) pc = .ok (.invokestatic k, 3)) (hq : pc + 3 = q) (hl : mlF ml1T (mO M) k = some N) (hA : mA N = 3) (hc : mC N = 0) (hs : mS N = 0) : ∀ ⦃d : Nat⦄ ⦃u : Nat × Nat⦄ ⦃ls : qL⦄ ⦃st : List Value⦄ ⦃h : qH⦄ ⦃Q : Option (Option Value) → qH → Prop⦄ ⦃v0 v1 v2 : Value⦄ (_ : u.1 ≤ mC M) (_ : u.2 ≤ mS M) (_ : (st.map fun v => v.category).sum ≤ 8) (_ : (([v0, v1, v2] : List Value).map fun v => v.category).sum ≤ mL N), WP (d + 1) M u pc ls (v2 :: v1 :: v0 :: st) h Q = WM d N [v0, v1, v2] h (kR fun v h1 => WP (d + 1) M u q ls (v.toList ++ st) h1 Q) := by
  intros
  rename_i g1 g2 g3 g4
  subst hq
  refine WP_call ?_
  rw [stp_of hd rfl]
  simp only [stI, hl, inv2, hA]
  refine (if_pos (by simp)).trans ?_
  simp only [cl2, hc, hs, Nat.add_zero]
  exact if_pos ⟨g1, g2, by simpa using g3, by simpa using g4⟩
theorem W_invV2 {M N : qM} {pc q k : Nat} (hd : decode (mB M) pc = .ok (.invokevirtual k, 3)) (hq : pc + 3 = q) (hl : mlF ml0T (mO M) k = some N) (hA : mA N = 2) : ∀ ⦃d : Nat⦄ ⦃u : Nat × Nat⦄ ⦃ls : qL⦄ ⦃st : List Value⦄ ⦃h : qH⦄ ⦃Q : Option (Option Value) → qH → Prop⦄ ⦃b : Nat⦄ ⦃v1 v2 : Value⦄ (_ : (kd b).1 = mO N) (_ : u.1 + mC N ≤ mC M) (_ : u.2 + mS N ≤ mS M) (_ : (st.map fun v => v.category).sum ≤ 8) (_ : (([.ref b, v1, v2] : List Value).map fun v => v.category).sum ≤ mL N), WP (d + 1) M u pc ls (v2 :: v1 :: .ref b :: st) h Q = WM d N [.ref b, v1, v2] h (kR fun v h1 => WP (d + 1) M (u.1 + mC N, u.2 + mS N) q ls (v.toList ++ st) h1 Q) := by
  intros
  rename_i g0 g1 g2 g3 g4
  subst hq
  refine WP_call ?_
  rw [stp_of hd rfl]
  simp only [stI, hl, hA]
  refine (if_pos (by simp [rcv, g0])).trans ?_
  simp only [inv2]
  refine (if_pos (by simp)).trans ?_
  simp only [cl2]
  exact if_pos ⟨g1, g2, by simpa using g3, by simpa using g4⟩
theorem W_invI2 {M N : qM} {pc q k : Nat} (hd : decode (mB M) pc = .ok (.invokespecial k, 3)) (hq : pc + 3 = q) (hl : mlF ml2T (mO M) k = some N) (hA : mA N = 2) : ∀ ⦃d : Nat⦄ ⦃u : Nat × Nat⦄ ⦃ls : qL⦄ ⦃st : List Value⦄ ⦃h : qH⦄ ⦃Q : Option (Option Value) → qH → Prop⦄ ⦃b : Nat⦄ ⦃v1 v2 : Value⦄ (_ : (kd b).1 = mO N) (_ : u.1 + mC N ≤ mC M) (_ : u.2 + mS N ≤ mS M) (_ : (st.map fun v => v.category).sum ≤ 8) (_ : (([.ref b, v1, v2] : List Value).map fun v => v.category).sum ≤ mL N), WP (d + 1) M u pc ls (v2 :: v1 :: .ref b :: st) h Q = WM d N [.ref b, v1, v2] h (kR fun v h1 => WP (d + 1) M (u.1 + mC N, u.2 + mS N) q ls (v.toList ++ st) h1 Q) := by
  intros
  rename_i g0 g1 g2 g3 g4
  subst hq
  refine WP_call ?_
  rw [stp_of hd rfl]
  simp only [stI, hl, hA]
  refine (if_pos (by simp [rcv, g0])).trans ?_
  simp only [inv2]
  refine (if_pos (by simp)).trans ?_
  simp only [cl2]
  exact if_pos ⟨g1, g2, by simpa using g3, by simpa using g4⟩
theorem W_invN2 {M N : qM} {pc q k : Nat} (hd : decode (mB M) pc = .ok (.invokespecial k, 3)) (hq : pc + 3 = q) (hl : mlF ml3T (mO M) k = some N) (hl2 : mlF ml2T (mO M) k = none) (hA : mA N = 2) : ∀ ⦃d : Nat⦄ ⦃u : Nat × Nat⦄ ⦃ls : qL⦄ ⦃st : List Value⦄ ⦃h : qH⦄ ⦃Q : Option (Option Value) → qH → Prop⦄ ⦃b : Nat⦄ ⦃v1 v2 : Value⦄ (_ : (kd b).1 = mO N) (_ : u.1 + mC N ≤ mC M) (_ : u.2 + mS N ≤ mS M) (_ : (st.map fun v => v.category).sum ≤ 8) (_ : (([.ref b, v1, v2] : List Value).map fun v => v.category).sum ≤ mL N), WP (d + 1) M u pc ls (v2 :: v1 :: .ref b :: st) h Q = WM d N [.ref b, v1, v2] h (kR fun v h1 => WP (d + 1) M (u.1 + mC N, u.2 + mS N) q ls (v.toList ++ st) h1 Q) := by
  intros
  rename_i g0 g1 g2 g3 g4
  subst hq
  refine WP_call ?_
  rw [stp_of hd rfl]
  simp only [stI, hl, hl2, hA]
  refine (if_pos (by simp [rcv, g0])).trans ?_
  simp only [inv2]
  refine (if_pos (by simp)).trans ?_
  simp only [cl2]
  exact if_pos ⟨g1, g2, by simpa using g3, by simpa using g4⟩
theorem W_invS4 {M N : qM} {pc q k : Nat} (hd : decode (mB M) pc = .ok (.invokestatic k, 3)) (hq : pc + 3 = q) (hl : mlF ml1T (mO M) k = some N) (hA : mA N = 4) (hc : mC N = 0) (hs : mS N = 0) : ∀ ⦃d : Nat⦄ ⦃u : Nat × Nat⦄ ⦃ls : qL⦄ ⦃st : List Value⦄ ⦃h : qH⦄ ⦃Q : Option (Option Value) → qH → Prop⦄ ⦃v0 v1 v2 v3 : Value⦄ (_ : u.1 ≤ mC M) (_ : u.2 ≤ mS M) (_ : (st.map fun v => v.category).sum ≤ 8) (_ : (([v0, v1, v2, v3] : List Value).map fun v => v.category).sum ≤ mL N), WP (d + 1) M u pc ls (v3 :: v2 :: v1 :: v0 :: st) h Q = WM d N [v0, v1, v2, v3] h (kR fun v h1 => WP (d + 1) M u q ls (v.toList ++ st) h1 Q) := by
  intros
  rename_i g1 g2 g3 g4
  subst hq
  refine WP_call ?_
  rw [stp_of hd rfl]
  simp only [stI, hl, inv2, hA]
  refine (if_pos (by simp)).trans ?_
  simp only [cl2, hc, hs, Nat.add_zero]
  exact if_pos ⟨g1, g2, by simpa using g3, by simpa using g4⟩
theorem W_invV3 {M N : qM} {pc q k : Nat} (hd : decode (mB M) pc = .ok (.invokevirtual k, 3)) (hq : pc + 3 = q) (hl : mlF ml0T (mO M) k = some N) (hA : mA N = 3) : ∀ ⦃d : Nat⦄ ⦃u : Nat × Nat⦄ ⦃ls : qL⦄ ⦃st : List Value⦄ ⦃h : qH⦄ ⦃Q : Option (Option Value) → qH → Prop⦄ ⦃b : Nat⦄ ⦃v1 v2 v3 : Value⦄ (_ : (kd b).1 = mO N) (_ : u.1 + mC N ≤ mC M) (_ : u.2 + mS N ≤ mS M) (_ : (st.map fun v => v.category).sum ≤ 8) (_ : (([.ref b, v1, v2, v3] : List Value).map fun v => v.category).sum ≤ mL N), WP (d + 1) M u pc ls (v3 :: v2 :: v1 :: .ref b :: st) h Q = WM d N [.ref b, v1, v2, v3] h (kR fun v h1 => WP (d + 1) M (u.1 + mC N, u.2 + mS N) q ls (v.toList ++ st) h1 Q) := by
  intros
  rename_i g0 g1 g2 g3 g4
  subst hq
  refine WP_call ?_
  rw [stp_of hd rfl]
  simp only [stI, hl, hA]
  refine (if_pos (by simp [rcv, g0])).trans ?_
  simp only [inv2]
  refine (if_pos (by simp)).trans ?_
  simp only [cl2]
  exact if_pos ⟨g1, g2, by simpa using g3, by simpa using g4⟩
theorem W_invI3 {M N : qM} {pc q k : Nat} (hd : decode (mB M) pc = .ok (.invokespecial k, 3)) (hq : pc + 3 = q) (hl : mlF ml2T (mO M) k = some N) (hA : mA N = 3) : ∀ ⦃d : Nat⦄ ⦃u : Nat × Nat⦄ ⦃ls : qL⦄ ⦃st : List Value⦄ ⦃h : qH⦄ ⦃Q : Option (Option Value) → qH → Prop⦄ ⦃b : Nat⦄ ⦃v1 v2 v3 : Value⦄ (_ : (kd b).1 = mO N) (_ : u.1 + mC N ≤ mC M) (_ : u.2 + mS N ≤ mS M) (_ : (st.map fun v => v.category).sum ≤ 8) (_ : (([.ref b, v1, v2, v3] : List Value).map fun v => v.category).sum ≤ mL N), WP (d + 1) M u pc ls (v3 :: v2 :: v1 :: .ref b :: st) h Q = WM d N [.ref b, v1, v2, v3] h (kR fun v h1 => WP (d + 1) M (u.1 + mC N, u.2 + mS N) q ls (v.toList ++ st) h1 Q) := by
  intros
  rename_i g0 g1 g2 g3 g4
  subst hq
  refine WP_call ?_
  rw [stp_of hd rfl]
  simp only [stI, hl, hA]
  refine (if_pos (by simp [rcv, g0])).trans ?_
  simp only [inv2]
  refine (if_pos (by simp)).trans ?_
  simp only [cl2]
  exact if_pos ⟨g1, g2, by simpa using g3, by simpa using g4⟩
theorem W_invN3 {M N : qM} {pc q k : Nat} (hd : decode (mB M) pc = .ok (.invokespecial k, 3)) (hq : pc + 3 = q) (hl : mlF ml3T (mO M) k = some N) (hl2 : mlF ml2T (mO M) k = none) (hA : mA N = 3) : ∀ ⦃d : Nat⦄ ⦃u : Nat × Nat⦄ ⦃ls : qL⦄ ⦃st : List Value⦄ ⦃h : qH⦄ ⦃Q : Option (Option Value) → qH → Prop⦄ ⦃b : Nat⦄ ⦃v1 v2 v3 : Value⦄ (_ : (kd b).1 = mO N) (_ : u.1 + mC N ≤ mC M) (_ : u.2 + mS N ≤ mS M) (_ : (st.map fun v => v.category).sum ≤ 8) (_ : (([.ref b, v1, v2, v3] : List Value).map fun v => v.category).sum ≤ mL N), WP (d + 1) M u pc ls (v3 :: v2 :: v1 :: .ref b :: st) h Q = WM d N [.ref b, v1, v2, v3] h (kR fun v h1 => WP (d + 1) M (u.1 + mC N, u.2 + mS N) q ls (v.toList ++ st) h1 Q) := by
  intros
  rename_i g0 g1 g2 g3 g4
  subst hq
  refine WP_call ?_
  rw [stp_of hd rfl]
  simp only [stI, hl, hl2, hA]
  refine (if_pos (by simp [rcv, g0])).trans ?_
  simp only [inv2]
  refine (if_pos (by simp)).trans ?_
  simp only [cl2]
  exact if_pos ⟨g1, g2, by simpa using g3, by simpa using g4⟩
theorem W_invS5 {M N : qM} {pc q k : Nat} (hd : decode (mB M) pc = .ok (.invokestatic k, 3)) (hq : pc + 3 = q) (hl : mlF ml1T (mO M) k = some N) (hA : mA N = 5) (hc : mC N = 0) (hs : mS N = 0) : ∀ ⦃d : Nat⦄ ⦃u : Nat × Nat⦄ ⦃ls : qL⦄ ⦃st : List Value⦄ ⦃h : qH⦄ ⦃Q : Option (Option Value) → qH → Prop⦄ ⦃v0 v1 v2 v3 v4 : Value⦄ (_ : u.1 ≤ mC M) (_ : u.2 ≤ mS M) (_ : (st.map fun v => v.category).sum ≤ 8) (_ : (([v0, v1, v2, v3, v4] : List Value).map fun v => v.category).sum ≤ mL N), WP (d + 1) M u pc ls (v4 :: v3 :: v2 :: v1 :: v0 :: st) h Q = WM d N [v0, v1, v2, v3, v4] h (kR fun v h1 => WP (d + 1) M u q ls (v.toList ++ st) h1 Q) := by
  intros
  rename_i g1 g2 g3 g4
  subst hq
  refine WP_call ?_
  rw [stp_of hd rfl]
  simp only [stI, hl, inv2, hA]
  refine (if_pos (by simp)).trans ?_
  simp only [cl2, hc, hs, Nat.add_zero]
  exact if_pos ⟨g1, g2, by simpa using g3, by simpa using g4⟩
theorem W_invV4 {M N : qM} {pc q k : Nat} (hd : decode (mB M) pc = .ok (.invokevirtual k, 3)) (hq : pc + 3 = q) (hl : mlF ml0T (mO M) k = some N) (hA : mA N = 4) : ∀ ⦃d : Nat⦄ ⦃u : Nat × Nat⦄ ⦃ls : qL⦄ ⦃st : List Value⦄ ⦃h : qH⦄ ⦃Q : Option (Option Value) → qH → Prop⦄ ⦃b : Nat⦄ ⦃v1 v2 v3 v4 : Value⦄ (_ : (kd b).1 = mO N) (_ : u.1 + mC N ≤ mC M) (_ : u.2 + mS N ≤ mS M) (_ : (st.map fun v => v.category).sum ≤ 8) (_ : (([.ref b, v1, v2, v3, v4] : List Value).map fun v => v.category).sum ≤ mL N), WP (d + 1) M u pc ls (v4 :: v3 :: v2 :: v1 :: .ref b :: st) h Q = WM d N [.ref b, v1, v2, v3, v4] h (kR fun v h1 => WP (d + 1) M (u.1 + mC N, u.2 + mS N) q ls (v.toList ++ st) h1 Q) := by
  intros
  rename_i g0 g1 g2 g3 g4
  subst hq
  refine WP_call ?_
  rw [stp_of hd rfl]
  simp only [stI, hl, hA]
  refine (if_pos (by simp [rcv, g0])).trans ?_
  simp only [inv2]
  refine (if_pos (by simp)).trans ?_
  simp only [cl2]
  exact if_pos ⟨g1, g2, by simpa using g3, by simpa using g4⟩
theorem W_invS6 {M N : qM} {pc q k : Nat} (hd : decode (mB M) pc = .ok (.invokestatic k, 3)) (hq : pc + 3 = q) (hl : mlF ml1T (mO M) k = some N) (hA : mA N = 6) (hc : mC N = 0) (hs : mS N = 0) : ∀ ⦃d : Nat⦄ ⦃u : Nat × Nat⦄ ⦃ls : qL⦄ ⦃st : List Value⦄ ⦃h : qH⦄ ⦃Q : Option (Option Value) → qH → Prop⦄ ⦃v0 v1 v2 v3 v4 v5 : Value⦄ (_ : u.1 ≤ mC M) (_ : u.2 ≤ mS M) (_ : (st.map fun v => v.category).sum ≤ 8) (_ : (([v0, v1, v2, v3, v4, v5] : List Value).map fun v => v.category).sum ≤ mL N), WP (d + 1) M u pc ls (v5 :: v4 :: v3 :: v2 :: v1 :: v0 :: st) h Q = WM d N [v0, v1, v2, v3, v4, v5] h (kR fun v h1 => WP (d + 1) M u q ls (v.toList ++ st) h1 Q) := by
  intros
  rename_i g1 g2 g3 g4
  subst hq
  refine WP_call ?_
  rw [stp_of hd rfl]
  simp only [stI, hl, inv2, hA]
  refine (if_pos (by simp)).trans ?_
  simp only [cl2, hc, hs, Nat.add_zero]
  exact if_pos ⟨g1, g2, by simpa using g3, by simpa using g4⟩
theorem W_invV5 {M N : qM} {pc q k : Nat} (hd : decode (mB M) pc = .ok (.invokevirtual k, 3)) (hq : pc + 3 = q) (hl : mlF ml0T (mO M) k = some N) (hA : mA N = 5) : ∀ ⦃d : Nat⦄ ⦃u : Nat × Nat⦄ ⦃ls : qL⦄ ⦃st : List Value⦄ ⦃h : qH⦄ ⦃Q : Option (Option Value) → qH → Prop⦄ ⦃b : Nat⦄ ⦃v1 v2 v3 v4 v5 : Value⦄ (_ : (kd b).1 = mO N) (_ : u.1 + mC N ≤ mC M) (_ : u.2 + mS N ≤ mS M) (_ : (st.map fun v => v.category).sum ≤ 8) (_ : (([.ref b, v1, v2, v3, v4, v5] : List Value).map fun v => v.category).sum ≤ mL N), WP (d + 1) M u pc ls (v5 :: v4 :: v3 :: v2 :: v1 :: .ref b :: st) h Q = WM d N [.ref b, v1, v2, v3, v4, v5] h (kR fun v h1 => WP (d + 1) M (u.1 + mC N, u.2 + mS N) q ls (v.toList ++ st) h1 Q) := by
  intros
  rename_i g0 g1 g2 g3 g4
  subst hq
  refine WP_call ?_
  rw [stp_of hd rfl]
  simp only [stI, hl, hA]
  refine (if_pos (by simp [rcv, g0])).trans ?_
  simp only [inv2]
  refine (if_pos (by simp)).trans ?_
  simp only [cl2]
  exact if_pos ⟨g1, g2, by simpa using g3, by simpa using g4⟩
theorem W_invT0 {M N : qM} {pc q k : Nat} (hd : decode (mB M) pc = .ok (.invokevirtual k, 3)) (hq : pc + 3 = q) (hl : mlF ml0T (mO M) k = some N) (hA : mA N = 0) (hc : mC N = 0) (hs : mS N = 0) (hO : mO N = 32) : ∀ ⦃d : Nat⦄ ⦃u : Nat × Nat⦄ ⦃ls : qL⦄ ⦃st : List Value⦄ ⦃h : qH⦄ ⦃Q : Option (Option Value) → qH → Prop⦄ ⦃j : Nat⦄ (_ : j < 21) (_ : u.1 ≤ mC M) (_ : u.2 ≤ mS M) (_ : (st.map fun v => v.category).sum ≤ 8) (_ : (([.retAddr j] : List Value).map fun v => v.category).sum ≤ mL N), WP (d + 1) M u pc ls (.retAddr j :: st) h Q = WM d N [.retAddr j] h (kR fun v h1 => WP (d + 1) M u q ls (v.toList ++ st) h1 Q) := by
  intros
  rename_i g0 g1 g2 g3 g4
  subst hq
  refine WP_call ?_
  rw [stp_of hd rfl]
  simp only [stI, hl, hA]
  refine (if_pos (by simp [rcv, g0, hO])).trans ?_
  simp only [inv2]
  refine (if_pos (by simp)).trans ?_
  simp only [cl2, hc, hs, Nat.add_zero]
  exact if_pos ⟨g1, g2, by simpa using g3, by simpa using g4⟩
theorem W_invT1 {M N : qM} {pc q k : Nat} (hd : decode (mB M) pc = .ok (.invokevirtual k, 3)) (hq : pc + 3 = q) (hl : mlF ml0T (mO M) k = some N) (hA : mA N = 1) (hc : mC N = 0) (hs : mS N = 0) (hO : mO N = 32) : ∀ ⦃d : Nat⦄ ⦃u : Nat × Nat⦄ ⦃ls : qL⦄ ⦃st : List Value⦄ ⦃h : qH⦄ ⦃Q : Option (Option Value) → qH → Prop⦄ ⦃j : Nat⦄ ⦃v1 : Value⦄ (_ : j < 21) (_ : u.1 ≤ mC M) (_ : u.2 ≤ mS M) (_ : (st.map fun v => v.category).sum ≤ 8) (_ : (([.retAddr j, v1] : List Value).map fun v => v.category).sum ≤ mL N), WP (d + 1) M u pc ls (v1 :: .retAddr j :: st) h Q = WM d N [.retAddr j, v1] h (kR fun v h1 => WP (d + 1) M u q ls (v.toList ++ st) h1 Q) := by
  intros
  rename_i g0 g1 g2 g3 g4
  subst hq
  refine WP_call ?_
  rw [stp_of hd rfl]
  simp only [stI, hl, hA]
  refine (if_pos (by simp [rcv, g0, hO])).trans ?_
  simp only [inv2]
  refine (if_pos (by simp)).trans ?_
  simp only [cl2, hc, hs, Nat.add_zero]
  exact if_pos ⟨g1, g2, by simpa using g3, by simpa using g4⟩
theorem W_max {M N : qM} {pc q k : Nat} (hd : decode (mB M) pc = .ok (.invokestatic k, 3)) (hq : pc + 3 = q) (hl : mlF ml11T (mO M) k = some N) (hl2 : mlF ml1T (mO M) k = none) : ∀ ⦃d : Nat⦄ ⦃u : Nat × Nat⦄ ⦃ls : qL⦄ ⦃st : List Value⦄ ⦃h : qH⦄ ⦃Q : Option (Option Value) → qH → Prop⦄ ⦃x y : Int32⦄ (_ : u.1 ≤ mC M) (_ : u.2 ≤ mS M) (_ : (st.map fun v => v.category).sum ≤ 8), WP d M u pc ls (.int y :: .int x :: st) h Q = WP d M u q ls (.int (mxI x y) :: st) h Q := by
  intros
  rename_i g1 g2 g3
  subst hq
  refine WP_go ?_
  rw [stp_of hd rfl]
  simp only [stI, hl, hl2]
  refine (if_pos ⟨g1, g2, ?_⟩).trans rfl
  have c1 : ∀ z, (Value.int z).category = 1 := fun _ => rfl
  simp only [List.map_cons, List.sum_cons, c1]
  omega
theorem W_min {M N : qM} {pc q k : Nat} (hd : decode (mB M) pc = .ok (.invokestatic k, 3)) (hq : pc + 3 = q) (hl : mlF ml12T (mO M) k = some N) (hl2 : mlF ml1T (mO M) k = none) (hl3 : mlF ml11T (mO M) k = none) : ∀ ⦃d : Nat⦄ ⦃u : Nat × Nat⦄ ⦃ls : qL⦄ ⦃st : List Value⦄ ⦃h : qH⦄ ⦃Q : Option (Option Value) → qH → Prop⦄ ⦃x y : Int32⦄ (_ : u.1 ≤ mC M) (_ : u.2 ≤ mS M) (_ : (st.map fun v => v.category).sum ≤ 8), WP d M u pc ls (.int y :: .int x :: st) h Q = WP d M u q ls (.int (mnI x y) :: st) h Q := by
  intros
  rename_i g1 g2 g3
  subst hq
  refine WP_go ?_
  rw [stp_of hd rfl]
  simp only [stI, hl, hl2, hl3]
  refine (if_pos ⟨g1, g2, ?_⟩).trans rfl
  have c1 : ∀ z, (Value.int z).category = 1 := fun _ => rfl
  simp only [List.map_cons, List.sum_cons, c1]
  omega
theorem W_copy {M N : qM} {pc q k : Nat} (hd : decode (mB M) pc = .ok (.invokestatic k, 3)) (hq : pc + 3 = q) (hl : mlF ml14T (mO M) k = some N) (hl1 : mlF ml1T (mO M) k = none) (hl2 : mlF ml11T (mO M) k = none) (hl3 : mlF ml12T (mO M) k = none) : ∀ ⦃d : Nat⦄ ⦃u : Nat × Nat⦄ ⦃ls : qL⦄ ⦃h : qH⦄ ⦃Q : Option (Option Value) → qH → Prop⦄ ⦃a b : Nat⦄ ⦃n sp dp : Int32⦄ (_ : (kd a).1 = 11) (_ : (kd b).1 = 11) (_ : ¬ sp < 0 ∧ ¬ dp < 0 ∧ ¬ n < 0 ∧ sp.toNatClampNeg + n.toNatClampNeg ≤ (kd b).2 ∧ dp.toNatClampNeg + n.toNatClampNeg ≤ (kd a).2), WP d M u pc ls [.int n, .int dp, .ref a, .int sp, .ref b] h Q = WP d M u q ls [] (wI h a (va_cpy (hI h b) (hI h a) sp.toNatClampNeg dp.toNatClampNeg n.toNatClampNeg)) Q := by
  intros
  rename_i g1 g2 g3
  subst hq
  refine WP_go ?_
  rw [stp_of hd rfl]
  simp only [stI, hl, hl1, hl2, hl3]
  exact if_pos ⟨g1, g2, g3.1, g3.2.1, g3.2.2.1, g3.2.2.2.1, g3.2.2.2.2, trivial⟩
theorem W_objI {M N : qM} {pc q k : Nat} (hd : decode (mB M) pc = .ok (.invokespecial k, 3)) (hq : pc + 3 = q) (hl : mlF ml10T (mO M) k = some N) (hl1 : mlF ml2T (mO M) k = none) (hl2 : mlF ml3T (mO M) k = none) : ∀ ⦃d : Nat⦄ ⦃u : Nat × Nat⦄ ⦃ls : qL⦄ ⦃h : qH⦄ ⦃Q : Option (Option Value) → qH → Prop⦄ ⦃a : Nat⦄, WP d M u pc ls [.ref a] h Q = WP d M u q ls [] h Q := by
  intros
  subst hq
  refine WP_go ?_
  rw [stp_of hd rfl]
  simp only [stI, hl, hl1, hl2]
  exact if_pos trivial
theorem W_new {M : qM} {pc q k ci : Nat} (hd : decode (mB M) pc = .ok (.new k, 3)) (hq : pc + 3 = q) (hl : clF (mO M) k = some ci) (h7 : ¬ (mO M = 7 ∧ k = 282)) : ∀ ⦃d : Nat⦄ ⦃u : Nat × Nat⦄ ⦃ls : qL⦄ ⦃st : List Value⦄ ⦃h : qH⦄ ⦃Q : Option (Option Value) → qH → Prop⦄ (_ : (kd (hN h)).1 = ci) (_ : u.1 + 1 ≤ mC M) (_ : u.2 + nFT ci ≤ mS M), WP d M u pc ls st h Q = WP d M (u.1 + 1, u.2 + nFT ci) q ls (.ref (hN h) :: st) (wN h) Q := by
  intros
  rename_i g1 g2 g3
  subst hq
  refine WP_go ?_
  rw [stp_of hd rfl]
  simp only [stI, hl, if_neg h7]
  exact if_pos ⟨g1, g2, g3⟩
theorem W_throw {M : qM} {pc : Nat} (hd : decode (mB M) pc = .ok (.new 282, 3)) (hO : mO M = 7) : ∀ ⦃d : Nat⦄ ⦃u : Nat × Nat⦄ ⦃ls : qL⦄ ⦃h : qH⦄ ⦃Q : Option (Option Value) → qH → Prop⦄ (_ : u.1 + 1 ≤ mC M) (_ : u.2 + 6 ≤ mS M), WP d M u pc ls [] h Q = Q none h := by
  intros
  rename_i g1 g2
  refine WP_ret ?_
  rw [stp_of hd rfl]
  simp only [stI, hO, and_self, if_true, g1, g2]
theorem W_newa {M : qM} {pc q : Nat} {t : ArrayType} (hd : decode (mB M) pc = .ok (.newarray t, 2)) (hq : pc + 2 = q) : ∀ ⦃d : Nat⦄ ⦃u : Nat × Nat⦄ ⦃ls : qL⦄ ⦃st : List Value⦄ ⦃h : qH⦄ ⦃Q : Option (Option Value) → qH → Prop⦄ ⦃n : Int32⦄ (_ : akd t = some (kd (hN h)).1 ∧ ¬ n < 0 ∧ n.toNatClampNeg = (kd (hN h)).2 ∧ (kd (hN h)).2 ≤ 60000) (_ : u.1 + 1 ≤ mC M) (_ : u.2 + (kd (hN h)).2 ≤ mS M), WP d M u pc ls (.int n :: st) h Q = WP d M (u.1 + 1, u.2 + (kd (hN h)).2) q ls (.ref (hN h) :: st) (wN h) Q := by
  intros
  rename_i g1 g2 g3
  subst hq
  refine WP_go ?_
  rw [stp_of hd rfl]
  exact if_pos ⟨g1.1, g1.2.1, g1.2.2.1, g1.2.2.2, g2, g3⟩
theorem W_iret {M : qM} {pc : Nat} (hd : decode (mB M) pc = .ok (.ireturn, 1)) (hT : mT M = some .int) : ∀ ⦃d : Nat⦄ ⦃u : Nat × Nat⦄ ⦃ls : qL⦄ ⦃h : qH⦄ ⦃Q : Option (Option Value) → qH → Prop⦄ ⦃x : Int32⦄ (_ : u.1 ≤ mC M) (_ : u.2 ≤ mS M), WP d M u pc ls [.int x] h Q = Q (some (some (.int x))) h := by
  intros
  rename_i g1 g2
  refine WP_ret ?_
  rw [stp_of hd rfl]
  simp only [stI, hT]
  exact if_pos ⟨rfl, g1, g2⟩
theorem W_zret {M : qM} {pc : Nat} (hd : decode (mB M) pc = .ok (.ireturn, 1)) (hT : mT M = some .boolean) : ∀ ⦃d : Nat⦄ ⦃u : Nat × Nat⦄ ⦃ls : qL⦄ ⦃h : qH⦄ ⦃Q : Option (Option Value) → qH → Prop⦄ ⦃x : Int32⦄ (_ : x = 0 ∨ x = 1) (_ : u.1 ≤ mC M) (_ : u.2 ≤ mS M), WP d M u pc ls [.int x] h Q = Q (some (some (.int x))) h := by
  intros
  rename_i g0 g1 g2
  refine WP_ret ?_
  rw [stp_of hd rfl]
  simp only [stI, hT]
  exact if_pos ⟨by rcases g0 with rfl | rfl <;> rfl, g1, g2⟩
theorem W_cret {M : qM} {pc : Nat} {t : FieldType} (hd : decode (mB M) pc = .ok (.ireturn, 1)) (hT : mT M = some t) : ∀ ⦃d : Nat⦄ ⦃u : Nat × Nat⦄ ⦃ls : qL⦄ ⦃h : qH⦄ ⦃Q : Option (Option Value) → qH → Prop⦄ ⦃x : Int32⦄ (_ : narrow t (.int x) = .int x) (_ : u.1 ≤ mC M) (_ : u.2 ≤ mS M), WP d M u pc ls [.int x] h Q = Q (some (some (.int x))) h := by
  intros
  rename_i g0 g1 g2
  refine WP_ret ?_
  rw [stp_of hd rfl]
  simp only [stI, hT]
  exact if_pos ⟨g0, g1, g2⟩
theorem W_lret {M : qM} {pc : Nat} (hd : decode (mB M) pc = .ok (.lreturn, 1)) (hT : mT M = some .long) : ∀ ⦃d : Nat⦄ ⦃u : Nat × Nat⦄ ⦃ls : qL⦄ ⦃h : qH⦄ ⦃Q : Option (Option Value) → qH → Prop⦄ ⦃x : Int64⦄ (_ : u.1 ≤ mC M) (_ : u.2 ≤ mS M), WP d M u pc ls [.long x] h Q = Q (some (some (.long x))) h := by
  intros
  rename_i g1 g2
  refine WP_ret ?_
  rw [stp_of hd rfl]
  exact if_pos ⟨hT, g1, g2⟩
theorem W_vret {M : qM} {pc : Nat} (hd : decode (mB M) pc = .ok (.return_, 1)) (hT : mT M = none) : ∀ ⦃d : Nat⦄ ⦃u : Nat × Nat⦄ ⦃ls : qL⦄ ⦃h : qH⦄ ⦃Q : Option (Option Value) → qH → Prop⦄ (_ : u.1 ≤ mC M) (_ : u.2 ≤ mS M), WP d M u pc ls [] h Q = Q (some none) h := by
  intros
  rename_i g1 g2
  refine WP_ret ?_
  rw [stp_of hd rfl]
  exact if_pos ⟨hT, g1, g2⟩
theorem kR_s {k : Option Value → qH → Prop} {v : Option Value} {h : qH} : kR k (some v) h = k v h := rfl
