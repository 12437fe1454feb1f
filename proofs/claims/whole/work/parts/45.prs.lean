/-! ===== the text, read ===== -/
def sk (f : Nat → Bool) : Nat → Nat → Nat
  | 0, i => i
  | k + 1, i => if f i = true then sk f k (i + 1) else i
theorem sk_b {f : Nat → Bool} : ∀ k i, i ≤ sk f k i ∧ sk f k i ≤ i + k
  | 0, i => ⟨Nat.le_refl _, Nat.le_refl _⟩
  | k + 1, i => by
    rw [sk]
    split
    · have := sk_b (f := f) k (i + 1); omega
    · omega
theorem sk_t {f : Nat → Bool} : ∀ k i j, i ≤ j → j < sk f k i → f j = true
  | 0, i, j, h1, h2 => by simp only [sk] at h2; omega
  | k + 1, i, j, h1, h2 => by
    rw [sk] at h2
    split at h2
    · rename_i c
      by_cases e : j = i
      · rw [e]; exact c
      · exact sk_t k (i + 1) j (by omega) h2
    · omega
def isL (v : Nat) : Bool := decide (97 ≤ v ∧ v ≤ 122)
def isD (v : Nat) : Bool := decide (48 ≤ v ∧ v ≤ 57)
/-- sort, start, stop -/
abbrev tK : Type := Nat × Nat × Nat
def wE (b : Nat → Nat) (n p : Nat) : Nat := sk (fun i => isL (b i)) (n - p) p
def dE (b : Nat → Nat) (n p : Nat) : Nat := sk (fun i => isD (b i)) (n - p) p
def bE (b : Nat → Nat) (n p : Nat) : Nat := sk (fun i => decide (b i = 32)) (n - p) p
def tk1 (b : Nat → Nat) (n p : Nat) : tK :=
  if n ≤ p then (0, p, p) else if isL (b p) = true then (if wE b n p - p ≤ 8 then 1 else 4, p, wE b n p) else if isD (b p) = true then (if dE b n p - p ≤ 3 then 2 else 4, p, dE b n p) else (if b p = 59 then 3 else 4, p, p + 1)
def tkN (b : Nat → Nat) (n q : Nat) : tK := tk1 b n (bE b n q)
/-- what holds of a token -/
def tOK (b : Nat → Nat) (n : Nat) (t : tK) : Prop := t.1 < 5 ∧ t.2.1 ≤ t.2.2 ∧ t.2.2 ≤ n ∧ (t.1 = 1 → (∀ i, t.2.1 ≤ i → i < t.2.2 → isL (b i) = true) ∧ t.2.2 - t.2.1 ≤ 8) ∧ (t.1 = 2 → (∀ i, t.2.1 ≤ i → i < t.2.2 → isD (b i) = true) ∧ t.2.2 - t.2.1 ≤ 3) ∧ (t.1 ≠ 0 → t.2.1 < t.2.2)
theorem tk1_ok {b : Nat → Nat} {n p : Nat} (h : p ≤ n) : tOK b n (tk1 b n p) ∧ (tk1 b n p).2.1 = p := by
  unfold tk1
  by_cases c1 : n ≤ p
  · rw [if_pos c1]
    refine ⟨⟨?_, ?_, ?_, ?_, ?_, ?_⟩, rfl⟩ <;> simp <;> omega
  · rw [if_neg c1]
    by_cases c2 : isL (b p) = true
    · rw [if_pos c2]
      have hb := sk_b (f := fun i => isL (b i)) (n - p) p
      have ht := sk_t (f := fun i => isL (b i)) (n - p) p
      have h1 : p < wE b n p := by
        unfold wE
        rw [show n - p = (n - p - 1) + 1 by omega, sk, if_pos c2]
        have := sk_b (f := fun i => isL (b i)) (n - p - 1) (p + 1)
        omega
      refine ⟨⟨by simp only; split <;> omega, by simp only; omega, by simp only; unfold wE; omega, fun q => ⟨fun i h2 h3 => ht i h2 h3, ?_⟩, fun q => ?_, fun _ => h1⟩, rfl⟩
      · simp only at q ⊢
        split at q
        · assumption
        · omega
      · simp only at q
        split at q <;> omega
    · rw [if_neg c2]
      by_cases c3 : isD (b p) = true
      · rw [if_pos c3]
        have hb := sk_b (f := fun i => isD (b i)) (n - p) p
        have ht := sk_t (f := fun i => isD (b i)) (n - p) p
        have h1 : p < dE b n p := by
          unfold dE
          rw [show n - p = (n - p - 1) + 1 by omega, sk, if_pos c3]
          have := sk_b (f := fun i => isD (b i)) (n - p - 1) (p + 1)
          omega
        refine ⟨⟨by simp only; split <;> omega, by simp only; omega, by simp only; unfold dE; omega, fun q => ?_, fun q => ⟨fun i h2 h3 => ht i h2 h3, ?_⟩, fun _ => h1⟩, rfl⟩
        · simp only at q
          split at q <;> omega
        · simp only at q ⊢
          split at q
          · assumption
          · omega
      · rw [if_neg c3]
        refine ⟨⟨by simp only; split <;> omega, by simp, by simp only; omega, fun q => ?_, fun q => ?_, fun _ => by simp⟩, rfl⟩
        · simp only at q; split at q <;> omega
        · simp only at q; split at q <;> omega
theorem tkN_ok {b : Nat → Nat} {n q : Nat} (h : q ≤ n) : tOK b n (tkN b n q) ∧ q ≤ (tkN b n q).2.1 := by
  have hb := sk_b (f := fun i => decide (b i = 32)) (n - q) q
  have := tk1_ok (b := b) (n := n) (p := bE b n q) (by unfold bE; omega)
  unfold tkN
  refine ⟨this.1, ?_⟩
  rw [this.2]
  exact hb.1
/-- a word, a number -/
def pW (b : Nat → Nat) : Nat → Nat → Nat → Nat
  | 0, _, v => v
  | k + 1, i, v => pW b k (i + 1) (32 * v + (b i - 96))
def pD (b : Nat → Nat) : Nat → Nat → Nat → Nat
  | 0, _, v => v
  | k + 1, i, v => pD b k (i + 1) (10 * v + (b i - 48))
theorem pW_s {b : Nat → Nat} : ∀ k i v, pW b (k + 1) i v = 32 * pW b k i v + (b (i + k) - 96)
  | 0, i, v => by simp [pW]
  | k + 1, i, v => by
    rw [pW, pW_s k (i + 1), pW, show i + 1 + k = i + (k + 1) by omega]
theorem pW_eq {b c : Nat → Nat} : ∀ (k m i j : Nat), (∀ x, x < k → isL (b (i + x)) = true) → (∀ x, x < m → isL (c (j + x)) = true) → (pW b k i 0 = pW c m j 0 ↔ (k = m ∧ ∀ x, x < k → b (i + x) = c (j + x)))
  | 0, 0, i, j, _, _ => by simp [pW]
  | 0, m + 1, i, j, _, h2 => by
    have := h2 m (by omega)
    simp only [isL, decide_eq_true_eq] at this
    rw [pW_s]
    simp only [pW]
    constructor
    · intro e; omega
    · intro e; omega
  | k + 1, 0, i, j, h1, _ => by
    have := h1 k (by omega)
    simp only [isL, decide_eq_true_eq] at this
    rw [pW_s]
    simp only [pW]
    constructor
    · intro e; omega
    · intro e; omega
  | k + 1, m + 1, i, j, h1, h2 => by
    have a1 := h1 k (by omega)
    have a2 := h2 m (by omega)
    simp only [isL, decide_eq_true_eq] at a1 a2
    have ih := pW_eq (b := b) (c := c) k m i j (fun x hx => h1 x (by omega)) (fun x hx => h2 x (by omega))
    rw [pW_s, pW_s]
    constructor
    · intro e
      have e1 : pW b k i 0 = pW c m j 0 := by omega
      have e2 : b (i + k) = c (j + m) := by omega
      obtain ⟨rfl, e3⟩ := ih.mp e1
      refine ⟨rfl, fun x hx => ?_⟩
      by_cases q : x = k
      · rw [q]; exact e2
      · exact e3 x (by omega)
    · rintro ⟨e, e3⟩
      obtain rfl : k = m := by omega
      rw [ih.mpr ⟨rfl, fun x hx => e3 x (by omega)⟩, e3 k (by omega)]
theorem pW_le {b : Nat → Nat} : ∀ k i v, (∀ x, x < k → b (i + x) ≤ 122) → pW b k i v ≤ v * 32 ^ k + (32 ^ k - 1)
  | 0, i, v, _ => by simp [pW]
  | k + 1, i, v, h => by
    have h0 := h 0 (by omega)
    rw [Nat.add_zero] at h0
    rw [pW]
    refine Nat.le_trans (pW_le k (i + 1) _ (fun x hx => by rw [show i + 1 + x = i + (x + 1) by omega]; exact h (x + 1) (by omega))) ?_
    have e : 32 ^ (k + 1) = 32 * 32 ^ k := by rw [Nat.pow_succ, Nat.mul_comm]
    have p1 : 0 < 32 ^ k := Nat.pow_pos (by omega)
    have e2 : (32 * v + (b i - 96)) * 32 ^ k ≤ (32 * v + 31) * 32 ^ k := Nat.mul_le_mul_right _ (by omega)
    have e3 : (32 * v + 31) * 32 ^ k = v * (32 * 32 ^ k) + 31 * 32 ^ k := by rw [Nat.add_mul, Nat.mul_comm 32 v, Nat.mul_assoc]
    rw [e]
    omega
def wV (b : Nat → Nat) (t : tK) : Nat := pW b (t.2.2 - t.2.1) t.2.1 0
def nV (b : Nat → Nat) (t : tK) : Nat := pD b (t.2.2 - t.2.1) t.2.1 0
theorem wV_lt {b : Nat → Nat} {n : Nat} {t : tK} (o : tOK b n t) (h : t.1 = 1) : wV b t < 2 ^ 40 := by
  obtain ⟨o1, o2, o3, o4, -⟩ := o
  obtain ⟨p1, p2⟩ := o4 h
  have := pW_le (b := b) (t.2.2 - t.2.1) t.2.1 0 (fun x hx => by
    have := p1 (t.2.1 + x) (by omega) (by omega)
    simp only [isL, decide_eq_true_eq] at this
    omega)
  have e : 32 ^ (t.2.2 - t.2.1) ≤ 32 ^ 8 := Nat.pow_le_pow_right (by omega) p2
  have p0 : 0 < 32 ^ (t.2.2 - t.2.1) := Nat.pow_pos (by omega)
  unfold wV
  omega
theorem nV_lt {b : Nat → Nat} {n : Nat} {t : tK} (o : tOK b n t) (h : t.1 = 2) : nV b t < 1000 := by
  obtain ⟨o1, o2, o3, -, o4, -⟩ := o
  obtain ⟨p1, p2⟩ := o4 h
  have hd : ∀ x, x < t.2.2 - t.2.1 → b (t.2.1 + x) - 48 ≤ 9 := fun x hx => by
    have := p1 (t.2.1 + x) (by omega) (by omega)
    simp only [isD, decide_eq_true_eq] at this
    omega
  unfold nV
  rcases (show t.2.2 - t.2.1 = 0 ∨ t.2.2 - t.2.1 = 1 ∨ t.2.2 - t.2.1 = 2 ∨ t.2.2 - t.2.1 = 3 by omega) with e | e | e | e <;> rw [e] at hd ⊢ <;> simp only [pD]
  · omega
  · have := hd 0 (by omega); simp only [Nat.add_zero] at this; omega
  · have h0 := hd 0 (by omega); have h1 := hd 1 (by omega); simp only [Nat.add_zero] at h0; omega
  · have h0 := hd 0 (by omega); have h1 := hd 1 (by omega); have h2 := hd 2 (by omega); simp only [Nat.add_zero] at h0
    rw [show t.2.1 + 1 + 1 = t.2.1 + 2 by omega]; omega
/-- the words of the text -/
def wdB (j i : Nat) : Nat := ((sByt.getD j []).getD i 0).toNatClampNeg
def wdN (j : Nat) : Nat := pW (wdB j) (sLen.getD j 0) 0 0
theorem wdB_ok : ∀ j, j < 21 → ∀ i, i < sLen.getD j 0 → isL (wdB j i) = true ∧ (sByt.getD j []).getD i 0 = nI (wdB j i) := by decide +kernel
def isW (b : Nat → Nat) (t : tK) (j : Nat) : Bool := decide (t.1 = 1 ∧ wV b t = wdN j)
def rsvL (b : Nat → Nat) (t : tK) : Nat → Nat → Option Nat
  | 0, _ => none
  | k + 1, i => if isW b t i = true then some i else rsvL b t k (i + 1)
def rsv (b : Nat → Nat) (t : tK) : Option Nat := rsvL b t 9 0
def kdN (b : Nat → Nat) (t : tK) : Option Nat := (rsvL b t 4 10).map (· - 10)
def doW (b : Nat → Nat) (t : tK) : Option Nat := (rsvL b t 3 18).map (· - 17)
theorem rsvL_b {b : Nat → Nat} {t : tK} : ∀ {k i j : Nat}, rsvL b t k i = some j → i ≤ j ∧ j < i + k ∧ isW b t j = true
  | 0, i, j, h => by cases h
  | k + 1, i, j, h => by
    rw [rsvL] at h
    split at h
    · rename_i c
      simp only [Option.some.injEq] at h
      subst h
      exact ⟨Nat.le_refl _, by omega, c⟩
    · have := rsvL_b h
      exact ⟨by omega, by omega, this.2.2⟩
/-- the street that is being read, names, whether it was opened -/
abbrev PS : Type := aS × (Nat → Nat) × Bool
def fdL (nm : Nat → Nat) (v : Nat) : Nat → Nat → Option Nat
  | 0, _ => none
  | k + 1, i => if nm i = v then some i else fdL nm v k (i + 1)
def fd (st : PS) (v : Nat) : Option Nat := fdL st.2.1 v (aN st.1) 0
theorem fdL_b {nm : Nat → Nat} {v : Nat} : ∀ {k i j : Nat}, fdL nm v k i = some j → i ≤ j ∧ j < i + k
  | 0, i, j, h => by cases h
  | k + 1, i, j, h => by
    rw [fdL] at h
    split at h
    · simp only [Option.some.injEq] at h; omega
    · have := fdL_b h; omega
theorem fd_lt {st : PS} {v x : Nat} (h : fd st v = some x) : x < aN st.1 := by have := fdL_b h; omega
abbrev RE (α : Type) : Type := (Nat × Nat) ⊕ α
def bd {α β : Type} (x : RE α) (f : α → RE β) : RE β := match x with
  | .inl e => .inl e
  | .inr a => f a
def tW (b : Nat → Nat) (n j : Nat) (t : tK) : RE tK := if isW b t j = true then .inr (tkN b n t.2.2) else .inl (1, t.2.1)
def tN (b : Nat → Nat) (n lo hi : Nat) (t : tK) : RE (Nat × tK) := if t.1 = 2 then (if lo ≤ nV b t ∧ nV b t ≤ hi then .inr (nV b t, tkN b n t.2.2) else .inl (4, t.2.1)) else .inl (1, t.2.1)
def hH (b : Nat → Nat) (st : PS) (t : tK) : RE Nat := if t.1 = 1 ∧ rsv b t = none then (match fd st (wV b t) with
  | none => .inl (2, t.2.1)
  | some x => .inr x) else .inl (1, t.2.1)
theorem hH_lt {b : Nat → Nat} {st : PS} {t : tK} {x : Nat} (h : hH b st t = .inr x) : x < aN st.1 := by
  unfold hH at h
  split at h
  · cases hf : fd st (wV b t) with
    | none => rw [hf] at h; cases h
    | some y => rw [hf] at h; simp only [Sum.inr.injEq] at h; rw [← h]; exact fd_lt hf
  · cases h
def aFrS (a : aS) (v : Nat) : aS := ((v, a.1.2), a.2)
def aAdd (a : aS) (ki : Nat) (cs : Option Nat) (bp : Nat) : aS := ((aFr a, aN a + 1, va_up (aKi a) (aN a) ki, va_up (aCs a) (aN a) cs, va_up (aBy a) (aN a) bp, va_up (aDo a) (aN a) 0), a.2)
def aSpk (a : aS) (x y dd : Nat) : aS := (a.1, a.2.1, (aSp a + 1, va_up (aFm a) (aSp a) x, va_up (aTo a) (aSp a) y, va_up (aDy a) (aSp a) dd), a.2.2.2)
def aDoS (a : aS) (x v : Nat) : aS := ((aFr a, aN a, aKi a, aCs a, aBy a, va_up (aDo a) x v), a.2)
def aPuS (a : aS) (x : Nat) : aS := (a.1, aPu a ||| 2 ^ x, a.2.2)
def aGlS (a : aS) (v : Nat) : aS := (a.1, a.2.1, a.2.2.1, (aGl a + 1, va_up (aGd a) (aGl a) v), a.2.2.2.2)
def aUnS (a : aS) (x : Nat) : aS := (a.1, a.2.1, a.2.2.1, a.2.2.2.1, (aUn a + 1, va_up (aUh a) (aUn a) x), a.2.2.2.2.2)
def aRuS (a : aS) (dd : Nat) (w : Option Nat) : aS := (a.1, a.2.1, a.2.2.1, a.2.2.2.1, a.2.2.2.2.1, (aRu a + 1, va_up (aRd a) (aRu a) dd, va_up (aRf a) (aRu a) w))
def unL (a : aS) (x : Nat) : Nat → Nat → Bool
  | 0, _ => false
  | k + 1, i => if aUh a i = x then true else unL a x k (i + 1)
def lStreet (b : Nat → Nat) (n : Nat) (st : PS) (t : tK) : RE (PS × tK) := bd (tW b n 9 t) fun t1 => bd (tN b n 0 9 t1) fun p => .inr ((aFrS st.1 p.1, st.2.1, true), p.2)
def adH (st : PS) (v k : Nat) (cs : Option Nat) (bp : Nat) : PS := (aAdd st.1 k cs bp, va_up st.2.1 (aN st.1) v, st.2.2)
def lHouse (b : Nat → Nat) (n : Nat) (st : PS) (t : tK) : RE (PS × tK) := if t.1 = 1 ∧ rsv b t = none then (if fd st (wV b t) = none then (match kdN b (tkN b n t.2.2) with
  | none => .inl (1, (tkN b n t.2.2).2.1)
  | some k => if isW b (tkN b n (tkN b n t.2.2).2.2) 14 = true then .inr (adH st (wV b t) k none 0, tkN b n (tkN b n (tkN b n t.2.2).2.2).2.2) else bd (tW b n 15 (tkN b n (tkN b n t.2.2).2.2)) fun t3 => bd (tN b n 0 60 t3) fun p => bd (tW b n 16 p.2) fun t5 => bd (tN b n 0 100 t5) fun r => .inr (adH st (wV b t) k (some p.1) r.1, r.2)) else .inl (3, t.2.1)) else .inl (1, t.2.1)
def lSpark (b : Nat → Nat) (n : Nat) (st : PS) (t : tK) : RE (PS × tK) := bd (hH b st t) fun x => bd (hH b st (tkN b n t.2.2)) fun y => if y = x ∨ ¬ spkN st.1 x y = none then .inl (3, (tkN b n t.2.2).2.1) else bd (tW b n 17 (tkN b n (tkN b n t.2.2).2.2)) fun t3 => bd (tN b n 0 9 t3) fun p => .inr ((aSpk st.1 x y p.1, st.2), p.2)
def lDoes (b : Nat → Nat) (n : Nat) (st : PS) (t : tK) : RE (PS × tK) := bd (hH b st t) fun x => if aDo st.1 x = 0 then (match doW b (tkN b n t.2.2) with
  | none => .inl (1, (tkN b n t.2.2).2.1)
  | some v => .inr ((aDoS st.1 x v, st.2), tkN b n (tkN b n t.2.2).2.2)) else .inl (3, t.2.1)
def lPulled (b : Nat → Nat) (n : Nat) (st : PS) (t : tK) : RE (PS × tK) := bd (hH b st t) fun x => if (aPu st.1).testBit x = true then .inl (3, t.2.1) else .inr ((aPuS st.1 x, st.2), tkN b n t.2.2)
def lGlass (b : Nat → Nat) (n : Nat) (st : PS) (t : tK) : RE (PS × tK) := bd (tW b n 15 t) fun t1 => bd (tN b n (if aGl st.1 = 0 then 0 else aGd st.1 (aGl st.1 - 1) + 1) 30 t1) fun p => .inr ((aGlS st.1 p.1, st.2), p.2)
def lUnknown (b : Nat → Nat) (n : Nat) (st : PS) (t : tK) : RE (PS × tK) := bd (hH b st t) fun x => if unL st.1 x (aUn st.1) 0 = true then .inl (3, t.2.1) else .inr ((aUnS st.1 x, st.2), tkN b n t.2.2)
def lRung (b : Nat → Nat) (n : Nat) (st : PS) (t : tK) : RE (PS × tK) := bd (tW b n 15 t) fun t1 => bd (tN b n 0 30 t1) fun p => if isW b p.2 8 = true then .inr ((aRuS st.1 p.1 none, st.2), tkN b n p.2.2.2) else bd (hH b st p.2) fun x => .inr ((aRuS st.1 p.1 (some x), st.2), tkN b n p.2.2.2)
def fuN (st : PS) (j : Nat) : Bool := if j = 1 then decide (6 ≤ aN st.1) else if j = 2 then decide (9 ≤ aSp st.1) else if j = 5 then decide (4 ≤ aGl st.1) else if j = 6 then decide (2 ≤ aUn st.1) else if j = 7 then decide (4 ≤ aRu st.1) else false
def lAny (b : Nat → Nat) (n : Nat) (st : PS) (j : Nat) (t : tK) : RE (PS × tK) := if j = 0 then lStreet b n st t else if j = 1 then lHouse b n st t else if j = 2 then lSpark b n st t else if j = 3 then lDoes b n st t else if j = 4 then lPulled b n st t else if j = 5 then lGlass b n st t else if j = 6 then lUnknown b n st t else lRung b n st t
def lLine (b : Nat → Nat) (n : Nat) (st : PS) (t : tK) : RE (PS × tK) := match (if t.1 = 1 then rsv b t else none) with
  | none => .inl (1, t.2.1)
  | some j => if j = 8 then .inl (1, t.2.1) else if j = 0 ∧ st.2.2 = true then .inl (3, t.2.1) else if ¬ j = 0 ∧ st.2.2 = false then .inl (6, t.2.1) else if fuN st j = true then .inl (5, t.2.1) else lAny b n st j (tkN b n t.2.2)
def prs (b : Nat → Nat) (n : Nat) : Nat → PS → tK → RE PS
  | 0, _, t => .inl (1, t.2.1)
  | k + 1, st, t => bd (lLine b n st t) fun p => if p.2.1 = 0 then (if 0 < aN p.1.1 then .inr p.1 else .inl (6, p.2.2.1)) else if p.2.1 = 3 then prs b n k p.1 (tkN b n p.2.2.2) else .inl (1, p.2.2.1)
def a0 : aS := ((0, 0, fun _ => 0, fun _ => none, fun _ => 0, fun _ => 0), 0, (0, fun _ => 0, fun _ => 0, fun _ => 0), (0, fun _ => 0), (0, fun _ => 0), (0, fun _ => 0, fun _ => none))
def parse (b : Nat → Nat) (n : Nat) : RE PS := prs b n 901 (a0, fun _ => 0, false) (tkN b n 0)
