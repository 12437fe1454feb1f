/-! ===== six rounds are enough ===== -/
def kC (p : Nat → Bool) : Nat → Nat
  | 0 => 0
  | n + 1 => kC p n + (if p n = true then 1 else 0)
theorem kC_le {p : Nat → Bool} : ∀ n, kC p n ≤ n
  | 0 => Nat.le_refl _
  | n + 1 => by have := kC_le (p := p) n; rw [kC]; split <;> omega
theorem kC_mono {p q : Nat → Bool} : ∀ n, (∀ j, j < n → p j = true → q j = true) → kC p n ≤ kC q n
  | 0, _ => Nat.le_refl _
  | n + 1, h => by
    have h1 := kC_mono n (fun j hj => h j (by omega))
    have h2 := h n (by omega)
    rw [kC, kC]
    by_cases c : p n = true
    · rw [if_pos c, if_pos (h2 c)]; omega
    · rw [if_neg c]; split <;> omega
theorem kC_lt {p q : Nat → Bool} : ∀ n, (∀ j, j < n → p j = true → q j = true) → (∃ v, v < n ∧ p v = false ∧ q v = true) → kC p n < kC q n
  | 0, _, ⟨v, hv, _⟩ => by omega
  | n + 1, h, ⟨v, hv, h1, h2⟩ => by
    rw [kC, kC]
    by_cases e : v = n
    · subst e
      have := kC_mono v (fun j hj => h j (by omega))
      rw [if_pos h2, if_neg (by rw [h1]; decide)]
      omega
    · have := kC_lt n (fun j hj => h j (by omega)) ⟨v, by omega, h1, h2⟩
      have h3 := h n (by omega)
      by_cases c : p n = true
      · rw [if_pos c, if_pos (h3 c)]; omega
      · rw [if_neg c]; split <;> omega
theorem kC_all {p : Nat → Bool} : ∀ n, kC p n = n → ∀ j, j < n → p j = true
  | 0, _, j, hj => by omega
  | n + 1, h, j, hj => by
    rw [kC] at h
    have := kC_le (p := p) n
    by_cases c : p n = true
    · rw [if_pos c] at h
      by_cases e : j = n
      · rw [e]; exact c
      · exact kC_all n (by omega) j (by omega)
    · rw [if_neg c] at h; omega
def smN (r : Nat → Nat) : Nat → Nat
  | 0 => 0
  | n + 1 => smN r n + r n
theorem smN_le {r q : Nat → Nat} : ∀ n, (∀ j, j < n → r j ≤ q j) → smN r n ≤ smN q n
  | 0, _ => Nat.le_refl _
  | n + 1, h => by
    have h1 := smN_le n (fun j hj => h j (by omega))
    have := h n (by omega)
    rw [smN, smN]; omega
theorem smN_lt {r q : Nat → Nat} : ∀ n, (∀ j, j < n → r j ≤ q j) → (∃ v, v < n ∧ r v < q v) → smN r n < smN q n
  | 0, _, ⟨v, hv, _⟩ => by omega
  | n + 1, h, ⟨v, hv, h1⟩ => by
    have h0 := h n (by omega)
    rw [smN, smN]
    by_cases e : v = n
    · subst e
      have := smN_le v (fun j hj => h j (by omega))
      omega
    · have := smN_lt n (fun j hj => h j (by omega)) ⟨v, by omega, h1⟩
      omega
theorem rlx_mono {a : aS} {cut : Nat} {wo : Option Nat} {r : (Nat → Nat) × Bool} {i : Nat} (j : Nat) : (rlx a cut wo r i).1 j ≤ r.1 j := by
  by_cases c : rlC a cut wo r.1 i
  · rw [rlx_t c]
    simp only [vup_at]
    by_cases e : j = aTo a i
    · rw [if_pos e, e]; exact Nat.le_of_lt c.2.2
    · rw [if_neg e]; exact Nat.le_refl _
  · rw [rlx_f c]; exact Nat.le_refl _
theorem ras_mono {a : aS} {cut : Nat} {wo : Option Nat} : ∀ (k i : Nat) (r : (Nat → Nat) × Bool) (j : Nat), (ras a cut wo k i r).1 j ≤ r.1 j
  | 0, _, _, _ => Nat.le_refl _
  | k + 1, i, r, j => Nat.le_trans (ras_mono k (i + 1) _ j) (rlx_mono j)
theorem ras_tt {a : aS} {cut : Nat} {wo : Option Nat} : ∀ (k i : Nat) (r : (Nat → Nat) × Bool), r.2 = true → (ras a cut wo k i r).2 = true
  | 0, _, _, h => h
  | k + 1, i, r, h => by
    rw [ras]
    refine ras_tt k (i + 1) _ ?_
    by_cases c : rlC a cut wo r.1 i
    · rw [rlx_t c]
    · rw [rlx_f c]; exact h
/-- nothing more to be lowered -/
def fxd (a : aS) (cut : Nat) (wo : Option Nat) (r : Nat → Nat) : Prop := ∀ j, j < aSp a → ¬ rlC a cut wo r j
theorem ras_ff {a : aS} {cut : Nat} {wo : Option Nat} : ∀ (k i : Nat) (r : (Nat → Nat) × Bool), (ras a cut wo k i r).2 = false → (ras a cut wo k i r).1 = r.1 ∧ ∀ j, i ≤ j → j < i + k → ¬ rlC a cut wo r.1 j
  | 0, i, r, _ => ⟨rfl, fun j h1 h2 => by omega⟩
  | k + 1, i, r, h => by
    rw [ras] at h ⊢
    by_cases c : rlC a cut wo r.1 i
    · rw [rlx_t c] at h
      rw [ras_tt k (i + 1) _ rfl] at h
      cases h
    · rw [rlx_f c] at h ⊢
      have := ras_ff k (i + 1) r h
      refine ⟨this.1, fun j h1 h2 => ?_⟩
      by_cases e : j = i
      · rw [e]; exact c
      · exact this.2 j (by omega) (by omega)
theorem ras_fix {a : aS} {cut : Nat} {wo : Option Nat} : ∀ (k i : Nat) (r : (Nat → Nat) × Bool), (∀ j, i ≤ j → j < i + k → ¬ rlC a cut wo r.1 j) → ras a cut wo k i r = r
  | 0, _, _, _ => rfl
  | k + 1, i, r, h => by
    rw [ras, rlx_f (h i (by omega) (by omega))]
    exact ras_fix k (i + 1) r (fun j h1 h2 => h j (by omega) (by omega))
theorem ras_lt {a : aS} {cut : Nat} {wo : Option Nat} (w : aW a) : ∀ (k i : Nat) (r : (Nat → Nat) × Bool), i + k ≤ aSp a → r.2 = false → (ras a cut wo k i r).2 = true → smN (ras a cut wo k i r).1 (aN a) < smN r.1 (aN a)
  | 0, _, r, _, h1, h2 => by rw [ras] at h2; rw [h1] at h2; cases h2
  | k + 1, i, r, hk, h1, h2 => by
    rw [ras] at h2 ⊢
    by_cases c : rlC a cut wo r.1 i
    · have m : smN (ras a cut wo k (i + 1) (rlx a cut wo r i)).1 (aN a) ≤ smN (rlx a cut wo r i).1 (aN a) := smN_le (aN a) (fun j _ => ras_mono (a := a) (cut := cut) (wo := wo) k (i + 1) (rlx a cut wo r i) j)
      have l : smN (rlx a cut wo r i).1 (aN a) < smN r.1 (aN a) := by
        refine smN_lt (aN a) (fun j _ => rlx_mono j) ⟨aTo a i, (w.2.2.2.2.2.1 i (by omega)).2.1, ?_⟩
        rw [rlx_t c]
        simp only [vup_at, if_pos]
        exact c.2.2
      omega
    · rw [rlx_f c] at h2 ⊢
      exact ras_lt w k (i + 1) r (by omega) h1 h2
/-- rounds without an end -/
noncomputable def itN (a : aS) (cut : Nat) (wo : Option Nat) (r : Nat → Nat) : Nat → Nat → Nat
  | 0 => r
  | k + 1 => (ras a cut wo (aSp a) 0 (itN a cut wo r k, false)).1
theorem it_fix {a : aS} {cut : Nat} {wo : Option Nat} {r : Nat → Nat} {k : Nat} (h : fxd a cut wo (itN a cut wo r k)) : itN a cut wo r (k + 1) = itN a cut wo r k := by
  rw [itN, ras_fix _ _ _ (fun j _ h2 => h j (by simpa using h2))]
theorem it_mono {a : aS} {cut : Nat} {wo : Option Nat} {r : Nat → Nat} (k m j : Nat) : itN a cut wo r (k + m) j ≤ itN a cut wo r k j := by
  induction m with
  | zero => exact Nat.le_refl _
  | succ m ih => exact Nat.le_trans (ras_mono _ _ _ j) ih
theorem it_end {a : aS} (w : aW a) {cut : Nat} {wo : Option Nat} {r : Nat → Nat} : ∀ (s k : Nat), smN (itN a cut wo r k) (aN a) ≤ s → ∃ K, k ≤ K ∧ fxd a cut wo (itN a cut wo r K)
  | s, k, h => by
    cases hf : (ras a cut wo (aSp a) 0 (itN a cut wo r k, false)).2 with
    | false =>
      have := ras_ff _ _ _ hf
      exact ⟨k, Nat.le_refl _, fun j hj => this.2 j (by omega) (by omega)⟩
    | true =>
      have l := ras_lt w (aSp a) 0 (itN a cut wo r k, false) (by omega) rfl hf
      cases s with
      | zero => simp only at l; omega
      | succ s =>
        obtain ⟨K, h1, h2⟩ := it_end (cut := cut) (wo := wo) (r := r) w s (k + 1) (by rw [itN]; simp only at l; omega)
        exact ⟨K, by omega, h2⟩
/-- houses behind the last don't change -/
theorem it_out {a : aS} (w : aW a) {cut : Nat} {wo : Option Nat} {r : Nat → Nat} {j : Nat} (hj : aN a ≤ j) : ∀ k, itN a cut wo r k j = r j := by
  have ro : ∀ (m i : Nat) (q : (Nat → Nat) × Bool), i + m ≤ aSp a → (ras a cut wo m i q).1 j = q.1 j := by
    intro m
    induction m with
    | zero => intro i q _; rfl
    | succ m ih =>
      intro i q hi
      rw [ras, ih (i + 1) _ (by omega)]
      by_cases c : rlC a cut wo q.1 i
      · rw [rlx_t c]
        have := (w.2.2.2.2.2.1 i (by omega)).2.1
        simp only [vup_at]
        rw [if_neg (by omega)]
      · rw [rlx_f c]
  intro k
  induction k with
  | zero => rfl
  | succ k ih => rw [itN, ro _ _ _ (by omega)]; exact ih
/-- no tight spark from the settled: the others stay above -/
theorem keep_up {a : aS} (w : aW a) {cut : Nat} {wo : Option Nat} {D : Nat → Nat} (T : Nat → Prop) (fx : fxd a cut wo D) (nt : ∀ i, i < aSp a → ¬ wo = some i → cut.testBit (aFm a i) = false → T (aFm a i) → ¬ T (aTo a i) → ¬ D (aFm a i) + lagN a i = D (aTo a i)) : ∀ (m i : Nat) (q : (Nat → Nat) × Bool), i + m ≤ aSp a → (∀ v, D v ≤ q.1 v) → (∀ v, T v → q.1 v = D v) → (∀ v, ¬ T v → v < aN a → D v < q.1 v) → ∀ v, ¬ T v → v < aN a → D v < (ras a cut wo m i q).1 v
  | 0, _, q, _, _, _, h3 => h3
  | m + 1, i, q, hi, h1, h2, h3 => by
    have key : (∀ v, D v ≤ (rlx a cut wo q i).1 v) ∧ (∀ v, T v → (rlx a cut wo q i).1 v = D v) ∧ (∀ v, ¬ T v → v < aN a → D v < (rlx a cut wo q i).1 v) := by
      by_cases c : rlC a cut wo q.1 i
      · obtain ⟨c1, c2, c3⟩ := id c
        have fi : D (aTo a i) ≤ D (aFm a i) + lagN a i := by
          have := fx i (by omega)
          by_cases z : D (aTo a i) ≤ D (aFm a i) + lagN a i
          · exact z
          · exact absurd ⟨c1, c2, by omega⟩ this
        have hu := h1 (aFm a i)
        rw [rlx_t c]
        refine ⟨fun v => ?_, fun v hv => ?_, fun v hv hn => ?_⟩
        · simp only [vup_at]
          by_cases e : v = aTo a i
          · rw [if_pos e, e]; omega
          · rw [if_neg e]; exact h1 v
        · simp only [vup_at]
          by_cases e : v = aTo a i
          · have := h2 v hv
            rw [e] at this
            omega
          · rw [if_neg e]; exact h2 v hv
        · simp only [vup_at]
          by_cases e : v = aTo a i
          · rw [if_pos e, e]
            rw [e] at hv
            by_cases tu : T (aFm a i)
            · have e1 := h2 _ tu
              have := nt i (by omega) c1 c2 tu hv
              omega
            · by_cases hl : aFm a i < aN a
              · have := h3 _ tu hl
                omega
              · have := (w.2.2.2.2.2.1 i (by omega)).1; omega
          · rw [if_neg e]; exact h3 v hv hn
      · rw [rlx_f c]; exact ⟨h1, h2, h3⟩
    rw [ras]
    exact keep_up w T fx nt m (i + 1) _ (by omega) key.1 key.2.1 key.2.2
theorem ras_low {a : aS} {cut : Nat} {wo : Option Nat} {x : Nat} (h1 : ¬ wo = some x) (h2 : cut.testBit (aFm a x) = false) : ∀ (m i : Nat) (q : (Nat → Nat) × Bool), i ≤ x → x < i + m → (ras a cut wo m i q).1 (aTo a x) ≤ q.1 (aFm a x) + lagN a x
  | 0, i, q, h3, h4 => by omega
  | m + 1, i, q, h3, h4 => by
    rw [ras]
    by_cases e : i = x
    · subst e
      refine Nat.le_trans (ras_mono _ _ _ _) ?_
      by_cases c : rlC a cut wo q.1 i
      · rw [rlx_t c]; simp only [vup_at, if_pos, Nat.le_refl]
      · rw [rlx_f c]
        by_cases z : q.1 (aTo a i) ≤ q.1 (aFm a i) + lagN a i
        · exact z
        · exact absurd ⟨h1, h2, by omega⟩ c
    · have := ras_low h1 h2 m (i + 1) (rlx a cut wo q i) (by omega) (by omega)
      have m2 := rlx_mono (a := a) (cut := cut) (wo := wo) (r := q) (i := i) (aFm a x)
      omega
theorem six {a : aS} (w : aW a) {cut : Nat} {wo : Option Nat} {r : Nat → Nat} : fxd a cut wo (itN a cut wo r 6) := by
  obtain ⟨K, -, fx⟩ := it_end (cut := cut) (wo := wo) (r := r) w _ 0 (Nat.le_refl _)
  have stay : ∀ m, itN a cut wo r (K + m) = itN a cut wo r K := by
    intro m
    induction m with
    | zero => rfl
    | succ m ih =>
      have : fxd a cut wo (itN a cut wo r (K + m)) := by rw [ih]; exact fx
      rw [← Nat.add_assoc, it_fix this, ih]
  have Dle : ∀ k v, itN a cut wo r K v ≤ itN a cut wo r k v := by
    intro k v
    by_cases h : k ≤ K
    · have := it_mono (a := a) (cut := cut) (wo := wo) (r := r) k (K - k) v
      rw [show k + (K - k) = K by omega] at this
      exact this
    · have := stay (k - K)
      rw [show K + (k - K) = k by omega] at this
      rw [this]
      exact Nat.le_refl _
  have grow : ∀ k, (∀ v, v < aN a → itN a cut wo r k v = itN a cut wo r K v) ∨ ∃ v, v < aN a ∧ ¬ itN a cut wo r k v = itN a cut wo r K v ∧ itN a cut wo r (k + 1) v = itN a cut wo r K v := by
    intro k
    by_cases all : ∀ v, v < aN a → itN a cut wo r k v = itN a cut wo r K v
    · exact .inl all
    · by_cases g : ∃ v, v < aN a ∧ ¬ itN a cut wo r k v = itN a cut wo r K v ∧ itN a cut wo r (k + 1) v = itN a cut wo r K v
      · exact .inr g
      · exfalso
        have nt : ∀ i, i < aSp a → ¬ wo = some i → cut.testBit (aFm a i) = false → itN a cut wo r k (aFm a i) = itN a cut wo r K (aFm a i) → ¬ itN a cut wo r k (aTo a i) = itN a cut wo r K (aTo a i) → ¬ itN a cut wo r K (aFm a i) + lagN a i = itN a cut wo r K (aTo a i) := by
          intro i hi h1 h2 h3 h4 h5
          refine g ⟨aTo a i, (w.2.2.2.2.2.1 i hi).2.1, h4, ?_⟩
          have l := ras_low h1 h2 (aSp a) 0 (itN a cut wo r k, false) (by omega) (by omega)
          have l2 : itN a cut wo r (k + 1) (aTo a i) ≤ itN a cut wo r k (aFm a i) + lagN a i := l
          have := Dle (k + 1) (aTo a i)
          omega
        have up : ∀ m v, ¬ itN a cut wo r k v = itN a cut wo r K v → v < aN a → itN a cut wo r K v < itN a cut wo r (k + m) v := by
          intro m
          induction m with
          | zero => intro v hv _; have := Dle k v; rw [Nat.add_zero]; omega
          | succ m ih =>
            have := keep_up w (fun v => itN a cut wo r k v = itN a cut wo r K v) fx nt (aSp a) 0 (itN a cut wo r (k + m), false) (by omega) (fun v => Dle (k + m) v) (fun v hv => by
              have h1 := it_mono (a := a) (cut := cut) (wo := wo) (r := r) k m v
              have h2 := Dle (k + m) v
              have h3 : itN a cut wo r k v = itN a cut wo r K v := hv
              simp only
              omega) (fun v hv hn => ih v hv hn)
            exact this
        obtain ⟨v, hv⟩ := Classical.not_forall.mp all
        obtain ⟨hn, hne⟩ := Classical.not_imp.mp hv
        have := up K v hne hn
        rw [Nat.add_comm, stay k] at this
        omega
  have cnt : ∀ k, (∀ v, v < aN a → itN a cut wo r k v = itN a cut wo r K v) ∨ k ≤ kC (fun v => decide (itN a cut wo r k v = itN a cut wo r K v)) (aN a) := by
    intro k
    induction k with
    | zero => exact .inr (Nat.zero_le _)
    | succ k ih =>
      have keepT : ∀ v, itN a cut wo r k v = itN a cut wo r K v → itN a cut wo r (k + 1) v = itN a cut wo r K v := fun v hv => by
        have h1 := it_mono (a := a) (cut := cut) (wo := wo) (r := r) k 1 v
        have h2 := Dle (k + 1) v
        omega
      rcases ih with ih | ih
      · exact .inl (fun v hv => keepT v (ih v hv))
      · rcases grow k with g | ⟨v, hv, g1, g2⟩
        · exact .inl (fun v hv => keepT v (g v hv))
        · have := kC_lt (p := fun v => decide (itN a cut wo r k v = itN a cut wo r K v)) (q := fun v => decide (itN a cut wo r (k + 1) v = itN a cut wo r K v)) (aN a) (fun j _ hj => by
            simp only [decide_eq_true_eq] at hj ⊢
            exact keepT j hj) ⟨v, hv, by simp [g1], by simp [g2]⟩
          exact .inr (by omega)
  have e6 : itN a cut wo r 6 = itN a cut wo r K := by
    funext v
    by_cases hv : v < aN a
    · rcases cnt 6 with c | c
      · exact c v hv
      · have l := kC_le (p := fun v => decide (itN a cut wo r 6 v = itN a cut wo r K v)) (aN a)
        have n6 := w.1
        have := kC_all (p := fun v => decide (itN a cut wo r 6 v = itN a cut wo r K v)) (aN a) (by omega) v hv
        simpa using this
    · rw [it_out w (by omega), it_out w (by omega)]
  rw [e6]
  exact fx
theorem rnd_it {a : aS} {cut : Nat} {wo : Option Nat} {r0 : Nat → Nat} : ∀ (k i : Nat) (b : Bool), (b = false → fxd a cut wo (itN a cut wo r0 i)) → rnd a cut wo k (itN a cut wo r0 i, b) = itN a cut wo r0 (i + k)
  | 0, i, b, _ => rfl
  | k + 1, i, b, h => by
    rw [rnd]
    cases b with
    | false =>
      rw [if_neg (by simp)]
      have stay : ∀ m, itN a cut wo r0 (i + m) = itN a cut wo r0 i := by
        intro m
        induction m with
        | zero => rfl
        | succ m ih =>
          have : fxd a cut wo (itN a cut wo r0 (i + m)) := by rw [ih]; exact h rfl
          rw [← Nat.add_assoc, it_fix this, ih]
      exact (stay (k + 1)).symm
    | true =>
      rw [if_pos rfl]
      have e : ras a cut wo (aSp a) 0 (itN a cut wo r0 i, false) = (itN a cut wo r0 (i + 1), (ras a cut wo (aSp a) 0 (itN a cut wo r0 i, false)).2) := rfl
      rw [e, rnd_it k (i + 1) _ (fun hb => by
        have := ras_ff _ _ _ hb
        rw [itN, this.1]
        exact fun j hj => this.2 j (by omega) (by omega)), show i + 1 + k = i + (k + 1) by omega]
theorem spr_it {a : aS} {cut : Nat} {wo : Option Nat} {own : Nat → Nat} : sprN a cut wo own = itN a cut wo (row0 a own) 6 := rnd_it 6 0 true (fun h => by cases h)
theorem spr_fx {a : aS} (w : aW a) {cut : Nat} {wo : Option Nat} {own : Nat → Nat} : fxd a cut wo (sprN a cut wo own) := by rw [spr_it]; exact six w
/-- whoever burns, burns before day 1000 by far -/
def fnB (a : aS) (r : Nat → Nat) : Prop := ∀ j, j < aN a → r j < 1000 → r j ≤ 60 + 10 * cnN r (aN a)
theorem cnN_up {r : Nat → Nat} {k v : Nat} (hv : v < 1000) : ∀ n, cnN (va_up r k v) n = if k < n ∧ 1000 ≤ r k then cnN r n + 1 else cnN r n
  | 0 => by simp [cnN]
  | n + 1 => by
    rw [cnN, cnN_up hv n, cnN, vup_at]
    rcases Nat.lt_trichotomy k n with h | h | h
    · by_cases c : 1000 ≤ r k
      · simp only [if_pos (show k < n ∧ 1000 ≤ r k from ⟨h, c⟩), if_pos (show k < n + 1 ∧ 1000 ≤ r k from ⟨by omega, c⟩), if_neg (show ¬ n = k by omega)]; omega
      · simp only [if_neg (show ¬ (k < n ∧ 1000 ≤ r k) from fun z => c z.2), if_neg (show ¬ (k < n + 1 ∧ 1000 ≤ r k) from fun z => c z.2), if_neg (show ¬ n = k by omega)]
    · subst h
      by_cases c : 1000 ≤ r k
      · simp only [if_neg (show ¬ (k < k ∧ 1000 ≤ r k) by omega), if_pos (show k < k + 1 ∧ 1000 ≤ r k from ⟨by omega, c⟩), if_pos, hv, if_neg (show ¬ r k < 1000 by omega)]
      · simp only [if_neg (show ¬ (k < k ∧ 1000 ≤ r k) by omega), if_neg (show ¬ (k < k + 1 ∧ 1000 ≤ r k) from fun z => c z.2), if_pos, hv, if_pos (show r k < 1000 by omega)]
    · simp only [if_neg (show ¬ (k < n ∧ 1000 ≤ r k) by omega), if_neg (show ¬ (k < n + 1 ∧ 1000 ≤ r k) by omega), if_neg (show ¬ n = k by omega)]
theorem lag_10 {a : aS} (w : aW a) {j : Nat} (hj : j < aSp a) (h : lagN a j < 1000) : lagN a j ≤ 10 := by
  have d9 := (w.2.2.2.2.2.1 j hj).2.2.2
  unfold lagN at h ⊢
  split
  · omega
  · split
    · omega
    · split
      · omega
      · rename_i h1 h2 h3
        rw [if_neg h1, if_neg h2, if_neg h3] at h
        omega
theorem rlx_fn {a : aS} (w : aW a) {cut : Nat} {wo : Option Nat} {r : (Nat → Nat) × Bool} {i : Nat} (hi : i < aSp a) (k : rk r.1) (f : fnB a r.1) : fnB a (rlx a cut wo r i).1 := by
  by_cases c : rlC a cut wo r.1 i
  · rw [rlx_t c]
    obtain ⟨c1, c2, c3⟩ := c
    obtain ⟨b1, b2, -⟩ := w.2.2.2.2.2.1 i hi
    have kt := k (aTo a i)
    have l10 := lag_10 w hi (by omega)
    have f1 := f _ b1 (by omega)
    intro j hj hl
    rw [cnN_up (by omega)]
    simp only [vup_at] at hl ⊢
    by_cases e : j = aTo a i
    · rw [if_pos e] at hl ⊢
      by_cases q : 1000 ≤ r.1 (aTo a i)
      · rw [if_pos ⟨b2, q⟩]; omega
      · rw [if_neg (fun z => q z.2)]
        have := f _ b2 (by omega)
        omega
    · rw [if_neg e] at hl ⊢
      have := f j hj hl
      split <;> omega
  · rw [rlx_f c]; exact f
theorem fn_le {a : aS} (w : aW a) {r : Nat → Nat} (f : fnB a r) {j : Nat} (hj : j < aN a) (h : r j < 1000) : r j ≤ 120 := by
  have := f j hj h
  have h1 := cnN_le (r := r) (aN a)
  have h2 := w.1
  omega
theorem row0_fn {a : aS} {own : Nat → Nat} (h : ∀ j, j < aN a → own j = 1000 ∨ own j ≤ 60) : fnB a (row0 a own) := by
  intro j hj hl
  unfold row0 at hl ⊢
  rw [if_pos hj] at hl ⊢
  rcases h j hj with q | q <;> omega
