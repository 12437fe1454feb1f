/-! ===== ways, as the model counts them ===== -/
abbrev wYr : Type := Nat × List (Option Nat)
def wcN (o : Option Nat) (p : wYr) : wYr := (p.1, o :: p.2)
noncomputable def goL (a : aS) (wi : Nat) : List Nat → Nat → List wYr
  | [], t => [(t, [])]
  | y :: ys, t => if agN a t wi y = 0 then (goL a wi ys t).map (wcN none) else (List.range (aN a)).flatMap (fun x => if (agN a t wi y).testBit x = true then (goL a wi ys (t ||| 2 ^ x)).map (wcN (some x)) else [])
noncomputable def wyN (a : aS) (wi : Nat) : List Nat → Nat → Nat → Option wYr
  | [], _, t => some (t, [])
  | y :: ys, c, t => if agN a t wi y = 0 then (if c / aN a ^ ys.length % aN a = 0 then (wyN a wi ys c t).map (wcN none) else none) else if (agN a t wi y).testBit (c / aN a ^ ys.length % aN a) = true then (wyN a wi ys c (t ||| 2 ^ (c / aN a ^ ys.length % aN a))).map (wcN (some (c / aN a ^ ys.length % aN a))) else none
theorem wy_mod {a : aS} {wi : Nat} : ∀ (ys : List Nat) (c t : Nat), wyN a wi ys (c % aN a ^ ys.length) t = wyN a wi ys c t
  | [], _, _ => rfl
  | y :: ys, c, t => by
    have e1 : c % aN a ^ (y :: ys).length / aN a ^ ys.length % aN a = c / aN a ^ ys.length % aN a := by
      rw [List.length_cons, Nat.pow_succ, Nat.mod_mul_right_div_self, Nat.mod_mod]
    have e2 : ∀ t, wyN a wi ys (c % aN a ^ (y :: ys).length) t = wyN a wi ys c t := fun t => by
      rw [← wy_mod ys (c % aN a ^ (y :: ys).length) t, List.length_cons, Nat.pow_succ, Nat.mod_mul_right_mod, wy_mod ys c t]
    rw [wyN, wyN, e1, e2, e2]
theorem fmc {α β : Type} {f g : α → Option β} : ∀ {l : List α}, (∀ x, x ∈ l → f x = g x) → l.filterMap f = l.filterMap g
  | [], _ => rfl
  | x :: l, h => by
    have h1 := h x (by simp)
    have h2 := fmc (f := f) (g := g) (l := l) (fun y hy => h y (by simp [hy]))
    rw [List.filterMap_cons, List.filterMap_cons, h1, h2]
theorem flc {α β : Type} {f g : α → List β} : ∀ {l : List α}, (∀ x, x ∈ l → f x = g x) → l.flatMap f = l.flatMap g
  | [], _ => rfl
  | x :: l, h => by
    have h1 := h x (by simp)
    have h2 := flc (f := f) (g := g) (l := l) (fun y hy => h y (by simp [hy]))
    rw [List.flatMap_cons, List.flatMap_cons, h1, h2]
theorem fmZ {α : Type} {L : List α} : ∀ k, 0 < k → (List.range k).flatMap (fun x => if x = 0 then L else []) = L
  | 0, h => by omega
  | 1, _ => by simp
  | k + 2, _ => by
    rw [List.range_succ, List.flatMap_append, fmZ (k + 1) (by omega)]
    simp
theorem wy_go {a : aS} {wi : Nat} (hn : 0 < aN a) : ∀ (ys : List Nat) (t : Nat), (List.range (aN a ^ ys.length)).filterMap (fun c => wyN a wi ys c t) = goL a wi ys t
  | [], t => by
    simp only [List.length_nil, Nat.pow_zero]
    rfl
  | y :: ys, t => by
    have M0 : 0 < aN a ^ ys.length := Nat.pow_pos hn
    have key : ∀ k, k ≤ aN a → (List.range (k * aN a ^ ys.length)).filterMap (fun c => wyN a wi (y :: ys) c t) = (List.range k).flatMap (fun x => if agN a t wi y = 0 then (if x = 0 then (goL a wi ys t).map (wcN none) else []) else if (agN a t wi y).testBit x = true then (goL a wi ys (t ||| 2 ^ x)).map (wcN (some x)) else []) := by
      intro k
      induction k with
      | zero => intro _; simp
      | succ k ih =>
        intro hk
        rw [Nat.succ_mul, List.range_add, List.filterMap_append, ih (by omega), List.range_succ, List.flatMap_append]
        congr 1
        rw [List.filterMap_map]
        simp only [List.flatMap_cons, List.flatMap_nil, List.append_nil]
        have dg : ∀ c, c ∈ List.range (aN a ^ ys.length) → wyN a wi (y :: ys) (k * aN a ^ ys.length + c) t = if agN a t wi y = 0 then (if k = 0 then (wyN a wi ys c t).map (wcN none) else none) else if (agN a t wi y).testBit k = true then (wyN a wi ys c (t ||| 2 ^ k)).map (wcN (some k)) else none := by
          intro c hc
          rw [List.mem_range] at hc
          have e1 : (k * aN a ^ ys.length + c) / aN a ^ ys.length % aN a = k := by
            rw [Nat.add_comm, Nat.add_mul_div_right _ _ M0, Nat.div_eq_of_lt hc, Nat.zero_add, Nat.mod_eq_of_lt (by omega)]
          have e2 : ∀ t, wyN a wi ys (k * aN a ^ ys.length + c) t = wyN a wi ys c t := fun t => by
            rw [← wy_mod ys (k * aN a ^ ys.length + c) t, Nat.add_comm, Nat.add_mul_mod_self_right, wy_mod]
          rw [wyN, e1, e2, e2]
        have e3 : List.filterMap ((fun c => wyN a wi (y :: ys) c t) ∘ fun x => k * aN a ^ ys.length + x) (List.range (aN a ^ ys.length)) = List.filterMap (fun c => if agN a t wi y = 0 then (if k = 0 then (wyN a wi ys c t).map (wcN none) else none) else if (agN a t wi y).testBit k = true then (wyN a wi ys c (t ||| 2 ^ k)).map (wcN (some k)) else none) (List.range (aN a ^ ys.length)) := fmc dg
        rw [e3]
        have fm : ∀ (f : Nat → Option wYr) (g : wYr → wYr) (l : List Nat), l.filterMap (fun c => (f c).map g) = (l.filterMap f).map g := fun f g l => by rw [List.map_filterMap]
        have fn : ∀ (l : List Nat), l.filterMap (fun _ => (none : Option wYr)) = [] := fun l => by
          induction l with
          | nil => rfl
          | cons x l ih => rw [List.filterMap_cons_none rfl, ih]
        by_cases c1 : agN a t wi y = 0
        · simp only [c1, if_true]
          by_cases c2 : k = 0
          · simp only [c2, if_true]
            rw [fm, wy_go hn ys t]
          · simp only [c2, if_false]
            rw [fn]
        · simp only [c1, if_false]
          by_cases c2 : (agN a t wi y).testBit k = true
          · simp only [c2, if_true]
            rw [fm, wy_go hn ys (t ||| 2 ^ k)]
          · simp only [c2]
            exact fn _
    rw [List.length_cons, Nat.pow_succ, Nat.mul_comm, key (aN a) (Nat.le_refl _), goL]
    by_cases c1 : agN a t wi y = 0
    · simp only [c1, if_true]
      exact fmZ _ hn
    · simp only [c1, if_false]
/-- rings in fours of bits -/
def vo : Option Nat → Nat
  | none => 0
  | some x => x + 1
def enc : List (Option Nat) → Nat
  | [] => 0
  | o :: l => vo o + 16 * enc l
theorem enc_sh {r x e g : Nat} (hx : x + 1 < 16) : (g ||| (x + 1) * 2 ^ (4 * r)) ||| 2 ^ (4 * (r + 1)) * e = g ||| 2 ^ (4 * r) * (x + 1 + 16 * e) := by
  have e1 : x + 1 + 16 * e = (x + 1) ||| 16 * e := by
    have := Nat.two_pow_add_eq_or_of_lt (i := 4) (b := x + 1) (by omega) e
    rw [Nat.or_comm, show (16 : Nat) = 2 ^ 4 from rfl, ← this, Nat.add_comm]
  have e2 : 2 ^ (4 * r) * ((x + 1) ||| 16 * e) = (x + 1) * 2 ^ (4 * r) ||| 2 ^ (4 * (r + 1)) * e := by
    have := Nat.shiftLeft_or_distrib (a := x + 1) (b := 16 * e) (i := 4 * r)
    rw [Nat.shiftLeft_eq, Nat.shiftLeft_eq, Nat.shiftLeft_eq] at this
    rw [Nat.mul_comm, this]
    congr 1
    rw [show 4 * (r + 1) = 4 * r + 4 by omega, Nat.pow_add, Nat.mul_comm, Nat.mul_assoc]
  rw [e1, e2, Nat.or_assoc]
theorem go_enc {a : aS} (h6 : aN a ≤ 6) {wi : Nat} : ∀ (ys : List Nat) (r t g : Nat), goN a wi ys r t g = (goL a wi ys t).map (fun p => (p.1, g ||| 2 ^ (4 * r) * enc p.2))
  | [], r, t, g => by simp [goN, goL, enc]
  | y :: ys, r, t, g => by
    rw [goN, goL]
    by_cases c : agN a t wi y = 0
    · rw [if_pos c, if_pos c, go_enc h6 ys (r + 1) t g, List.map_map]
      apply List.map_congr_left
      intro p _
      simp only [Function.comp, wcN, enc, vo, Nat.zero_add]
      rw [show 4 * (r + 1) = 4 * r + 4 by omega, Nat.pow_add, Nat.mul_assoc]
    · rw [if_neg c, if_neg c, List.map_flatMap]
      apply flc
      intro x hx
      rw [List.mem_range] at hx
      by_cases c2 : (agN a t wi y).testBit x = true
      · rw [if_pos c2, if_pos c2, go_enc h6 ys (r + 1) _ _, List.map_map]
        apply List.map_congr_left
        intro p _
        simp only [Function.comp, wcN, enc, vo]
        rw [enc_sh (by omega)]
      · rw [if_neg c2, if_neg c2, List.map_nil]
theorem gW_L {a : aS} (h6 : aN a ≤ 6) {x : sT} : gW a x = (goL a x.2.1 (glL a x.2.2) x.1).map (fun p => (p.1, enc p.2)) := by
  unfold gW
  rw [go_enc h6]
  apply List.map_congr_left
  intro p _
  simp
theorem rg_enc {t : Nat} : ∀ (l : List (Option Nat)) (k : Nat), (∀ x, some x ∈ l → x < 6) → rgN (t, enc l) k = l.getD k none
  | [], k, _ => by
    unfold rgN
    simp [enc]
  | o :: l, 0, h => by
    have ho : vo o < 16 := by
      cases o with
      | none => decide
      | some x => have := h x (by simp); show x + 1 < 16; omega
    unfold rgN
    simp only [enc, Nat.mul_zero, Nat.pow_zero, Nat.div_one, Nat.add_mul_mod_self_left, Nat.mod_eq_of_lt ho, List.getD_cons_zero]
    cases o with
    | none => rfl
    | some x => simp [vo]
  | o :: l, k + 1, h => by
    have ih := rg_enc (t := t) l k (fun x hx => h x (by simp [hx]))
    have ho : vo o < 16 := by
      cases o with
      | none => decide
      | some x => have := h x (by simp); show x + 1 < 16; omega
    have e : (vo o + 16 * enc l) / 2 ^ (4 * (k + 1)) = enc l / 2 ^ (4 * k) := by
      rw [show 4 * (k + 1) = 4 + 4 * k by omega, Nat.pow_add, ← Nat.div_div_eq_div_mul]
      congr 1
      omega
    rw [List.getD_cons_succ, ← ih]
    unfold rgN
    simp only [enc, e]
theorem ag_lt2 {a : aS} {t wi y : Nat} : agN a t wi y < 2 ^ aN a := bm_lt _ _
theorem ag_bit {a : aS} {t wi y x : Nat} (h : (agN a t wi y).testBit x = true) : x < aN a := by
  rcases Nat.lt_or_ge x (aN a) with q | q
  · exact q
  · have : (agN a t wi y).testBit x = false := Nat.testBit_lt_two_pow (Nat.lt_of_lt_of_le ag_lt2 (Nat.pow_le_pow_right (by omega) q))
    rw [this] at h; cases h
theorem wy_ok {a : aS} (hn : 0 < aN a) {wi : Nat} : ∀ (ys : List Nat) (c t : Nat) (p : wYr), wyN a wi ys c t = some p → t < 2 ^ aN a → p.1 < 2 ^ aN a ∧ p.2.length = ys.length ∧ ∀ x, some x ∈ p.2 → x < aN a
  | [], c, t, p, h, ht => by
    cases h
    exact ⟨ht, rfl, fun x hx => by cases hx⟩
  | y :: ys, c, t, p, h, ht => by
    rw [wyN] at h
    split at h
    · split at h
      · rw [Option.map_eq_some_iff] at h
        obtain ⟨q, hq, rfl⟩ := h
        obtain ⟨q1, q2, q3⟩ := wy_ok hn ys c t q hq ht
        refine ⟨q1, by simp only [wcN, List.length_cons, q2], fun x hx => ?_⟩
        simp only [wcN, List.mem_cons, reduceCtorEq, false_or] at hx
        exact q3 x hx
      · cases h
    · split at h
      · rw [Option.map_eq_some_iff] at h
        obtain ⟨q, hq, rfl⟩ := h
        have hd : c / aN a ^ ys.length % aN a < aN a := Nat.mod_lt _ hn
        obtain ⟨q1, q2, q3⟩ := wy_ok hn ys c _ q hq (or_lt ht hd)
        refine ⟨q1, by simp only [wcN, List.length_cons, q2], fun x hx => ?_⟩
        simp only [wcN, List.mem_cons, Option.some.injEq] at hx
        rcases hx with rfl | hx
        · exact hd
        · exact q3 x hx
      · cases h
theorem ag_ex {a : aS} {t wi y : Nat} (h : ¬ agN a t wi y = 0) : ∃ x, x < aN a ∧ (agN a t wi y).testBit x = true := by
  obtain ⟨x, hx⟩ := Nat.exists_testBit_of_ne_zero h
  exact ⟨x, ag_bit hx, hx⟩
theorem go_ne {a : aS} {wi : Nat} : ∀ (ys : List Nat) (t : Nat), ∃ p, p ∈ goL a wi ys t
  | [], t => ⟨(t, []), by simp [goL]⟩
  | y :: ys, t => by
    rw [goL]
    by_cases c : agN a t wi y = 0
    · rw [if_pos c]
      obtain ⟨p, hp⟩ := go_ne (a := a) (wi := wi) ys t
      exact ⟨_, List.mem_map_of_mem hp⟩
    · rw [if_neg c]
      obtain ⟨x, h1, h2⟩ := ag_ex c
      obtain ⟨p, hp⟩ := go_ne (a := a) (wi := wi) ys (t ||| 2 ^ x)
      refine ⟨wcN (some x) p, List.mem_flatMap.mpr ⟨x, List.mem_range.mpr h1, ?_⟩⟩
      rw [if_pos h2]
      exact List.mem_map_of_mem hp
theorem orL_bit {f : Nat → Nat} {j : Nat} : ∀ n, (orL f n).testBit j = true ↔ ∃ x, x < n ∧ (f x).testBit j = true
  | 0 => by simp [orL]
  | n + 1 => by
    rw [orL, Nat.testBit_or, Bool.or_eq_true, orL_bit n]
    constructor
    · rintro (⟨x, h1, h2⟩ | h)
      · exact ⟨x, by omega, h2⟩
      · exact ⟨n, by omega, h⟩
    · rintro ⟨x, h1, h2⟩
      by_cases c : x = n
      · subst c; exact .inr h2
      · exact .inl ⟨x, by omega, h2⟩
theorem rf_bit {a : aS} {wi j : Nat} : ∀ (ys : List Nat) (t : Nat), (rfN a wi ys t).testBit j = true ↔ ∃ p, p ∈ goL a wi ys t ∧ some j ∈ p.2
  | [], t => by simp [rfN, goL]
  | y :: ys, t => by
    rw [rfN, goL]
    by_cases c : agN a t wi y = 0
    · rw [if_pos c, if_pos c, rf_bit ys t]
      constructor
      · rintro ⟨p, h1, h2⟩
        exact ⟨_, List.mem_map_of_mem h1, by simp [wcN, h2]⟩
      · rintro ⟨p, h1, h2⟩
        rw [List.mem_map] at h1
        obtain ⟨q, h3, rfl⟩ := h1
        simp only [wcN, List.mem_cons, reduceCtorEq, false_or] at h2
        exact ⟨q, h3, h2⟩
    · rw [if_neg c, if_neg c, Nat.testBit_or, Bool.or_eq_true, orL_bit]
      constructor
      · rintro (h | ⟨x, h1, h2⟩)
        · obtain ⟨p, hp⟩ := go_ne (a := a) (wi := wi) ys (t ||| 2 ^ j)
          refine ⟨wcN (some j) p, List.mem_flatMap.mpr ⟨j, List.mem_range.mpr (ag_bit h), ?_⟩, by simp [wcN]⟩
          rw [if_pos h]
          exact List.mem_map_of_mem hp
        · split at h2
          · rename_i h3
            rw [rf_bit ys (t ||| 2 ^ x)] at h2
            obtain ⟨p, h4, h5⟩ := h2
            refine ⟨wcN (some x) p, List.mem_flatMap.mpr ⟨x, List.mem_range.mpr h1, ?_⟩, by simp [wcN, h5]⟩
            rw [if_pos h3]
            exact List.mem_map_of_mem h4
          · simp at h2
      · rintro ⟨p, h1, h2⟩
        rw [List.mem_flatMap] at h1
        obtain ⟨x, h3, h4⟩ := h1
        rw [List.mem_range] at h3
        split at h4
        · rename_i h5
          rw [List.mem_map] at h4
          obtain ⟨q, h6, rfl⟩ := h4
          simp only [wcN, List.mem_cons, Option.some.injEq] at h2
          rcases h2 with rfl | h2
          · exact .inl h5
          · refine .inr ⟨x, h3, ?_⟩
            rw [if_pos h5, rf_bit ys (t ||| 2 ^ x)]
            exact ⟨q, h6, h2⟩
        · cases h4
/-- rings as a set -/
def ro : List (Option Nat) → Nat
  | [] => 0
  | none :: l => ro l
  | some x :: l => 2 ^ x ||| ro l
def o2 : Option Nat → Nat
  | none => 0
  | some x => 2 ^ x
theorem ro_c {o : Option Nat} {l : List (Option Nat)} : ro (o :: l) = o2 o ||| ro l := by
  cases o with
  | none => show ro l = 0 ||| ro l; simp
  | some x => rfl
theorem ro_bit {j : Nat} : ∀ l, (ro l).testBit j = true ↔ some j ∈ l
  | [] => by simp [ro]
  | o :: l => by
    rw [ro_c, Nat.testBit_or, Bool.or_eq_true, ro_bit l, List.mem_cons]
    cases o with
    | none => simp [o2]
    | some x =>
      simp only [o2, Nat.testBit_two_pow, Option.some.injEq]
      constructor
      · rintro (h | h)
        · exact .inl (show x = j by simpa using h).symm
        · exact .inr h
      · rintro (h | h)
        · exact .inl (by simp [h])
        · exact .inr h
theorem ro_t {l : List (Option Nat)} : ∀ (k : Nat), k < l.length → ro (l.take (k + 1)) = ro (l.take k) ||| o2 (l.getD k none) := by
  induction l with
  | nil => intro k h; simp at h
  | cons o l ih =>
    intro k h
    cases k with
    | zero => simp only [List.take_succ_cons, List.take_zero, ro_c, List.getD_cons_zero]; simp [ro]
    | succ k =>
      simp only [List.length_cons] at h
      rw [List.take_succ_cons, ro_c, ih k (by omega), List.take_succ_cons, ro_c, List.getD_cons_succ, Nat.or_assoc]
def rsS : List wYr → Nat
  | [] => 0
  | p :: l => ro p.2 ||| rsS l
theorem rsS_app {p : wYr} : ∀ l, rsS (l ++ [p]) = rsS l ||| ro p.2
  | [] => by simp [rsS]
  | q :: l => by
    rw [List.cons_append, rsS, rsS_app l, rsS, Nat.or_assoc]
theorem rsS_bit {j : Nat} : ∀ l, (rsS l).testBit j = true ↔ ∃ p, p ∈ l ∧ some j ∈ p.2
  | [] => by simp [rsS]
  | q :: l => by
    rw [rsS, Nat.testBit_or, Bool.or_eq_true, ro_bit, rsS_bit l]
    simp only [List.mem_cons]
    constructor
    · rintro (h | ⟨p, h1, h2⟩)
      · exact ⟨q, .inl rfl, h⟩
      · exact ⟨p, .inr h1, h2⟩
    · rintro ⟨p, rfl | h1, h2⟩
      · exact .inl h2
      · exact .inr ⟨p, h1, h2⟩
theorem rf_S {a : aS} {wi : Nat} (ys : List Nat) (t : Nat) : rfN a wi ys t = rsS (goL a wi ys t) := by
  apply Nat.eq_of_testBit_eq
  intro j
  rw [Bool.eq_iff_iff, rf_bit, rsS_bit]
/-- the ways found among the first codes -/
noncomputable def wpN (a : aS) (x : sT) (c : Nat) : List wYr := (List.range c).filterMap (fun c => wyN a x.2.1 (glL a x.2.2) c x.1)
noncomputable def wcC (a : aS) (x : sT) : Nat := aN a ^ (glL a x.2.2).length
noncomputable def wyX (a : aS) (x : sT) (c : Nat) : Option wYr := wyN a x.2.1 (glL a x.2.2) c x.1
theorem wp_s {a : aS} {x : sT} {c : Nat} : wpN a x (c + 1) = wpN a x c ++ (wyX a x c).toList := by
  unfold wpN wyX
  rw [List.range_succ, List.filterMap_append]
  congr 1
theorem wp_some {a : aS} {x : sT} {c : Nat} {p : wYr} (h : wyX a x c = some p) : wpN a x (c + 1) = wpN a x c ++ [p] := by rw [wp_s, h]; rfl
theorem wp_none {a : aS} {x : sT} {c : Nat} (h : wyX a x c = none) : wpN a x (c + 1) = wpN a x c := by rw [wp_s, h]; simp
theorem wp_all {a : aS} (hn : 0 < aN a) {x : sT} : wpN a x (wcC a x) = goL a x.2.1 (glL a x.2.2) x.1 := wy_go hn _ _
theorem wp_len {a : aS} {x : sT} : ∀ c, (wpN a x c).length ≤ c
  | 0 => by simp [wpN]
  | c + 1 => by
    have := wp_len (a := a) (x := x) c
    cases h : wyX a x c with
    | none => rw [wp_none h]; omega
    | some p => rw [wp_some h, List.length_append, List.length_singleton]; omega
theorem wp_pre {a : aS} {x : sT} {c : Nat} : ∀ m, ∃ l, wpN a x (c + m) = wpN a x c ++ l
  | 0 => ⟨[], by simp⟩
  | m + 1 => by
    obtain ⟨l, hl⟩ := wp_pre (a := a) (x := x) (c := c) m
    rw [← Nat.add_assoc, wp_s, hl]
    exact ⟨l ++ (wyX a x (c + m)).toList, by rw [List.append_assoc]⟩
theorem wp_get {a : aS} {x : sT} {c C : Nat} {p q : wYr} (hc : c < C) (h : wyX a x c = some p) : (wpN a x C).getD (wpN a x c).length q = p := by
  obtain ⟨l, hl⟩ := wp_pre (a := a) (x := x) (c := c + 1) (C - (c + 1))
  rw [show c + 1 + (C - (c + 1)) = C by omega, wp_some h] at hl
  rw [hl, List.append_assoc]
  simp [List.getD_eq_getElem?_getD]
theorem wp_lt {a : aS} {x : sT} {c C : Nat} {p : wYr} (hc : c < C) (h : wyX a x c = some p) : (wpN a x c).length < (wpN a x C).length := by
  obtain ⟨l, hl⟩ := wp_pre (a := a) (x := x) (c := c + 1) (C - (c + 1))
  rw [show c + 1 + (C - (c + 1)) = C by omega, wp_some h] at hl
  rw [hl]
  simp
/-- how many glasses are to come -/
def gcN (a : aS) (y : Nat) : Nat → Nat
  | 0 => 0
  | i + 1 => gcN a y i + (if y ≤ aGd a i then 1 else 0)
theorem frN_sp {a : aS} {y : Nat} : ∀ k i, (∀ j, i ≤ j → j < frN a y k i → aGd a j < y) ∧ (frN a y k i < i + k → y ≤ aGd a (frN a y k i))
  | 0, i => ⟨fun j h1 h2 => by rw [frN] at h2; omega, fun h => by rw [frN] at h; omega⟩
  | k + 1, i => by
    obtain ⟨i1, i2⟩ := frN_sp (a := a) (y := y) k (i + 1)
    rw [frN]
    split
    · rename_i c
      refine ⟨fun j h1 h2 => ?_, fun h => i2 (by omega)⟩
      by_cases e : j = i
      · rw [e]; exact c
      · exact i1 j (by omega) h2
    · exact ⟨fun j h1 h2 => by omega, fun _ => by omega⟩
theorem gc_lo {a : aS} {y : Nat} : ∀ i, i ≤ fr a y → gcN a y i = 0
  | 0, _ => rfl
  | i + 1, h => by
    have := (frN_sp (a := a) (y := y) (aGl a) 0).1 i (by omega) h
    rw [gcN, gc_lo i (by omega), if_neg (by omega)]
theorem gc_hi {a : aS} (w : aW a) {y : Nat} : ∀ i, fr a y ≤ i → i ≤ aGl a → gcN a y i = i - fr a y
  | 0, h, _ => by
    show 0 = 0 - fr a y
    omega
  | i + 1, h, h2 => by
    by_cases c : fr a y = i + 1
    · rw [gc_lo (i + 1) (by omega), c]; omega
    · have hf : y ≤ aGd a (fr a y) := (frN_sp (a := a) (y := y) (aGl a) 0).2 (by show fr a y < 0 + aGl a; omega)
      have : y ≤ aGd a i := by
        by_cases e : fr a y = i
        · rw [← e]; exact hf
        · have := w.2.2.2.2.2.2.2.2.2.1 (fr a y) i (by omega) (by omega)
          omega
      rw [gcN, gc_hi w i (by omega) (by omega), if_pos this]
      omega
theorem gc_all {a : aS} (w : aW a) {y : Nat} : gcN a y (aGl a) = (glL a y).length := by rw [gc_hi w _ fr_le (Nat.le_refl _), glL_len]
theorem pwN {n m : Nat} (hn : n ≤ 6) (hm : m ≤ 4) : n ^ m ≤ 1296 := Nat.le_trans (Nat.pow_le_pow_left hn m) (Nat.pow_le_pow_right (n := 6) (by omega) hm)
