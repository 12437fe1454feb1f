/-! ===== the plain machine's cells as the machine's ===== -/
def tv (ek : Nat → Value) (ad : Nat → Nat) : Value → Value
  | .ref a => .ref (ad a)
  | .retAddr j => ek j
  | v => v
def okv (n : Nat) : Value → Prop
  | .ref a => a < n
  | _ => True
def okS (n : Nat) : List Value → Prop
  | [] => True
  | v :: l => okv n v ∧ okS n l
def okO (n : Nat) : Option Value → Prop
  | some v => okv n v
  | none => True
def okL (n : Nat) : qL → Prop
  | [] => True
  | o :: l => okO n o ∧ okL n l
theorem okv_le {n k : Nat} (h : n ≤ k) {v : Value} (o : okv n v) : okv k v := by
  cases v with
  | ref a => exact Nat.lt_of_lt_of_le o h
  | _ => trivial
theorem okS_le {n k : Nat} (h : n ≤ k) : ∀ {l : List Value}, okS n l → okS k l
  | [], _ => trivial
  | _ :: _, o => ⟨okv_le h o.1, okS_le h o.2⟩
theorem okL_le {n k : Nat} (h : n ≤ k) : ∀ {l : qL}, okL n l → okL k l
  | [], _ => trivial
  | none :: _, o => ⟨trivial, okL_le h o.2⟩
  | some _ :: _, o => ⟨okv_le h o.1, okL_le h o.2⟩
theorem okL_lg {n : Nat} : ∀ {l : qL} {i : Nat} {v : Value}, okL n l → lg l i = some v → okv n v
  | [], _, _, _, e => by simp [lg] at e
  | o :: l, 0, v, h, e => by
    simp only [lg] at e
    subst e
    exact h.1
  | o :: l, i + 1, v, h, e => okL_lg h.2 (by simpa only [lg] using e)
theorem tv_up {ek : Nat → Value} {ad ad' : Nat → Nat} {n : Nat} (h : ∀ a, a < n → ad' a = ad a) {v : Value} (o : okv n v) : tv ek ad' v = tv ek ad v := by
  cases v with
  | ref a => exact congrArg Value.ref (h a o)
  | _ => rfl
theorem tv_upS {ek : Nat → Value} {ad ad' : Nat → Nat} {n : Nat} (h : ∀ a, a < n → ad' a = ad a) : ∀ {l : List Value}, okS n l → l.map (tv ek ad') = l.map (tv ek ad)
  | [], _ => rfl
  | v :: l, o => by rw [List.map_cons, List.map_cons, tv_up h o.1, tv_upS h o.2]
theorem tv_cat {ek : Nat → Value} (he : ∀ j, (ek j).category = 1) (ad : Nat → Nat) (v : Value) : (tv ek ad v).category = v.category := by
  cases v with
  | retAddr j => exact he j
  | _ => rfl
theorem tv_catS {ek : Nat → Value} (he : ∀ j, (ek j).category = 1) (ad : Nat → Nat) : ∀ l : List Value, ((l.map (tv ek ad)).map fun v => v.category).sum = (l.map fun v => v.category).sum
  | [] => rfl
  | v :: l => by simp only [List.map_cons, List.sum_cons, tv_cat he, tv_catS he ad l]
/-- the locals -/
def lvOf (ek : Nat → Value) (ad : Nat → Nat) : Nat → qL → List (Nat × Value)
  | _, [] => []
  | j, some v :: l => (j, tv ek ad v) :: lvOf ek ad (j + 1) l
  | j, none :: l => lvOf ek ad (j + 1) l
theorem lvOf_mem {ek : Nat → Value} {ad : Nat → Nat} : ∀ {l : qL} {j i : Nat} {v : Value}, lg l i = some v → (j + i, tv ek ad v) ∈ lvOf ek ad j l
  | [], _, _, _, e => by simp [lg] at e
  | o :: l, j, 0, v, e => by
    simp only [lg] at e
    subst e
    exact List.mem_cons_self
  | some w :: l, j, i + 1, v, e => by
    have h := lvOf_mem (ek := ek) (ad := ad) (j := j + 1) (show lg l i = some v by simpa only [lg] using e)
    rw [show j + (i + 1) = j + 1 + i by omega]
    exact List.mem_cons_of_mem _ h
  | none :: l, j, i + 1, v, e => by
    have h := lvOf_mem (ek := ek) (ad := ad) (j := j + 1) (show lg l i = some v by simpa only [lg] using e)
    rw [show j + (i + 1) = j + 1 + i by omega]
    exact h
theorem lvOf_inv {ek : Nat → Value} {ad : Nat → Nat} : ∀ {l : qL} {j : Nat} {q : Nat × Value}, q ∈ lvOf ek ad j l → ∃ i v, q = (j + i, tv ek ad v) ∧ lg l i = some v
  | [], _, _, h => by simp [lvOf] at h
  | some w :: l, j, q, h => by
    rcases List.mem_cons.mp h with h | h
    · exact ⟨0, w, h, rfl⟩
    · obtain ⟨i, v, h1, h2⟩ := lvOf_inv h
      exact ⟨i + 1, v, by rw [h1]; congr 1; omega, h2⟩
  | none :: l, j, q, h => by
    obtain ⟨i, v, h1, h2⟩ := lvOf_inv (l := l) (j := j + 1) h
    exact ⟨i + 1, v, by rw [h1]; congr 1; omega, h2⟩
def lH (ek : Nat → Value) (ad : Nat → Nat) (ls : qL) (ms : Array Slot) (n : Nat) : Prop := ls.length = n ∧ lv_has ms n (lvOf ek ad 0 ls)
theorem lH_at {ek : Nat → Value} {ad : Nat → Nat} {ls : qL} {ms : Array Slot} {n i : Nat} {v : Value} (h : lH ek ad ls ms n) (e : lg ls i = some v) : ms[i]? = some (.val (tv ek ad v)) := by
  have h1 := h.2.2.2 _ (lvOf_mem (ek := ek) (ad := ad) (j := 0) e)
  simpa using h1
theorem lH_up {ek : Nat → Value} {ad ad' : Nat → Nat} {ls : qL} {ms : Array Slot} {n k : Nat} (hk : ∀ a, a < k → ad' a = ad a) (o : okL k ls) (h : lH ek ad ls ms n) : lH ek ad' ls ms n := by
  refine ⟨h.1, h.2.1, h.2.2.1, fun q hq => ?_⟩
  obtain ⟨i, v, rfl, h2⟩ := lvOf_inv hq
  rw [tv_up hk (okL_lg o h2)]
  have := lH_at h h2
  simpa using this
theorem ls1_len : ∀ (l : qL) (i : Nat) (v : Value), (ls1 l i v).length = l.length
  | [], _, _ => rfl
  | _ :: _, 0, _ => rfl
  | a :: l, 1, v => by simp only [ls1, List.length_cons, ls1_len l 0 v]
  | a :: l, i + 2, v => by simp only [ls1, List.length_cons, ls1_len l (i + 1) v]
theorem ls2_len : ∀ (l : qL) (i : Nat) (v : Value), (ls2 l i v).length = l.length
  | [], _, _ => rfl
  | [_], 0, _ => rfl
  | [_], _ + 1, _ => rfl
  | _ :: _ :: _, 0, _ => rfl
  | a :: b :: l, 1, v => by simp only [ls2, List.length_cons, ls2_len (b :: l) 0 v]
  | a :: b :: l, i + 2, v => by simp only [ls2, List.length_cons, ls2_len (b :: l) (i + 1) v]
theorem kl_some {o : Option Value} {v : Value} (h : kl o = some v) : o = some v ∧ v.category = 1 := by
  cases o with
  | none => simp [kl] at h
  | some w => cases w <;> simp_all [kl, Value.category] <;> subst h <;> rfl
theorem ls1_lg : ∀ {l : qL} {i : Nat} {v : Value} {k : Nat} {w : Value}, lg (ls1 l i v) k = some w → (k = i ∧ w = v) ∨ (k ≠ i ∧ lg l k = some w ∧ ¬ (k + 1 = i ∧ w.category = 2))
  | [], _, _, _, _, h => by simp [ls1, lg] at h
  | a :: l, 0, v, 0, w, h => by simp only [ls1, lg, Option.some.injEq] at h; exact Or.inl ⟨rfl, h.symm⟩
  | a :: l, 0, v, k + 1, w, h => Or.inr ⟨by omega, by simpa only [ls1, lg] using h, by omega⟩
  | a :: l, 1, v, 0, w, h => by
    simp only [ls1, lg] at h
    obtain ⟨h1, h2⟩ := kl_some h
    exact Or.inr ⟨by omega, by simp only [lg]; exact h1, by omega⟩
  | a :: l, 1, v, k + 1, w, h => by
    rcases ls1_lg (l := l) (i := 0) (v := v) (k := k) (w := w) (by simpa only [ls1, lg] using h) with ⟨h1, h2⟩ | ⟨h1, h2, h3⟩
    · exact Or.inl ⟨by omega, h2⟩
    · exact Or.inr ⟨by omega, by simp only [lg]; exact h2, by omega⟩
  | a :: l, i + 2, v, 0, w, h => Or.inr ⟨by omega, by simpa only [ls1, lg] using h, by omega⟩
  | a :: l, i + 2, v, k + 1, w, h => by
    rcases ls1_lg (l := l) (i := i + 1) (v := v) (k := k) (w := w) (by simpa only [ls1, lg] using h) with ⟨h1, h2⟩ | ⟨h1, h2, h3⟩
    · exact Or.inl ⟨by omega, h2⟩
    · exact Or.inr ⟨by omega, by simp only [lg]; exact h2, fun q => h3 ⟨by omega, q.2⟩⟩
theorem ls2_lg : ∀ {l : qL} {i : Nat} {v : Value} {k : Nat} {w : Value}, i + 1 < l.length → lg (ls2 l i v) k = some w → (k = i ∧ w = v) ∨ (k ≠ i ∧ k ≠ i + 1 ∧ lg l k = some w ∧ ¬ (k + 1 = i ∧ w.category = 2))
  | [], _, _, _, _, hl, _ => by simp at hl
  | [_], _, _, _, _, hl, _ => by simp at hl
  | a :: b :: l, 0, v, 0, w, hl, h => by simp only [ls2, lg, Option.some.injEq] at h; exact Or.inl ⟨rfl, h.symm⟩
  | a :: b :: l, 0, v, 1, w, hl, h => by simp [ls2, lg] at h
  | a :: b :: l, 0, v, k + 2, w, hl, h => Or.inr ⟨by omega, by omega, by simpa only [ls2, lg] using h, by omega⟩
  | a :: b :: l, 1, v, 0, w, hl, h => by
    simp only [ls2, lg] at h
    obtain ⟨h1, h2⟩ := kl_some h
    exact Or.inr ⟨by omega, by omega, by simp only [lg]; exact h1, by omega⟩
  | a :: b :: l, 1, v, k + 1, w, hl, h => by
    rcases ls2_lg (l := b :: l) (i := 0) (v := v) (k := k) (w := w) (by simpa using hl) (by simpa only [ls2, lg] using h) with ⟨h1, h2⟩ | ⟨h1, h2, h3, h4⟩
    · exact Or.inl ⟨by omega, h2⟩
    · exact Or.inr ⟨by omega, by omega, by simp only [lg]; exact h3, by omega⟩
  | a :: b :: l, i + 2, v, 0, w, hl, h => Or.inr ⟨by omega, by omega, by simpa only [ls2, lg] using h, by omega⟩
  | a :: b :: l, i + 2, v, k + 1, w, hl, h => by
    rcases ls2_lg (l := b :: l) (i := i + 1) (v := v) (k := k) (w := w) (by simp only [List.length_cons] at hl ⊢; omega) (by simpa only [ls2, lg] using h) with ⟨h1, h2⟩ | ⟨h1, h2, h3, h4⟩
    · exact Or.inl ⟨by omega, h2⟩
    · exact Or.inr ⟨by omega, by omega, by simp only [lg]; exact h3, fun q => h4 ⟨by omega, q.2⟩⟩
theorem okL_ls1 {n : Nat} {l : qL} {i : Nat} {v : Value} (o : okL n l) (ov : okv n v) : okL n (ls1 l i v) := by
  have key : ∀ (l : qL), (∀ k w, lg l k = some w → okv n w) → okL n l := by
    intro l
    induction l with
    | nil => intro _; trivial
    | cons a l ih =>
      intro h
      refine ⟨?_, ih fun k w e => h (k + 1) w (by simp only [lg]; exact e)⟩
      cases a with
      | none => trivial
      | some w => exact h 0 w rfl
  refine key _ fun k w e => ?_
  rcases ls1_lg e with ⟨-, h⟩ | ⟨-, h, -⟩
  · rw [h]; exact ov
  · exact okL_lg o h
theorem okL_ls2 {n : Nat} {l : qL} {i : Nat} {v : Value} (hl : i + 1 < l.length) (o : okL n l) (ov : okv n v) : okL n (ls2 l i v) := by
  have key : ∀ (l : qL), (∀ k w, lg l k = some w → okv n w) → okL n l := by
    intro l
    induction l with
    | nil => intro _; trivial
    | cons a l ih =>
      intro h
      refine ⟨?_, ih fun k w e => h (k + 1) w (by simp only [lg]; exact e)⟩
      cases a with
      | none => trivial
      | some w => exact h 0 w rfl
  refine key _ fun k w e => ?_
  rcases ls2_lg hl e with ⟨-, h⟩ | ⟨-, -, h, -⟩
  · rw [h]; exact ov
  · exact okL_lg o h
theorem lH_s1 {ek : Nat → Value} (he : ∀ j, (ek j).category = 1) {ad : Nat → Nat} {ls : qL} {ms ms' : Array Slot} {n i : Nat} {v : Value} (h : lH ek ad ls ms n) (hs : lv_has ms' n ((i, tv ek ad v) :: (lvOf ek ad 0 ls).filter (fun q => !(q.1 == i) && !(q.1 + 1 == i && q.2.category == 2)))) : lH ek ad (ls1 ls i v) ms' n := by
  refine ⟨by rw [ls1_len]; exact h.1, hs.1, hs.2.1, fun q hq => ?_⟩
  obtain ⟨k, w, rfl, h2⟩ := lvOf_inv hq
  refine hs.2.2 _ ?_
  rcases ls1_lg h2 with ⟨rfl, rfl⟩ | ⟨h3, h4, h5⟩
  · simp
  · refine List.mem_cons_of_mem _ (List.mem_filter.mpr ⟨lvOf_mem h4, ?_⟩)
    simp only [Nat.zero_add, tv_cat he, Bool.and_eq_true, Bool.not_eq_true', beq_eq_false_iff_ne, ne_eq]
    refine ⟨h3, ?_⟩
    rcases lv_cat w with c | c
    · simp [c]
    · have : ¬ k + 1 = i := fun q => h5 ⟨q, c⟩
      simp [this]
theorem lH_s2 {ek : Nat → Value} (he : ∀ j, (ek j).category = 1) {ad : Nat → Nat} {ls : qL} {ms ms' : Array Slot} {n i : Nat} {v : Value} (hi : i + 1 < n) (h : lH ek ad ls ms n) (hs : lv_has ms' n ((i, tv ek ad v) :: (lvOf ek ad 0 ls).filter (fun q => !(q.1 == i) && (!(q.1 == i + 1) && !(q.1 + 1 == i && q.2.category == 2))))) : lH ek ad (ls2 ls i v) ms' n := by
  refine ⟨by rw [ls2_len]; exact h.1, hs.1, hs.2.1, fun q hq => ?_⟩
  obtain ⟨k, w, rfl, h2⟩ := lvOf_inv hq
  refine hs.2.2 _ ?_
  rcases ls2_lg (by rw [h.1]; exact hi) h2 with ⟨rfl, rfl⟩ | ⟨h3, h3', h4, h5⟩
  · simp
  · refine List.mem_cons_of_mem _ (List.mem_filter.mpr ⟨lvOf_mem h4, ?_⟩)
    simp only [Nat.zero_add, tv_cat he, Bool.and_eq_true, Bool.not_eq_true', beq_eq_false_iff_ne, ne_eq]
    refine ⟨h3, h3', ?_⟩
    rcases lv_cat w with c | c
    · simp [c]
    · have : ¬ k + 1 = i := fun q => h5 ⟨q, c⟩
      simp [this]
/-- a field's value -/
def fv (ad : Nat → Nat) (h : qH) (a k : Nat) (t : FieldType) : Value := match t with
  | .long => .long (hJ h a k)
  | .object _ => va_rf ((hR h a k).map ad)
  | .array _ => va_rf ((hR h a k).map ad)
  | _ => .int (hI h a k)
theorem fv_tv (ek : Nat → Value) (ad : Nat → Nat) (h : qH) (a k : Nat) (t : FieldType) : tv ek ad (fvP h a k t) = fv ad h a k t := by
  cases t <;> simp only [fvP, fv, tv] <;> cases hR h a k <;> rfl
def qcel (cB cI cJ : ClassId) (ad : Nat → Nat) (h : qH) (a : Nat) : va_E :=
  if (kd a).1 = 10 then .inl (cB, (kd a).2, .inl (hI h a)) else if (kd a).1 = 11 then .inl (cI, (kd a).2, .inl (hI h a)) else if (kd a).1 = 12 then .inl (cJ, (kd a).2, .inr (.inl (hJ h a)))
  else .inr ((kd a).1, (List.range (nFT (kd a).1)).map (fun k => fv ad h a k (fTT (kd a).1 k)))
def qw (cB cI cJ : ClassId) (ad : Nat → Nat) (h : qH) : va_W := (List.range (hN h)).map (fun a => (ad a, qcel cB cI cJ ad h a))
def hwf (h : qH) : Prop := ∀ a, a < hN h → ∀ k b, hR h a k = some b → b < hN h
section
variable {cB cI cJ : ClassId} {ad : Nat → Nat} {h : qH}
theorem qw_at {a : Nat} (ha : a < hN h) : (qw cB cI cJ ad h)[a]? = some (ad a, qcel cB cI cJ ad h a) := by
  simp [qw, ha]
theorem qw_len : (qw cB cI cJ ad h).length = hN h := by simp [qw]
theorem qw_set {h' : qH} {a : Nat} (hn : hN h' = hN h) (hb : ∀ b, b ≠ a → qcel cB cI cJ ad h' b = qcel cB cI cJ ad h b) : (qw cB cI cJ ad h).set a (ad a, qcel cB cI cJ ad h' a) = qw cB cI cJ ad h' := by
  apply List.ext_getElem?
  intro i
  by_cases hi : i < hN h
  · rw [qw_at (h := h') (by omega)]
    by_cases hia : i = a
    · subst hia
      rw [List.getElem?_set_self (by rw [qw_len]; exact hi)]
    · rw [List.getElem?_set_ne (Ne.symm hia), qw_at hi, hb i hia]
  · rw [List.getElem?_eq_none (by rw [List.length_set, qw_len]; omega), List.getElem?_eq_none (by rw [qw_len]; omega)]
theorem qcel_I {a b : Nat} {f : Nat → Int32} (hb : b ≠ a) : qcel cB cI cJ ad (wI h a f) b = qcel cB cI cJ ad h b := by
  have e : hI (wI h a f) b = hI h b := by simp [hI, wI, va_up, hb]
  simp only [qcel, e, show hJ (wI h a f) = hJ h from rfl]
  congr 4
  refine congrArg (Prod.mk _) (congrArg (fun f => List.map f _) (funext fun k => ?_))
  simp only [fv, e, show hJ (wI h a f) = hJ h from rfl, show hR (wI h a f) = hR h from rfl]
theorem qcel_J {a b : Nat} {f : Nat → Int64} (hb : b ≠ a) : qcel cB cI cJ ad (wJ h a f) b = qcel cB cI cJ ad h b := by
  have e : hJ (wJ h a f) b = hJ h b := by simp [hJ, wJ, va_up, hb]
  simp only [qcel, e, show hI (wJ h a f) = hI h from rfl]
  congr 4
  refine congrArg (Prod.mk _) (congrArg (fun f => List.map f _) (funext fun k => ?_))
  simp only [fv, e, show hI (wJ h a f) = hI h from rfl, show hR (wJ h a f) = hR h from rfl]
theorem qcel_R {a b : Nat} {f : Nat → Option Nat} (hb : b ≠ a) : qcel cB cI cJ ad (wR h a f) b = qcel cB cI cJ ad h b := by
  have e : hR (wR h a f) b = hR h b := by simp [hR, wR, va_up, hb]
  simp only [qcel, show hI (wR h a f) = hI h from rfl, show hJ (wR h a f) = hJ h from rfl]
  congr 4
  refine congrArg (Prod.mk _) (congrArg (fun f => List.map f _) (funext fun k => ?_))
  simp only [fv, e, show hI (wR h a f) = hI h from rfl, show hJ (wR h a f) = hJ h from rfl]
end
