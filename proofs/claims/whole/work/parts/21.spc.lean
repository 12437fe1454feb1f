/-! ===== the references that never change ===== -/
def finT : List (Nat × Nat × Nat) := [(0, 2, 25), (0, 3, 27), (0, 4, 29), (0, 5, 32), (0, 6, 37), (0, 7, 39), (1, 2, 2), (1, 3, 3), (1, 4, 4), (1, 5, 5), (1, 8, 6), (1, 9, 7), (1, 10, 8), (1, 12, 9), (1, 14, 10), (1, 16, 11), (1, 17, 12), (13, 2, 14), (13, 3, 15), (13, 4, 16), (13, 5, 17), (13, 8, 18), (13, 9, 19), (13, 10, 20), (13, 12, 21), (13, 14, 22), (13, 16, 23), (13, 17, 24), (25, 0, 26), (27, 0, 25), (27, 1, 28), (29, 3, 30), (29, 6, 31), (32, 1, 33), (32, 2, 34), (32, 3, 35), (32, 4, 36), (37, 0, 32), (37, 1, 38), (39, 0, 32), (39, 1, 40), (39, 2, 41), (39, 3, 42), (39, 4, 43), (44, 5, 45), (44, 15, 46), (44, 16, 47), (44, 17, 48), (44, 18, 49), (44, 21, 50), (44, 23, 51), (44, 24, 52), (44, 25, 53), (44, 29, 54), (44, 33, 55)]
def Fin0 (r : Nat → Nat → Option Nat) : Prop := ∀ e ∈ finT, r e.1 e.2.1 = some e.2.2
theorem fin_0_2 {r : Nat → Nat → Option Nat} (F : Fin0 r) : r 0 2 = some 25 := F (0, 2, 25) (by decide)
theorem fin_0_3 {r : Nat → Nat → Option Nat} (F : Fin0 r) : r 0 3 = some 27 := F (0, 3, 27) (by decide)
theorem fin_0_4 {r : Nat → Nat → Option Nat} (F : Fin0 r) : r 0 4 = some 29 := F (0, 4, 29) (by decide)
theorem fin_0_5 {r : Nat → Nat → Option Nat} (F : Fin0 r) : r 0 5 = some 32 := F (0, 5, 32) (by decide)
theorem fin_0_6 {r : Nat → Nat → Option Nat} (F : Fin0 r) : r 0 6 = some 37 := F (0, 6, 37) (by decide)
theorem fin_0_7 {r : Nat → Nat → Option Nat} (F : Fin0 r) : r 0 7 = some 39 := F (0, 7, 39) (by decide)
theorem fin_1_2 {r : Nat → Nat → Option Nat} (F : Fin0 r) : r 1 2 = some 2 := F (1, 2, 2) (by decide)
theorem fin_1_3 {r : Nat → Nat → Option Nat} (F : Fin0 r) : r 1 3 = some 3 := F (1, 3, 3) (by decide)
theorem fin_1_4 {r : Nat → Nat → Option Nat} (F : Fin0 r) : r 1 4 = some 4 := F (1, 4, 4) (by decide)
theorem fin_1_5 {r : Nat → Nat → Option Nat} (F : Fin0 r) : r 1 5 = some 5 := F (1, 5, 5) (by decide)
theorem fin_1_8 {r : Nat → Nat → Option Nat} (F : Fin0 r) : r 1 8 = some 6 := F (1, 8, 6) (by decide)
theorem fin_1_9 {r : Nat → Nat → Option Nat} (F : Fin0 r) : r 1 9 = some 7 := F (1, 9, 7) (by decide)
theorem fin_1_10 {r : Nat → Nat → Option Nat} (F : Fin0 r) : r 1 10 = some 8 := F (1, 10, 8) (by decide)
theorem fin_1_12 {r : Nat → Nat → Option Nat} (F : Fin0 r) : r 1 12 = some 9 := F (1, 12, 9) (by decide)
theorem fin_1_14 {r : Nat → Nat → Option Nat} (F : Fin0 r) : r 1 14 = some 10 := F (1, 14, 10) (by decide)
theorem fin_1_16 {r : Nat → Nat → Option Nat} (F : Fin0 r) : r 1 16 = some 11 := F (1, 16, 11) (by decide)
theorem fin_1_17 {r : Nat → Nat → Option Nat} (F : Fin0 r) : r 1 17 = some 12 := F (1, 17, 12) (by decide)
theorem fin_13_2 {r : Nat → Nat → Option Nat} (F : Fin0 r) : r 13 2 = some 14 := F (13, 2, 14) (by decide)
theorem fin_13_3 {r : Nat → Nat → Option Nat} (F : Fin0 r) : r 13 3 = some 15 := F (13, 3, 15) (by decide)
theorem fin_13_4 {r : Nat → Nat → Option Nat} (F : Fin0 r) : r 13 4 = some 16 := F (13, 4, 16) (by decide)
theorem fin_13_5 {r : Nat → Nat → Option Nat} (F : Fin0 r) : r 13 5 = some 17 := F (13, 5, 17) (by decide)
theorem fin_13_8 {r : Nat → Nat → Option Nat} (F : Fin0 r) : r 13 8 = some 18 := F (13, 8, 18) (by decide)
theorem fin_13_9 {r : Nat → Nat → Option Nat} (F : Fin0 r) : r 13 9 = some 19 := F (13, 9, 19) (by decide)
theorem fin_13_10 {r : Nat → Nat → Option Nat} (F : Fin0 r) : r 13 10 = some 20 := F (13, 10, 20) (by decide)
theorem fin_13_12 {r : Nat → Nat → Option Nat} (F : Fin0 r) : r 13 12 = some 21 := F (13, 12, 21) (by decide)
theorem fin_13_14 {r : Nat → Nat → Option Nat} (F : Fin0 r) : r 13 14 = some 22 := F (13, 14, 22) (by decide)
theorem fin_13_16 {r : Nat → Nat → Option Nat} (F : Fin0 r) : r 13 16 = some 23 := F (13, 16, 23) (by decide)
theorem fin_13_17 {r : Nat → Nat → Option Nat} (F : Fin0 r) : r 13 17 = some 24 := F (13, 17, 24) (by decide)
theorem fin_25_0 {r : Nat → Nat → Option Nat} (F : Fin0 r) : r 25 0 = some 26 := F (25, 0, 26) (by decide)
theorem fin_27_0 {r : Nat → Nat → Option Nat} (F : Fin0 r) : r 27 0 = some 25 := F (27, 0, 25) (by decide)
theorem fin_27_1 {r : Nat → Nat → Option Nat} (F : Fin0 r) : r 27 1 = some 28 := F (27, 1, 28) (by decide)
theorem fin_29_3 {r : Nat → Nat → Option Nat} (F : Fin0 r) : r 29 3 = some 30 := F (29, 3, 30) (by decide)
theorem fin_29_6 {r : Nat → Nat → Option Nat} (F : Fin0 r) : r 29 6 = some 31 := F (29, 6, 31) (by decide)
theorem fin_32_1 {r : Nat → Nat → Option Nat} (F : Fin0 r) : r 32 1 = some 33 := F (32, 1, 33) (by decide)
theorem fin_32_2 {r : Nat → Nat → Option Nat} (F : Fin0 r) : r 32 2 = some 34 := F (32, 2, 34) (by decide)
theorem fin_32_3 {r : Nat → Nat → Option Nat} (F : Fin0 r) : r 32 3 = some 35 := F (32, 3, 35) (by decide)
theorem fin_32_4 {r : Nat → Nat → Option Nat} (F : Fin0 r) : r 32 4 = some 36 := F (32, 4, 36) (by decide)
theorem fin_37_0 {r : Nat → Nat → Option Nat} (F : Fin0 r) : r 37 0 = some 32 := F (37, 0, 32) (by decide)
theorem fin_37_1 {r : Nat → Nat → Option Nat} (F : Fin0 r) : r 37 1 = some 38 := F (37, 1, 38) (by decide)
theorem fin_39_0 {r : Nat → Nat → Option Nat} (F : Fin0 r) : r 39 0 = some 32 := F (39, 0, 32) (by decide)
theorem fin_39_1 {r : Nat → Nat → Option Nat} (F : Fin0 r) : r 39 1 = some 40 := F (39, 1, 40) (by decide)
theorem fin_39_2 {r : Nat → Nat → Option Nat} (F : Fin0 r) : r 39 2 = some 41 := F (39, 2, 41) (by decide)
theorem fin_39_3 {r : Nat → Nat → Option Nat} (F : Fin0 r) : r 39 3 = some 42 := F (39, 3, 42) (by decide)
theorem fin_39_4 {r : Nat → Nat → Option Nat} (F : Fin0 r) : r 39 4 = some 43 := F (39, 4, 43) (by decide)
theorem fin_44_5 {r : Nat → Nat → Option Nat} (F : Fin0 r) : r 44 5 = some 45 := F (44, 5, 45) (by decide)
theorem fin_44_15 {r : Nat → Nat → Option Nat} (F : Fin0 r) : r 44 15 = some 46 := F (44, 15, 46) (by decide)
theorem fin_44_16 {r : Nat → Nat → Option Nat} (F : Fin0 r) : r 44 16 = some 47 := F (44, 16, 47) (by decide)
theorem fin_44_17 {r : Nat → Nat → Option Nat} (F : Fin0 r) : r 44 17 = some 48 := F (44, 17, 48) (by decide)
theorem fin_44_18 {r : Nat → Nat → Option Nat} (F : Fin0 r) : r 44 18 = some 49 := F (44, 18, 49) (by decide)
theorem fin_44_21 {r : Nat → Nat → Option Nat} (F : Fin0 r) : r 44 21 = some 50 := F (44, 21, 50) (by decide)
theorem fin_44_23 {r : Nat → Nat → Option Nat} (F : Fin0 r) : r 44 23 = some 51 := F (44, 23, 51) (by decide)
theorem fin_44_24 {r : Nat → Nat → Option Nat} (F : Fin0 r) : r 44 24 = some 52 := F (44, 24, 52) (by decide)
theorem fin_44_25 {r : Nat → Nat → Option Nat} (F : Fin0 r) : r 44 25 = some 53 := F (44, 25, 53) (by decide)
theorem fin_44_29 {r : Nat → Nat → Option Nat} (F : Fin0 r) : r 44 29 = some 54 := F (44, 29, 54) (by decide)
theorem fin_44_33 {r : Nat → Nat → Option Nat} (F : Fin0 r) : r 44 33 = some 55 := F (44, 33, 55) (by decide)
/-! ===== a street, as it is told ===== -/
/-- fright, houses, kinds, causes, by, doings; pulled; sparks; glasses; unknown; rung -/
abbrev aS : Type := (Nat × Nat × (Nat → Nat) × (Nat → Option Nat) × (Nat → Nat) × (Nat → Nat)) × Nat × (Nat × (Nat → Nat) × (Nat → Nat) × (Nat → Nat)) × (Nat × (Nat → Nat)) × (Nat × (Nat → Nat)) × (Nat × (Nat → Nat) × (Nat → Option Nat))
def aFr (a : aS) : Nat := a.1.1
def aN (a : aS) : Nat := a.1.2.1
def aKi (a : aS) : Nat → Nat := a.1.2.2.1
def aCs (a : aS) : Nat → Option Nat := a.1.2.2.2.1
def aBy (a : aS) : Nat → Nat := a.1.2.2.2.2.1
def aDo (a : aS) : Nat → Nat := a.1.2.2.2.2.2
def aPu (a : aS) : Nat := a.2.1
def aSp (a : aS) : Nat := a.2.2.1.1
def aFm (a : aS) : Nat → Nat := a.2.2.1.2.1
def aTo (a : aS) : Nat → Nat := a.2.2.1.2.2.1
def aDy (a : aS) : Nat → Nat := a.2.2.1.2.2.2
def aGl (a : aS) : Nat := a.2.2.2.1.1
def aGd (a : aS) : Nat → Nat := a.2.2.2.1.2
def aUn (a : aS) : Nat := a.2.2.2.2.1.1
def aUh (a : aS) : Nat → Nat := a.2.2.2.2.1.2
def aRu (a : aS) : Nat := a.2.2.2.2.2.1
def aRd (a : aS) : Nat → Nat := a.2.2.2.2.2.2.1
def aRf (a : aS) : Nat → Option Nat := a.2.2.2.2.2.2.2
/-- what a text can tell -/
def aW (a : aS) : Prop := aN a ≤ 6 ∧ aFr a ≤ 9 ∧ (∀ j, j < aN a → aKi a j < 4 ∧ (∀ c, aCs a j = some c → c ≤ 60) ∧ aBy a j ≤ 100 ∧ aDo a j ≤ 3) ∧ aPu a < 2 ^ aN a ∧
  aSp a ≤ 9 ∧ (∀ j, j < aSp a → aFm a j < aN a ∧ aTo a j < aN a ∧ aFm a j ≠ aTo a j ∧ aDy a j ≤ 9) ∧ (∀ i j, i < aSp a → j < aSp a → aFm a i = aFm a j → aTo a i = aTo a j → i = j) ∧
  aGl a ≤ 4 ∧ (∀ j, j < aGl a → aGd a j ≤ 30) ∧ (∀ i j, i < j → j < aGl a → aGd a i < aGd a j) ∧ aUn a ≤ 2 ∧ (∀ j, j < aUn a → aUh a j < aN a) ∧ (∀ i j, i < aUn a → j < aUn a → aUh a i = aUh a j → i = j) ∧
  aRu a ≤ 4 ∧ (∀ j, j < aRu a → aRd a j ≤ 30 ∧ ∀ x, aRf a j = some x → x < aN a)
/-- none is -2 -/
def oI : Option Nat → Int32
  | none => -2
  | some c => nI c
/-- in how many days a spark lights; 1000: never -/
def lagN (a : aS) (j : Nat) : Nat := if aKi a (aTo a j) = 0 then aDy a j + 1 else if aKi a (aTo a j) = 1 then aDy a j - 1 else if aKi a (aTo a j) = 2 then aDy a j else 1000
/-- the day of a house's own cause, by who was told -/
def causeN (a : aS) (t j : Nat) : Option Nat := match aCs a j with
  | none => none
  | some c => if t.testBit j = true then (if aDo a j = 1 then none else if aDo a j = 3 then some (c - 1) else some c) else some c
/-- the street of the class -/
def cS (h : qH) (s : Nat) (a : aS) : Prop := (s = 1 ∨ s = 13) ∧ aW a ∧ (hI h s 0 = nI (aFr a) ∧ hI h s 1 = nI (aN a) ∧ hI h s 6 = nI (aPu a) ∧ hI h s 7 = nI (aSp a) ∧ hI h s 11 = nI (aGl a) ∧ hI h s 13 = nI (aUn a) ∧ hI h s 15 = nI (aRu a)) ∧
  (∀ j, j < aN a → hI h (s + 1) j = nI (aKi a j) ∧ hI h (s + 2) j = oI (aCs a j) ∧ hI h (s + 3) j = nI (aBy a j) ∧ hI h (s + 4) j = nI (aDo a j)) ∧
  (∀ j, j < aSp a → hI h (s + 5) j = nI (aFm a j) ∧ hI h (s + 6) j = nI (aTo a j) ∧ hI h (s + 7) j = nI (lagN a j)) ∧
  (∀ j, j < aGl a → hI h (s + 8) j = nI (aGd a j)) ∧ (∀ j, j < aUn a → hI h (s + 9) j = nI (aUh a j)) ∧ (∀ j, j < aRu a → hI h (s + 10) j = nI (aRd a j) ∧ hI h (s + 11) j = oI (aRf a j))
/-- it rests on the cells of the street alone -/
theorem cS_mv {h h' : qH} {s : Nat} {a : aS} (w : cS h s a) (e : ∀ k, k ≤ 11 → hI h' (s + k) = hI h (s + k)) : cS h' s a := by
  have e0 : hI h' s = hI h s := e 0 (by omega)
  obtain ⟨w1, w2, w3, w4, w5, w6, w7, w8⟩ := w
  refine ⟨w1, w2, by rw [e0]; exact w3, fun j hj => ?_, fun j hj => ?_, fun j hj => ?_, fun j hj => ?_, fun j hj => ?_⟩
  · rw [e 1 (by omega), e 2 (by omega), e 3 (by omega), e 4 (by omega)]; exact w4 j hj
  · rw [e 5 (by omega), e 6 (by omega), e 7 (by omega)]; exact w5 j hj
  · rw [e 8 (by omega)]; exact w6 j hj
  · rw [e 9 (by omega)]; exact w7 j hj
  · rw [e 10 (by omega), e 11 (by omega)]; exact w8 j hj
