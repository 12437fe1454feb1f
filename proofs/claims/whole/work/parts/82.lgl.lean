/-! ===== the law: class and model side by side ===== -/
theorem CI_mf {n : Nat} {h h' : qH} {S : AS} (I : CI h S) (m : mf n h h') (F' : Fin0 (hR h')) : CI h' S := by
  obtain ⟨s, tu, F, r, w, b, k, st, wc, gc, tb, tp, e8, e9, ep⟩ := I
  have e : ∀ c, c < 44 → hI h' c = hI h c := fun c hc => (m.2 c (.inl hc)).1
  have er : ∀ c, c < 44 → hR h' c = hR h c := fun c hc => (m.2 c (.inl hc)).2.2
  refine ⟨s, tu, F', by rw [er 0 (by decide), er 32 (by decide)]; exact r, cS_mv w (fun c hc => e _ (by rcases w.1 with q | q <;> omega)), ?_, ?_, ?_, ?_, ?_, tb, ?_, ?_, ?_, ?_⟩
  · unfold bT at *; rw [e 35 (by decide)]; exact b
  · unfold cC bC at *; rw [e 32 (by decide), e 36 (by decide)]; exact k
  · unfold St at *; rw [e 29 (by decide), e 30 (by decide), e 31 (by decide)]; exact st
  · unfold wC wM WW at *; rw [e 37 (by decide), e 38 (by decide)]; exact wc
  · unfold gC gM gA tyH at *; rw [e 39 (by decide), e 42 (by decide), e 43 (by decide)]; exact gc
  · rw [e 25 (by decide), e 26 (by decide)]; exact tp
  · rw [e 0 (by decide)]; exact e8
  · rw [e 0 (by decide)]; exact e9
  · rw [e 27 (by decide)]; exact ep
theorem MI_cf {h h' : qH} {S : AS} (I : MI h S) (m : cf h h') (F' : Fin0 (hR h')) : MI h' S := by
  obtain ⟨F, bd, st, v, pa, im, e22, tp, en⟩ := I
  have e : ∀ c, 44 ≤ c → hI h' c = hI h c := fun c hc => (m.2 c hc).1
  have er : ∀ c, 44 ≤ c → hR h' c = hR h c := fun c hc => (m.2 c hc).2.2
  refine ⟨F', bd, ?_, by rw [e 46 (by decide)]; exact v, ?_, ?_, by rw [e 44 (by decide)]; exact e22, ?_, ?_⟩
  · rcases st with ⟨n1, n2, n3⟩ | ⟨n1, s, n2, n3, n4⟩
    · exact .inl ⟨n1, by rw [er 44 (by decide)]; exact n2, n3⟩
    · obtain ⟨j, ej, -⟩ := n3.1
      exact .inr ⟨n1, s, by rw [er 44 (by decide)]; exact n2, mSt_mv n3 (er s (by omega)) (fun k _ => e _ (by omega)), by rw [m.1]; exact n4⟩
  · unfold mPa at *; rw [e 44 (by decide), e 48 (by decide)]; exact pa
  · unfold mIm at *; rw [e 44 (by decide), e 49 (by decide)]; exact im
  · unfold mTp at *; rw [e 44 (by decide), e 45 (by decide)]; exact tp
  · unfold mEn at *; rw [e 44 (by decide)]; exact en
theorem CI_F {h : qH} {S : AS} (I : CI h S) : Fin0 (hR h) := by
  obtain ⟨s, tu, F, -⟩ := I
  exact F
/-- between the law's rounds -/
def LI (h : qH) (S : AS) (j L : Nat) : Prop := CI h S ∧ MI h S ∧ hN h = 57 + 13 * j ∧ hI h (SCR + 1) 0 = nI L ∧ sTr S < 7
theorem LI_2 {n j j' L : Nat} {h h1 h2 : qH} {S S' : AS} (I : LI h S j L) (c : cf h h1) (C : CI h1 S') (m : mf n h1 h2) (M : MI h2 S') (hj : 13 * j + n = 13 * j') (t : sTr S' < 7) : LI h2 S' j' L := by
  obtain ⟨-, -, i3, i4, -⟩ := I
  refine ⟨CI_mf C m M.1, M, by rw [m.1, c.1, i3]; omega, ?_, t⟩
  rw [(m.2 (SCR + 1) (.inr (.inr (by omega)))).1, (c.2 (SCR + 1) (by unfold SCR; omega)).1]
  exact i4
theorem sTr_tr {S : AS} {v : Nat} (h : v < 7) : sTr (trS S v) < 7 := h
/-- a round from its case's first place -/
def LO (d a b t i j L : Nat) (o5 o6 : Option Value) (h : qH) : Prop := ∃ h' S' n o5' o6', n ≤ 1 ∧ (∀ Q, WP (d + 13) mL_law (a, b) t [some (.retAddr (1000 : Nat)), some (.ref (0 : Nat)), some (.ref (44 : Nat)), some (.ref (56 : Nat)), some (.int (nI i)), o5, o6] [] h Q = WP (d + 13) mL_law (a + 13 * n, b + 92 * n) 1549 [some (.retAddr (1000 : Nat)), some (.ref (0 : Nat)), some (.ref (44 : Nat)), some (.ref (56 : Nat)), some (.int (nI i)), o5', o6'] [] h' Q) ∧ LI h' S' (j + n) L
theorem vB {i L : Nat} (h : i < L) (hL : L ≤ 3072) : vpB (nI i) L = true := decide_eq_true (nI_vp h (by omega))
theorem nI_p2 (i : Nat) : nI i + 2 = nI (i + 2) := nI_add i 2
theorem nI_p3 (i : Nat) : nI i + 3 = nI (i + 3) := nI_add i 3
theorem nI_p4 (i : Nat) : nI i + 4 = nI (i + 4) := nI_add i 4
theorem nI_p5 (i : Nat) : nI i + 5 = nI (i + 5) := nI_add i 5
theorem nI_p6 (i : Nat) : nI i + 6 = nI (i + 6) := nI_add i 6
theorem xB (x : Int32) : ∃ p : Bool, (x = 0) = (p = false) := ⟨!decide (x = 0), by simp⟩
theorem t7_sBurns {S : AS} {y : Int32} : (sBurns S y).1 < 7 := by
  unfold sBurns
  (repeat' split) <;> first | exact (by decide : (0 : Nat) < 7) | exact (by decide : (1 : Nat) < 7) | exact (by decide : (2 : Nat) < 7) | exact (by decide : (5 : Nat) < 7) | exact (by decide : (3 : Nat) < 7) | exact (by decide : (6 : Nat) < 7) | exact (by decide : (4 : Nat) < 7)
theorem t7_sLitBy {S : AS} {y : Int32} : (sLitBy S y).1 < 7 := by
  unfold sLitBy
  (repeat' split) <;> first | exact (by decide : (0 : Nat) < 7) | exact (by decide : (1 : Nat) < 7) | exact (by decide : (2 : Nat) < 7) | exact (by decide : (5 : Nat) < 7) | exact (by decide : (3 : Nat) < 7) | exact (by decide : (6 : Nat) < 7) | exact (by decide : (4 : Nat) < 7)
theorem t7_sBurnt {S : AS} {y : Int32} : (sBurnt S y).1 < 7 := by
  unfold sBurnt
  (repeat' split) <;> first | exact (by decide : (0 : Nat) < 7) | exact (by decide : (1 : Nat) < 7) | exact (by decide : (2 : Nat) < 7) | exact (by decide : (5 : Nat) < 7) | exact (by decide : (3 : Nat) < 7) | exact (by decide : (6 : Nat) < 7) | exact (by decide : (4 : Nat) < 7)
theorem t7_sNext {S : AS} {y : Int32} : (sNext S y).1 < 7 := by
  unfold sNext
  (repeat' split) <;> first | exact (by decide : (0 : Nat) < 7) | exact (by decide : (1 : Nat) < 7) | exact (by decide : (2 : Nat) < 7) | exact (by decide : (5 : Nat) < 7) | exact (by decide : (3 : Nat) < 7) | exact (by decide : (6 : Nat) < 7) | exact (by decide : (4 : Nat) < 7)
theorem t7_sAgrees {S : AS} {y : Int32} : (sAgrees S y).1 < 7 := by
  unfold sAgrees
  (repeat' split) <;> first | exact (by decide : (0 : Nat) < 7) | exact (by decide : (1 : Nat) < 7) | exact (by decide : (2 : Nat) < 7) | exact (by decide : (5 : Nat) < 7) | exact (by decide : (3 : Nat) < 7) | exact (by decide : (6 : Nat) < 7) | exact (by decide : (4 : Nat) < 7)
theorem t7_sHouse {S : AS} {y : Int32} {z : Int32} : (sHouse S y z).1 < 7 := by
  unfold sHouse
  (repeat' split) <;> first | exact (by decide : (0 : Nat) < 7) | exact (by decide : (1 : Nat) < 7) | exact (by decide : (2 : Nat) < 7) | exact (by decide : (5 : Nat) < 7) | exact (by decide : (3 : Nat) < 7) | exact (by decide : (6 : Nat) < 7) | exact (by decide : (4 : Nat) < 7)
theorem t7_sSpark {S : AS} {y : Int32} {z : Int32} : (sSpark S y z).1 < 7 := by
  unfold sSpark
  (repeat' split) <;> first | exact (by decide : (0 : Nat) < 7) | exact (by decide : (1 : Nat) < 7) | exact (by decide : (2 : Nat) < 7) | exact (by decide : (5 : Nat) < 7) | exact (by decide : (3 : Nat) < 7) | exact (by decide : (6 : Nat) < 7) | exact (by decide : (4 : Nat) < 7)
theorem t7_sLast {S : AS} : (sLast S).1 < 7 := by
  unfold sLast
  (repeat' split) <;> first | exact (by decide : (0 : Nat) < 7) | exact (by decide : (1 : Nat) < 7) | exact (by decide : (2 : Nat) < 7) | exact (by decide : (5 : Nat) < 7) | exact (by decide : (3 : Nat) < 7) | exact (by decide : (6 : Nat) < 7) | exact (by decide : (4 : Nat) < 7)
theorem t7_sBurnsIf {S : AS} {y : Int32} {z : Int32} : (sBurnsIf S y z).1 < 7 := by
  unfold sBurnsIf
  (repeat' split) <;> first | exact (by decide : (0 : Nat) < 7) | exact (by decide : (1 : Nat) < 7) | exact (by decide : (2 : Nat) < 7) | exact (by decide : (5 : Nat) < 7) | exact (by decide : (3 : Nat) < 7) | exact (by decide : (6 : Nat) < 7) | exact (by decide : (4 : Nat) < 7)
theorem t7_sSaves {S : AS} {y : Int32} : (sSaves S y).1 < 7 := by
  unfold sSaves
  (repeat' split) <;> first | exact (by decide : (0 : Nat) < 7) | exact (by decide : (1 : Nat) < 7) | exact (by decide : (2 : Nat) < 7) | exact (by decide : (5 : Nat) < 7) | exact (by decide : (3 : Nat) < 7) | exact (by decide : (6 : Nat) < 7) | exact (by decide : (4 : Nat) < 7)
theorem t7_sBestTold {S : AS} : (sBestTold S).1 < 7 := by
  unfold sBestTold
  (repeat' split) <;> first | exact (by decide : (0 : Nat) < 7) | exact (by decide : (1 : Nat) < 7) | exact (by decide : (2 : Nat) < 7) | exact (by decide : (5 : Nat) < 7) | exact (by decide : (3 : Nat) < 7) | exact (by decide : (6 : Nat) < 7) | exact (by decide : (4 : Nat) < 7)
theorem t7_sDumb {S : AS} : (sDumb S).1 < 7 := by
  unfold sDumb
  (repeat' split) <;> first | exact (by decide : (0 : Nat) < 7) | exact (by decide : (1 : Nat) < 7) | exact (by decide : (2 : Nat) < 7) | exact (by decide : (5 : Nat) < 7) | exact (by decide : (3 : Nat) < 7) | exact (by decide : (6 : Nat) < 7) | exact (by decide : (4 : Nat) < 7)
theorem t7_sWays {S : AS} : (sWays S).1 < 7 := by
  unfold sWays
  (repeat' split) <;> first | exact (by decide : (0 : Nat) < 7) | exact (by decide : (1 : Nat) < 7) | exact (by decide : (2 : Nat) < 7) | exact (by decide : (5 : Nat) < 7) | exact (by decide : (3 : Nat) < 7) | exact (by decide : (6 : Nat) < 7) | exact (by decide : (4 : Nat) < 7)
theorem t7_sCould {S : AS} : (sCould S).1 < 7 := by
  unfold sCould
  (repeat' split) <;> first | exact (by decide : (0 : Nat) < 7) | exact (by decide : (1 : Nat) < 7) | exact (by decide : (2 : Nat) < 7) | exact (by decide : (5 : Nat) < 7) | exact (by decide : (3 : Nat) < 7) | exact (by decide : (6 : Nat) < 7) | exact (by decide : (4 : Nat) < 7)
theorem t7_sWayAt {S : AS} {y : Int32} {z : Int32} : (sWayAt S y z).1 < 7 := by
  unfold sWayAt
  (repeat' split) <;> first | exact (by decide : (0 : Nat) < 7) | exact (by decide : (1 : Nat) < 7) | exact (by decide : (2 : Nat) < 7) | exact (by decide : (5 : Nat) < 7) | exact (by decide : (3 : Nat) < 7) | exact (by decide : (6 : Nat) < 7) | exact (by decide : (4 : Nat) < 7)
theorem t7_sWayBurnt {S : AS} {y : Int32} : (sWayBurnt S y).1 < 7 := by
  unfold sWayBurnt
  (repeat' split) <;> first | exact (by decide : (0 : Nat) < 7) | exact (by decide : (1 : Nat) < 7) | exact (by decide : (2 : Nat) < 7) | exact (by decide : (5 : Nat) < 7) | exact (by decide : (3 : Nat) < 7) | exact (by decide : (6 : Nat) < 7) | exact (by decide : (4 : Nat) < 7)
theorem t7_sBestWay {S : AS} : (sBestWay S).1 < 7 := by
  unfold sBestWay
  (repeat' split) <;> first | exact (by decide : (0 : Nat) < 7) | exact (by decide : (1 : Nat) < 7) | exact (by decide : (2 : Nat) < 7) | exact (by decide : (5 : Nat) < 7) | exact (by decide : (3 : Nat) < 7) | exact (by decide : (6 : Nat) < 7) | exact (by decide : (4 : Nat) < 7)
theorem t7_sSafe {S : AS} {y : Int32} : (sSafe S y).1 < 7 := by
  unfold sSafe
  (repeat' split) <;> first | exact (by decide : (0 : Nat) < 7) | exact (by decide : (1 : Nat) < 7) | exact (by decide : (2 : Nat) < 7) | exact (by decide : (5 : Nat) < 7) | exact (by decide : (3 : Nat) < 7) | exact (by decide : (6 : Nat) < 7) | exact (by decide : (4 : Nat) < 7)
theorem t7_sBestCut {S : AS} : (sBestCut S).1 < 7 := by
  unfold sBestCut
  (repeat' split) <;> first | exact (by decide : (0 : Nat) < 7) | exact (by decide : (1 : Nat) < 7) | exact (by decide : (2 : Nat) < 7) | exact (by decide : (5 : Nat) < 7) | exact (by decide : (3 : Nat) < 7) | exact (by decide : (6 : Nat) < 7) | exact (by decide : (4 : Nat) < 7)
theorem t7_sFits {S : AS} : (sFits S).1 < 7 := by
  unfold sFits
  (repeat' split) <;> first | exact (by decide : (0 : Nat) < 7) | exact (by decide : (1 : Nat) < 7) | exact (by decide : (2 : Nat) < 7) | exact (by decide : (5 : Nat) < 7) | exact (by decide : (3 : Nat) < 7) | exact (by decide : (6 : Nat) < 7) | exact (by decide : (4 : Nat) < 7)
theorem t7_sTryDay {S : AS} : (sTryDay S).1 < 7 := by
  unfold sTryDay
  (repeat' split) <;> first | exact (by decide : (0 : Nat) < 7) | exact (by decide : (1 : Nat) < 7) | exact (by decide : (2 : Nat) < 7) | exact (by decide : (5 : Nat) < 7) | exact (by decide : (3 : Nat) < 7) | exact (by decide : (6 : Nat) < 7) | exact (by decide : (4 : Nat) < 7)
theorem t7_sTryLeaves {S : AS} : (sTryLeaves S).1 < 7 := by
  unfold sTryLeaves
  (repeat' split) <;> first | exact (by decide : (0 : Nat) < 7) | exact (by decide : (1 : Nat) < 7) | exact (by decide : (2 : Nat) < 7) | exact (by decide : (5 : Nat) < 7) | exact (by decide : (3 : Nat) < 7) | exact (by decide : (6 : Nat) < 7) | exact (by decide : (4 : Nat) < 7)
theorem t7_sFitAt {S : AS} {y : Int32} {z : Int32} : (sFitAt S y z).1 < 7 := by
  unfold sFitAt
  (repeat' split) <;> first | exact (by decide : (0 : Nat) < 7) | exact (by decide : (1 : Nat) < 7) | exact (by decide : (2 : Nat) < 7) | exact (by decide : (5 : Nat) < 7) | exact (by decide : (3 : Nat) < 7) | exact (by decide : (6 : Nat) < 7) | exact (by decide : (4 : Nat) < 7)
theorem t7_sNextBy {S : AS} {y : Int32} {z : Int32} : (sNextBy S y z).1 < 7 := by
  unfold sNextBy
  (repeat' split) <;> first | exact (by decide : (0 : Nat) < 7) | exact (by decide : (1 : Nat) < 7) | exact (by decide : (2 : Nat) < 7) | exact (by decide : (5 : Nat) < 7) | exact (by decide : (3 : Nat) < 7) | exact (by decide : (6 : Nat) < 7) | exact (by decide : (4 : Nat) < 7)
theorem t7_sJudge {S : AS} : (sJudge S).1 < 7 := by
  unfold sJudge
  (repeat' split) <;> first | exact (by decide : (0 : Nat) < 7) | exact (by decide : (1 : Nat) < 7) | exact (by decide : (2 : Nat) < 7) | exact (by decide : (5 : Nat) < 7) | exact (by decide : (3 : Nat) < 7) | exact (by decide : (6 : Nat) < 7) | exact (by decide : (4 : Nat) < 7)
theorem t7_sRests {S : AS} : (sRests S).1 < 7 := by
  unfold sRests
  (repeat' split) <;> first | exact (by decide : (0 : Nat) < 7) | exact (by decide : (1 : Nat) < 7) | exact (by decide : (2 : Nat) < 7) | exact (by decide : (5 : Nat) < 7) | exact (by decide : (3 : Nat) < 7) | exact (by decide : (6 : Nat) < 7) | exact (by decide : (4 : Nat) < 7)
theorem t7_sRest {S : AS} : (sRest S).1 < 7 := by
  unfold sRest
  (repeat' split) <;> first | exact (by decide : (0 : Nat) < 7) | exact (by decide : (1 : Nat) < 7) | exact (by decide : (2 : Nat) < 7) | exact (by decide : (5 : Nat) < 7) | exact (by decide : (3 : Nat) < 7) | exact (by decide : (6 : Nat) < 7) | exact (by decide : (4 : Nat) < 7)
theorem t7_sYears {S : AS} {u : Int32} {y : Int32} {z : Int32} : (sYears S u y z).1 < 7 := by
  unfold sYears
  (repeat' split) <;> first | exact (by decide : (0 : Nat) < 7) | exact (by decide : (1 : Nat) < 7) | exact (by decide : (2 : Nat) < 7) | exact (by decide : (5 : Nat) < 7) | exact (by decide : (3 : Nat) < 7) | exact (by decide : (6 : Nat) < 7) | exact (by decide : (4 : Nat) < 7)
theorem t7_sWorst {S : AS} {y : Int32} {z : Int32} : (sWorst S y z).1 < 7 := by
  unfold sWorst
  (repeat' split) <;> first | exact (by decide : (0 : Nat) < 7) | exact (by decide : (1 : Nat) < 7) | exact (by decide : (2 : Nat) < 7) | exact (by decide : (5 : Nat) < 7) | exact (by decide : (3 : Nat) < 7) | exact (by decide : (6 : Nat) < 7) | exact (by decide : (4 : Nat) < 7)
theorem t7_sRings {S : AS} {m : Bool} {t : Bool} {e : Bool} : (sRings S m t e).1 < 7 := by
  unfold sRings
  (repeat' split) <;> first | exact (by decide : (0 : Nat) < 7) | exact (by decide : (1 : Nat) < 7) | exact (by decide : (2 : Nat) < 7) | exact (by decide : (5 : Nat) < 7) | exact (by decide : (3 : Nat) < 7) | exact (by decide : (6 : Nat) < 7) | exact (by decide : (4 : Nat) < 7)
theorem t7_sOdds {S : AS} {y : Int32} {z : Int32} {lo : Bool} : (sOdds S y z lo).1 < 7 := by
  unfold sOdds
  (repeat' split) <;> first | exact (by decide : (0 : Nat) < 7) | exact (by decide : (1 : Nat) < 7) | exact (by decide : (2 : Nat) < 7) | exact (by decide : (5 : Nat) < 7) | exact (by decide : (3 : Nat) < 7) | exact (by decide : (6 : Nat) < 7) | exact (by decide : (4 : Nat) < 7)
theorem t7_sQuiet {S : AS} {y : Int32} {lo : Bool} : (sQuiet S y lo).1 < 7 := by
  unfold sQuiet
  (repeat' split) <;> first | exact (by decide : (0 : Nat) < 7) | exact (by decide : (1 : Nat) < 7) | exact (by decide : (2 : Nat) < 7) | exact (by decide : (5 : Nat) < 7) | exact (by decide : (3 : Nat) < 7) | exact (by decide : (6 : Nat) < 7) | exact (by decide : (4 : Nat) < 7)
theorem t7_sMean {S : AS} {y : Int32} {lo : Bool} : (sMean S y lo).1 < 7 := by
  unfold sMean
  (repeat' split) <;> first | exact (by decide : (0 : Nat) < 7) | exact (by decide : (1 : Nat) < 7) | exact (by decide : (2 : Nat) < 7) | exact (by decide : (5 : Nat) < 7) | exact (by decide : (3 : Nat) < 7) | exact (by decide : (6 : Nat) < 7) | exact (by decide : (4 : Nat) < 7)
theorem t7_sTell {S : AS} {y : Int32} : sTr (sTell S y).1 < 7 := by
  unfold sTell
  (repeat' split) <;> first | exact (by decide : (0 : Nat) < 7) | exact (by decide : (1 : Nat) < 7) | exact (by decide : (2 : Nat) < 7) | exact (by decide : (5 : Nat) < 7) | exact (by decide : (3 : Nat) < 7) | exact (by decide : (6 : Nat) < 7) | exact (by decide : (4 : Nat) < 7)
theorem t7_sTurn {S : AS} {y : Int32} {p : Bool} : sTr (sTurn S y p).1 < 7 := by
  unfold sTurn
  (repeat' split) <;> first | exact (by decide : (0 : Nat) < 7) | exact (by decide : (1 : Nat) < 7) | exact (by decide : (2 : Nat) < 7) | exact (by decide : (5 : Nat) < 7) | exact (by decide : (3 : Nat) < 7) | exact (by decide : (6 : Nat) < 7) | exact (by decide : (4 : Nat) < 7)
theorem t7_sDay {S : AS} : sTr (sDay S).1 < 7 := by
  unfold sDay
  (repeat' split) <;> first | exact (by decide : (0 : Nat) < 7) | exact (by decide : (1 : Nat) < 7) | exact (by decide : (2 : Nat) < 7) | exact (by decide : (5 : Nat) < 7) | exact (by decide : (3 : Nat) < 7) | exact (by decide : (6 : Nat) < 7) | exact (by decide : (4 : Nat) < 7)
theorem t7_sUndo {S : AS} : sTr (sUndo S).1 < 7 := by
  unfold sUndo
  (repeat' split) <;> first | exact (by decide : (0 : Nat) < 7) | exact (by decide : (1 : Nat) < 7) | exact (by decide : (2 : Nat) < 7) | exact (by decide : (5 : Nat) < 7) | exact (by decide : (3 : Nat) < 7) | exact (by decide : (6 : Nat) < 7) | exact (by decide : (4 : Nat) < 7)
theorem t7_sImage {S : AS} : sTr (sImage S).1 < 7 := by
  unfold sImage
  (repeat' split) <;> first | exact (by decide : (0 : Nat) < 7) | exact (by decide : (1 : Nat) < 7) | exact (by decide : (2 : Nat) < 7) | exact (by decide : (5 : Nat) < 7) | exact (by decide : (3 : Nat) < 7) | exact (by decide : (6 : Nat) < 7) | exact (by decide : (4 : Nat) < 7)
theorem t7_sBack {S : AS} {y : Int32} : sTr (sBack S y).1 < 7 := by
  unfold sBack
  (repeat' split) <;> first | exact (by decide : (0 : Nat) < 7) | exact (by decide : (1 : Nat) < 7) | exact (by decide : (2 : Nat) < 7) | exact (by decide : (5 : Nat) < 7) | exact (by decide : (3 : Nat) < 7) | exact (by decide : (6 : Nat) < 7) | exact (by decide : (4 : Nat) < 7)
theorem t7_sStreet {S : AS} {y : Int32} : sTr (sStreet S y).1 < 7 := by
  unfold sStreet
  (repeat' split) <;> first | exact (by decide : (0 : Nat) < 7) | exact (by decide : (1 : Nat) < 7) | exact (by decide : (2 : Nat) < 7) | exact (by decide : (5 : Nat) < 7) | exact (by decide : (3 : Nat) < 7) | exact (by decide : (6 : Nat) < 7) | exact (by decide : (4 : Nat) < 7)
theorem t7_sFeed {S : AS} {a b c d e : Int32} (h : sTr S < 7) : sTr (sFeed S a b c d e).1 < 7 := by
  unfold sFeed
  split <;> exact h
