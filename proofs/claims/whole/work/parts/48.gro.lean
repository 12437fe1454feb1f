/-! ===== a street grows ===== -/
theorem aFr_aFrS {a : aS} {v : Nat} : aFr (aFrS a v) = v := rfl
theorem aN_aFrS {a : aS} {v : Nat} : aN (aFrS a v) = aN a := rfl
theorem aKi_aFrS {a : aS} {v : Nat} : aKi (aFrS a v) = aKi a := rfl
theorem aCs_aFrS {a : aS} {v : Nat} : aCs (aFrS a v) = aCs a := rfl
theorem aBy_aFrS {a : aS} {v : Nat} : aBy (aFrS a v) = aBy a := rfl
theorem aDo_aFrS {a : aS} {v : Nat} : aDo (aFrS a v) = aDo a := rfl
theorem aPu_aFrS {a : aS} {v : Nat} : aPu (aFrS a v) = aPu a := rfl
theorem aSp_aFrS {a : aS} {v : Nat} : aSp (aFrS a v) = aSp a := rfl
theorem aFm_aFrS {a : aS} {v : Nat} : aFm (aFrS a v) = aFm a := rfl
theorem aTo_aFrS {a : aS} {v : Nat} : aTo (aFrS a v) = aTo a := rfl
theorem aDy_aFrS {a : aS} {v : Nat} : aDy (aFrS a v) = aDy a := rfl
theorem aGl_aFrS {a : aS} {v : Nat} : aGl (aFrS a v) = aGl a := rfl
theorem aGd_aFrS {a : aS} {v : Nat} : aGd (aFrS a v) = aGd a := rfl
theorem aUn_aFrS {a : aS} {v : Nat} : aUn (aFrS a v) = aUn a := rfl
theorem aUh_aFrS {a : aS} {v : Nat} : aUh (aFrS a v) = aUh a := rfl
theorem aRu_aFrS {a : aS} {v : Nat} : aRu (aFrS a v) = aRu a := rfl
theorem aRd_aFrS {a : aS} {v : Nat} : aRd (aFrS a v) = aRd a := rfl
theorem aRf_aFrS {a : aS} {v : Nat} : aRf (aFrS a v) = aRf a := rfl
theorem aFr_aAdd {a : aS} {k : Nat} {c : Option Nat} {b : Nat} : aFr (aAdd a k c b) = aFr a := rfl
theorem aN_aAdd {a : aS} {k : Nat} {c : Option Nat} {b : Nat} : aN (aAdd a k c b) = aN a + 1 := rfl
theorem aKi_aAdd {a : aS} {k : Nat} {c : Option Nat} {b : Nat} : aKi (aAdd a k c b) = va_up (aKi a) (aN a) k := rfl
theorem aCs_aAdd {a : aS} {k : Nat} {c : Option Nat} {b : Nat} : aCs (aAdd a k c b) = va_up (aCs a) (aN a) c := rfl
theorem aBy_aAdd {a : aS} {k : Nat} {c : Option Nat} {b : Nat} : aBy (aAdd a k c b) = va_up (aBy a) (aN a) b := rfl
theorem aDo_aAdd {a : aS} {k : Nat} {c : Option Nat} {b : Nat} : aDo (aAdd a k c b) = va_up (aDo a) (aN a) 0 := rfl
theorem aPu_aAdd {a : aS} {k : Nat} {c : Option Nat} {b : Nat} : aPu (aAdd a k c b) = aPu a := rfl
theorem aSp_aAdd {a : aS} {k : Nat} {c : Option Nat} {b : Nat} : aSp (aAdd a k c b) = aSp a := rfl
theorem aFm_aAdd {a : aS} {k : Nat} {c : Option Nat} {b : Nat} : aFm (aAdd a k c b) = aFm a := rfl
theorem aTo_aAdd {a : aS} {k : Nat} {c : Option Nat} {b : Nat} : aTo (aAdd a k c b) = aTo a := rfl
theorem aDy_aAdd {a : aS} {k : Nat} {c : Option Nat} {b : Nat} : aDy (aAdd a k c b) = aDy a := rfl
theorem aGl_aAdd {a : aS} {k : Nat} {c : Option Nat} {b : Nat} : aGl (aAdd a k c b) = aGl a := rfl
theorem aGd_aAdd {a : aS} {k : Nat} {c : Option Nat} {b : Nat} : aGd (aAdd a k c b) = aGd a := rfl
theorem aUn_aAdd {a : aS} {k : Nat} {c : Option Nat} {b : Nat} : aUn (aAdd a k c b) = aUn a := rfl
theorem aUh_aAdd {a : aS} {k : Nat} {c : Option Nat} {b : Nat} : aUh (aAdd a k c b) = aUh a := rfl
theorem aRu_aAdd {a : aS} {k : Nat} {c : Option Nat} {b : Nat} : aRu (aAdd a k c b) = aRu a := rfl
theorem aRd_aAdd {a : aS} {k : Nat} {c : Option Nat} {b : Nat} : aRd (aAdd a k c b) = aRd a := rfl
theorem aRf_aAdd {a : aS} {k : Nat} {c : Option Nat} {b : Nat} : aRf (aAdd a k c b) = aRf a := rfl
theorem aFr_aSpk {a : aS} {x y d : Nat} : aFr (aSpk a x y d) = aFr a := rfl
theorem aN_aSpk {a : aS} {x y d : Nat} : aN (aSpk a x y d) = aN a := rfl
theorem aKi_aSpk {a : aS} {x y d : Nat} : aKi (aSpk a x y d) = aKi a := rfl
theorem aCs_aSpk {a : aS} {x y d : Nat} : aCs (aSpk a x y d) = aCs a := rfl
theorem aBy_aSpk {a : aS} {x y d : Nat} : aBy (aSpk a x y d) = aBy a := rfl
theorem aDo_aSpk {a : aS} {x y d : Nat} : aDo (aSpk a x y d) = aDo a := rfl
theorem aPu_aSpk {a : aS} {x y d : Nat} : aPu (aSpk a x y d) = aPu a := rfl
theorem aSp_aSpk {a : aS} {x y d : Nat} : aSp (aSpk a x y d) = aSp a + 1 := rfl
theorem aFm_aSpk {a : aS} {x y d : Nat} : aFm (aSpk a x y d) = va_up (aFm a) (aSp a) x := rfl
theorem aTo_aSpk {a : aS} {x y d : Nat} : aTo (aSpk a x y d) = va_up (aTo a) (aSp a) y := rfl
theorem aDy_aSpk {a : aS} {x y d : Nat} : aDy (aSpk a x y d) = va_up (aDy a) (aSp a) d := rfl
theorem aGl_aSpk {a : aS} {x y d : Nat} : aGl (aSpk a x y d) = aGl a := rfl
theorem aGd_aSpk {a : aS} {x y d : Nat} : aGd (aSpk a x y d) = aGd a := rfl
theorem aUn_aSpk {a : aS} {x y d : Nat} : aUn (aSpk a x y d) = aUn a := rfl
theorem aUh_aSpk {a : aS} {x y d : Nat} : aUh (aSpk a x y d) = aUh a := rfl
theorem aRu_aSpk {a : aS} {x y d : Nat} : aRu (aSpk a x y d) = aRu a := rfl
theorem aRd_aSpk {a : aS} {x y d : Nat} : aRd (aSpk a x y d) = aRd a := rfl
theorem aRf_aSpk {a : aS} {x y d : Nat} : aRf (aSpk a x y d) = aRf a := rfl
theorem aFr_aDoS {a : aS} {x v : Nat} : aFr (aDoS a x v) = aFr a := rfl
theorem aN_aDoS {a : aS} {x v : Nat} : aN (aDoS a x v) = aN a := rfl
theorem aKi_aDoS {a : aS} {x v : Nat} : aKi (aDoS a x v) = aKi a := rfl
theorem aCs_aDoS {a : aS} {x v : Nat} : aCs (aDoS a x v) = aCs a := rfl
theorem aBy_aDoS {a : aS} {x v : Nat} : aBy (aDoS a x v) = aBy a := rfl
theorem aDo_aDoS {a : aS} {x v : Nat} : aDo (aDoS a x v) = va_up (aDo a) x v := rfl
theorem aPu_aDoS {a : aS} {x v : Nat} : aPu (aDoS a x v) = aPu a := rfl
theorem aSp_aDoS {a : aS} {x v : Nat} : aSp (aDoS a x v) = aSp a := rfl
theorem aFm_aDoS {a : aS} {x v : Nat} : aFm (aDoS a x v) = aFm a := rfl
theorem aTo_aDoS {a : aS} {x v : Nat} : aTo (aDoS a x v) = aTo a := rfl
theorem aDy_aDoS {a : aS} {x v : Nat} : aDy (aDoS a x v) = aDy a := rfl
theorem aGl_aDoS {a : aS} {x v : Nat} : aGl (aDoS a x v) = aGl a := rfl
theorem aGd_aDoS {a : aS} {x v : Nat} : aGd (aDoS a x v) = aGd a := rfl
theorem aUn_aDoS {a : aS} {x v : Nat} : aUn (aDoS a x v) = aUn a := rfl
theorem aUh_aDoS {a : aS} {x v : Nat} : aUh (aDoS a x v) = aUh a := rfl
theorem aRu_aDoS {a : aS} {x v : Nat} : aRu (aDoS a x v) = aRu a := rfl
theorem aRd_aDoS {a : aS} {x v : Nat} : aRd (aDoS a x v) = aRd a := rfl
theorem aRf_aDoS {a : aS} {x v : Nat} : aRf (aDoS a x v) = aRf a := rfl
theorem aFr_aPuS {a : aS} {x : Nat} : aFr (aPuS a x) = aFr a := rfl
theorem aN_aPuS {a : aS} {x : Nat} : aN (aPuS a x) = aN a := rfl
theorem aKi_aPuS {a : aS} {x : Nat} : aKi (aPuS a x) = aKi a := rfl
theorem aCs_aPuS {a : aS} {x : Nat} : aCs (aPuS a x) = aCs a := rfl
theorem aBy_aPuS {a : aS} {x : Nat} : aBy (aPuS a x) = aBy a := rfl
theorem aDo_aPuS {a : aS} {x : Nat} : aDo (aPuS a x) = aDo a := rfl
theorem aPu_aPuS {a : aS} {x : Nat} : aPu (aPuS a x) = aPu a ||| 2 ^ x := rfl
theorem aSp_aPuS {a : aS} {x : Nat} : aSp (aPuS a x) = aSp a := rfl
theorem aFm_aPuS {a : aS} {x : Nat} : aFm (aPuS a x) = aFm a := rfl
theorem aTo_aPuS {a : aS} {x : Nat} : aTo (aPuS a x) = aTo a := rfl
theorem aDy_aPuS {a : aS} {x : Nat} : aDy (aPuS a x) = aDy a := rfl
theorem aGl_aPuS {a : aS} {x : Nat} : aGl (aPuS a x) = aGl a := rfl
theorem aGd_aPuS {a : aS} {x : Nat} : aGd (aPuS a x) = aGd a := rfl
theorem aUn_aPuS {a : aS} {x : Nat} : aUn (aPuS a x) = aUn a := rfl
theorem aUh_aPuS {a : aS} {x : Nat} : aUh (aPuS a x) = aUh a := rfl
theorem aRu_aPuS {a : aS} {x : Nat} : aRu (aPuS a x) = aRu a := rfl
theorem aRd_aPuS {a : aS} {x : Nat} : aRd (aPuS a x) = aRd a := rfl
theorem aRf_aPuS {a : aS} {x : Nat} : aRf (aPuS a x) = aRf a := rfl
theorem aFr_aGlS {a : aS} {v : Nat} : aFr (aGlS a v) = aFr a := rfl
theorem aN_aGlS {a : aS} {v : Nat} : aN (aGlS a v) = aN a := rfl
theorem aKi_aGlS {a : aS} {v : Nat} : aKi (aGlS a v) = aKi a := rfl
theorem aCs_aGlS {a : aS} {v : Nat} : aCs (aGlS a v) = aCs a := rfl
theorem aBy_aGlS {a : aS} {v : Nat} : aBy (aGlS a v) = aBy a := rfl
theorem aDo_aGlS {a : aS} {v : Nat} : aDo (aGlS a v) = aDo a := rfl
theorem aPu_aGlS {a : aS} {v : Nat} : aPu (aGlS a v) = aPu a := rfl
theorem aSp_aGlS {a : aS} {v : Nat} : aSp (aGlS a v) = aSp a := rfl
theorem aFm_aGlS {a : aS} {v : Nat} : aFm (aGlS a v) = aFm a := rfl
theorem aTo_aGlS {a : aS} {v : Nat} : aTo (aGlS a v) = aTo a := rfl
theorem aDy_aGlS {a : aS} {v : Nat} : aDy (aGlS a v) = aDy a := rfl
theorem aGl_aGlS {a : aS} {v : Nat} : aGl (aGlS a v) = aGl a + 1 := rfl
theorem aGd_aGlS {a : aS} {v : Nat} : aGd (aGlS a v) = va_up (aGd a) (aGl a) v := rfl
theorem aUn_aGlS {a : aS} {v : Nat} : aUn (aGlS a v) = aUn a := rfl
theorem aUh_aGlS {a : aS} {v : Nat} : aUh (aGlS a v) = aUh a := rfl
theorem aRu_aGlS {a : aS} {v : Nat} : aRu (aGlS a v) = aRu a := rfl
theorem aRd_aGlS {a : aS} {v : Nat} : aRd (aGlS a v) = aRd a := rfl
theorem aRf_aGlS {a : aS} {v : Nat} : aRf (aGlS a v) = aRf a := rfl
theorem aFr_aUnS {a : aS} {x : Nat} : aFr (aUnS a x) = aFr a := rfl
theorem aN_aUnS {a : aS} {x : Nat} : aN (aUnS a x) = aN a := rfl
theorem aKi_aUnS {a : aS} {x : Nat} : aKi (aUnS a x) = aKi a := rfl
theorem aCs_aUnS {a : aS} {x : Nat} : aCs (aUnS a x) = aCs a := rfl
theorem aBy_aUnS {a : aS} {x : Nat} : aBy (aUnS a x) = aBy a := rfl
theorem aDo_aUnS {a : aS} {x : Nat} : aDo (aUnS a x) = aDo a := rfl
theorem aPu_aUnS {a : aS} {x : Nat} : aPu (aUnS a x) = aPu a := rfl
theorem aSp_aUnS {a : aS} {x : Nat} : aSp (aUnS a x) = aSp a := rfl
theorem aFm_aUnS {a : aS} {x : Nat} : aFm (aUnS a x) = aFm a := rfl
theorem aTo_aUnS {a : aS} {x : Nat} : aTo (aUnS a x) = aTo a := rfl
theorem aDy_aUnS {a : aS} {x : Nat} : aDy (aUnS a x) = aDy a := rfl
theorem aGl_aUnS {a : aS} {x : Nat} : aGl (aUnS a x) = aGl a := rfl
theorem aGd_aUnS {a : aS} {x : Nat} : aGd (aUnS a x) = aGd a := rfl
theorem aUn_aUnS {a : aS} {x : Nat} : aUn (aUnS a x) = aUn a + 1 := rfl
theorem aUh_aUnS {a : aS} {x : Nat} : aUh (aUnS a x) = va_up (aUh a) (aUn a) x := rfl
theorem aRu_aUnS {a : aS} {x : Nat} : aRu (aUnS a x) = aRu a := rfl
theorem aRd_aUnS {a : aS} {x : Nat} : aRd (aUnS a x) = aRd a := rfl
theorem aRf_aUnS {a : aS} {x : Nat} : aRf (aUnS a x) = aRf a := rfl
theorem aFr_aRuS {a : aS} {d : Nat} {w : Option Nat} : aFr (aRuS a d w) = aFr a := rfl
theorem aN_aRuS {a : aS} {d : Nat} {w : Option Nat} : aN (aRuS a d w) = aN a := rfl
theorem aKi_aRuS {a : aS} {d : Nat} {w : Option Nat} : aKi (aRuS a d w) = aKi a := rfl
theorem aCs_aRuS {a : aS} {d : Nat} {w : Option Nat} : aCs (aRuS a d w) = aCs a := rfl
theorem aBy_aRuS {a : aS} {d : Nat} {w : Option Nat} : aBy (aRuS a d w) = aBy a := rfl
theorem aDo_aRuS {a : aS} {d : Nat} {w : Option Nat} : aDo (aRuS a d w) = aDo a := rfl
theorem aPu_aRuS {a : aS} {d : Nat} {w : Option Nat} : aPu (aRuS a d w) = aPu a := rfl
theorem aSp_aRuS {a : aS} {d : Nat} {w : Option Nat} : aSp (aRuS a d w) = aSp a := rfl
theorem aFm_aRuS {a : aS} {d : Nat} {w : Option Nat} : aFm (aRuS a d w) = aFm a := rfl
theorem aTo_aRuS {a : aS} {d : Nat} {w : Option Nat} : aTo (aRuS a d w) = aTo a := rfl
theorem aDy_aRuS {a : aS} {d : Nat} {w : Option Nat} : aDy (aRuS a d w) = aDy a := rfl
theorem aGl_aRuS {a : aS} {d : Nat} {w : Option Nat} : aGl (aRuS a d w) = aGl a := rfl
theorem aGd_aRuS {a : aS} {d : Nat} {w : Option Nat} : aGd (aRuS a d w) = aGd a := rfl
theorem aUn_aRuS {a : aS} {d : Nat} {w : Option Nat} : aUn (aRuS a d w) = aUn a := rfl
theorem aUh_aRuS {a : aS} {d : Nat} {w : Option Nat} : aUh (aRuS a d w) = aUh a := rfl
theorem aRu_aRuS {a : aS} {d : Nat} {w : Option Nat} : aRu (aRuS a d w) = aRu a + 1 := rfl
theorem aRd_aRuS {a : aS} {d : Nat} {w : Option Nat} : aRd (aRuS a d w) = va_up (aRd a) (aRu a) d := rfl
theorem aRf_aRuS {a : aS} {d : Nat} {w : Option Nat} : aRf (aRuS a d w) = va_up (aRf a) (aRu a) w := rfl
theorem vup_at {α : Type} {f : Nat → α} {k j : Nat} {v : α} : va_up f k v j = if j = k then v else f j := rfl
theorem hWa {h : qH} {s k c : Nat} {f : Nat → Int32} : hI (wI h (s + k) f) (s + c) = if c = k then f else hI h (s + c) := by
  rw [hI_wI]
  by_cases e : c = k
  · rw [if_pos (by omega), if_pos e]
  · rw [if_neg (by omega), if_neg e]
theorem hWb {h : qH} {s c : Nat} {f : Nat → Int32} : hI (wI h s f) (s + c) = if c = 0 then f else hI h (s + c) := by
  rw [hI_wI]
  by_cases e : c = 0
  · rw [if_pos (by omega), if_pos e]
  · rw [if_neg (by omega), if_neg e]
theorem hWc {h : qH} {s k : Nat} {f : Nat → Int32} : hI (wI h (s + k) f) s = if k = 0 then f else hI h s := by
  rw [hI_wI]
  by_cases e : k = 0
  · rw [if_pos (by omega), if_pos e]
  · rw [if_neg (by omega), if_neg e]
theorem hWd {h : qH} {s : Nat} {f : Nat → Int32} : hI (wI h s f) s = f := by rw [hI_wI, if_pos rfl]
theorem lagN_add {a : aS} {k : Nat} {c : Option Nat} {b j : Nat} (h : aTo a j < aN a) : lagN (aAdd a k c b) j = lagN a j := by
  have e : aKi (aAdd a k c b) (aTo a j) = aKi a (aTo a j) := by rw [aKi_aAdd, vup_at, if_neg (by omega)]
  unfold lagN
  rw [aTo_aAdd, aDy_aAdd, e]
theorem lagN_cong {a a' : aS} {j : Nat} (h1 : aKi a' = aKi a) (h2 : aTo a' = aTo a) (h3 : aDy a' = aDy a) : lagN a' j = lagN a j := by
  unfold lagN
  rw [h1, h2, h3]
theorem aW_fr {a : aS} {v : Nat} (w : aW a) (h : v ≤ 9) : aW (aFrS a v) := ⟨w.1, h, w.2.2⟩
theorem aW_add {a : aS} {k : Nat} {c : Option Nat} {b : Nat} (w : aW a) (h6 : aN a < 6) (hk : k < 4) (hc : ∀ x, c = some x → x ≤ 60) (hb : b ≤ 100) : aW (aAdd a k c b) := by
  obtain ⟨w1, w2, w3, w4, w5, w6, w7, w8, w9, w10, w11, w12, w13, w14, w15⟩ := w
  unfold aW
  simp only [aFr_aAdd, aN_aAdd, aKi_aAdd, aCs_aAdd, aBy_aAdd, aDo_aAdd, aPu_aAdd, aSp_aAdd, aFm_aAdd, aTo_aAdd, aDy_aAdd, aGl_aAdd, aGd_aAdd, aUn_aAdd, aUh_aAdd, aRu_aAdd, aRd_aAdd, aRf_aAdd, vup_at]
  refine ⟨by omega, w2, fun j hj => ?_, ?_, w5, fun j hj => ?_, w7, w8, w9, w10, w11, fun j hj => ?_, w13, w14, fun j hj => ?_⟩
  · by_cases e : j = aN a
    · simp only [if_pos e]; exact ⟨hk, hc, hb, by omega⟩
    · simp only [if_neg e]; exact w3 j (by omega)
  · rw [Nat.pow_succ]; omega
  · obtain ⟨q1, q2, q3, q4⟩ := w6 j hj; exact ⟨by omega, by omega, q3, q4⟩
  · have := w12 j hj; omega
  · obtain ⟨q1, q2⟩ := w15 j hj; exact ⟨q1, fun x hx => by have := q2 x hx; omega⟩
theorem spkL_none {a : aS} {x y : Nat} : ∀ {k i : Nat}, spkL a x y k i = none → ∀ j, i ≤ j → j < i + k → ¬ (aFm a j = x ∧ aTo a j = y)
  | 0, i, _, j, h1, h2 => by omega
  | k + 1, i, h, j, h1, h2 => by
    rw [spkL] at h
    split at h
    · cases h
    · rename_i c
      by_cases e : j = i
      · rw [e]; exact c
      · exact spkL_none h j (by omega) (by omega)
theorem aW_spk {a : aS} {x y d : Nat} (w : aW a) (h9 : aSp a < 9) (hx : x < aN a) (hy : y < aN a) (hxy : ¬ y = x) (hn : spkN a x y = none) (hd : d ≤ 9) : aW (aSpk a x y d) := by
  obtain ⟨w1, w2, w3, w4, w5, w6, w7, w8⟩ := w
  unfold aW
  simp only [aFr_aSpk, aN_aSpk, aKi_aSpk, aCs_aSpk, aBy_aSpk, aDo_aSpk, aPu_aSpk, aSp_aSpk, aFm_aSpk, aTo_aSpk, aDy_aSpk, aGl_aSpk, aGd_aSpk, aUn_aSpk, aUh_aSpk, aRu_aSpk, aRd_aSpk, aRf_aSpk, vup_at]
  have nn : ∀ j, j < aSp a → ¬ (aFm a j = x ∧ aTo a j = y) := fun j hj => spkL_none hn j (by omega) (by omega)
  refine ⟨w1, w2, w3, w4, by omega, fun j hj => ?_, fun i j hi hj => ?_, w8⟩
  · by_cases e : j = aSp a
    · simp only [if_pos e]; exact ⟨hx, hy, fun q => hxy q.symm, hd⟩
    · simp only [if_neg e]; exact w6 j (by omega)
  · by_cases e1 : i = aSp a
    · by_cases e2 : j = aSp a
      · intro _ _; omega
      · simp only [if_pos e1, if_neg e2]
        intro q1 q2
        exact absurd ⟨q1.symm, q2.symm⟩ (nn j (by omega))
    · by_cases e2 : j = aSp a
      · simp only [if_neg e1, if_pos e2]
        intro q1 q2
        exact absurd ⟨q1, q2⟩ (nn i (by omega))
      · simp only [if_neg e1, if_neg e2]
        exact w7 i j (by omega) (by omega)
theorem aW_do {a : aS} {x v : Nat} (w : aW a) (hv : v ≤ 3) : aW (aDoS a x v) := by
  obtain ⟨w1, w2, w3, w4⟩ := w
  unfold aW
  simp only [aFr_aDoS, aN_aDoS, aKi_aDoS, aCs_aDoS, aBy_aDoS, aDo_aDoS, aPu_aDoS, aSp_aDoS, aFm_aDoS, aTo_aDoS, aDy_aDoS, aGl_aDoS, aGd_aDoS, aUn_aDoS, aUh_aDoS, aRu_aDoS, aRd_aDoS, aRf_aDoS, vup_at]
  refine ⟨w1, w2, fun j hj => ?_, w4⟩
  obtain ⟨q1, q2, q3, q4⟩ := w3 j hj
  refine ⟨q1, q2, q3, ?_⟩
  split <;> omega
theorem aW_pu {a : aS} {x : Nat} (w : aW a) (hx : x < aN a) : aW (aPuS a x) := by
  obtain ⟨w1, w2, w3, w4, w5⟩ := w
  exact ⟨w1, w2, w3, or_lt w4 hx, w5⟩
theorem aW_gl {a : aS} {v : Nat} (w : aW a) (h4 : aGl a < 4) (hv : v ≤ 30) (hl : aGl a = 0 ∨ aGd a (aGl a - 1) < v) : aW (aGlS a v) := by
  obtain ⟨w1, w2, w3, w4, w5, w6, w7, w8, w9, w10, w11⟩ := w
  unfold aW
  simp only [aFr_aGlS, aN_aGlS, aKi_aGlS, aCs_aGlS, aBy_aGlS, aDo_aGlS, aPu_aGlS, aSp_aGlS, aFm_aGlS, aTo_aGlS, aDy_aGlS, aGl_aGlS, aGd_aGlS, aUn_aGlS, aUh_aGlS, aRu_aGlS, aRd_aGlS, aRf_aGlS, vup_at]
  refine ⟨w1, w2, w3, w4, w5, w6, w7, by omega, fun j hj => ?_, fun i j hi hj => ?_, w11⟩
  · by_cases e : j = aGl a
    · simp only [if_pos e]; exact hv
    · simp only [if_neg e]; exact w9 j (by omega)
  · have e1 : ¬ i = aGl a := by omega
    by_cases e2 : j = aGl a
    · simp only [if_neg e1, if_pos e2]
      rcases hl with hl | hl
      · omega
      · by_cases e3 : i = aGl a - 1
        · rw [e3]; exact hl
        · have := w10 i (aGl a - 1) (by omega) (by omega); omega
    · simp only [if_neg e1, if_neg e2]; exact w10 i j hi (by omega)
theorem unL_none {a : aS} {x : Nat} : ∀ {k i : Nat}, unL a x k i = false → ∀ j, i ≤ j → j < i + k → ¬ aUh a j = x
  | 0, i, _, j, h1, h2 => by omega
  | k + 1, i, h, j, h1, h2 => by
    rw [unL] at h
    split at h
    · cases h
    · rename_i c
      by_cases e : j = i
      · rw [e]; exact c
      · exact unL_none h j (by omega) (by omega)
theorem aW_un {a : aS} {x : Nat} (w : aW a) (h2 : aUn a < 2) (hx : x < aN a) (hn : unL a x (aUn a) 0 = false) : aW (aUnS a x) := by
  obtain ⟨w1, w2, w3, w4, w5, w6, w7, w8, w9, w10, w11, w12, w13, w14⟩ := w
  unfold aW
  simp only [aFr_aUnS, aN_aUnS, aKi_aUnS, aCs_aUnS, aBy_aUnS, aDo_aUnS, aPu_aUnS, aSp_aUnS, aFm_aUnS, aTo_aUnS, aDy_aUnS, aGl_aUnS, aGd_aUnS, aUn_aUnS, aUh_aUnS, aRu_aUnS, aRd_aUnS, aRf_aUnS, vup_at]
  have nn : ∀ j, j < aUn a → ¬ aUh a j = x := fun j hj => unL_none hn j (by omega) (by omega)
  refine ⟨w1, w2, w3, w4, w5, w6, w7, w8, w9, w10, by omega, fun j hj => ?_, fun i j hi hj => ?_, w14⟩
  · by_cases e : j = aUn a
    · simp only [if_pos e]; exact hx
    · simp only [if_neg e]; exact w12 j (by omega)
  · by_cases e1 : i = aUn a
    · by_cases e2 : j = aUn a
      · intro _; omega
      · simp only [if_pos e1, if_neg e2]
        intro q; exact absurd q.symm (nn j (by omega))
    · by_cases e2 : j = aUn a
      · simp only [if_neg e1, if_pos e2]
        intro q; exact absurd q (nn i (by omega))
      · simp only [if_neg e1, if_neg e2]; exact w13 i j (by omega) (by omega)
theorem aW_ru {a : aS} {d : Nat} {q : Option Nat} (w : aW a) (h4 : aRu a < 4) (hd : d ≤ 30) (hq : ∀ x, q = some x → x < aN a) : aW (aRuS a d q) := by
  obtain ⟨w1, w2, w3, w4, w5, w6, w7, w8, w9, w10, w11, w12, w13, w14, w15⟩ := w
  unfold aW
  simp only [aFr_aRuS, aN_aRuS, aKi_aRuS, aCs_aRuS, aBy_aRuS, aDo_aRuS, aPu_aRuS, aSp_aRuS, aFm_aRuS, aTo_aRuS, aDy_aRuS, aGl_aRuS, aGd_aRuS, aUn_aRuS, aUh_aRuS, aRu_aRuS, aRd_aRuS, aRf_aRuS, vup_at]
  refine ⟨w1, w2, w3, w4, w5, w6, w7, w8, w9, w10, w11, w12, w13, by omega, fun j hj => ?_⟩
  by_cases e : j = aRu a
  · simp only [if_pos e]; exact ⟨hd, hq⟩
  · simp only [if_neg e]; exact w15 j (by omega)
theorem cS_fr {h : qH} {s : Nat} {a : aS} {v : Nat} (w : cS h s a) (hv : v ≤ 9) : cS (wI h s (upd (hI h s) 0 (nI v))) s (aFrS a v) := by
  obtain ⟨hs, ww, ⟨u0, u1, u6, u7, u11, u13, u15⟩, w4, w5, w6, w7, w8⟩ := w
  unfold cS
  simp only [aFr_aFrS, aN_aFrS, aKi_aFrS, aCs_aFrS, aBy_aFrS, aDo_aFrS, aPu_aFrS, aSp_aFrS, aFm_aFrS, aTo_aFrS, aDy_aFrS, aGl_aFrS, aGd_aFrS, aUn_aFrS, aUh_aFrS, aRu_aFrS, aRd_aFrS, aRf_aFrS, hWa, hWb, hWc, hWd, upd_at, vup_at, Nat.reduceEqDiff, if_true, if_false, reduceIte, Nat.zero_ne_one, Nat.one_ne_zero, Nat.succ_ne_self]
  exact ⟨hs, aW_fr ww hv, ⟨trivial, u1, u6, u7, u11, u13, u15⟩, w4, w5, w6, w7, w8⟩
theorem cS_add {h : qH} {s : Nat} {a : aS} {k : Nat} {c : Option Nat} {b : Nat} (w : cS h s a) (h6 : aN a < 6) (hk : k < 4) (hc : ∀ x, c = some x → x ≤ 60) (hb : b ≤ 100) : cS (wI (wI (wI (wI (wI h (s + 1) (upd (hI h (s + 1)) (aN a) (nI k))) (s + 2) (upd (hI h (s + 2)) (aN a) (oI c))) (s + 3) (upd (hI h (s + 3)) (aN a) (nI b))) (s + 4) (upd (hI h (s + 4)) (aN a) 0)) s (upd (hI h s) 1 (nI (aN a + 1)))) s (aAdd a k c b) := by
  obtain ⟨hs, ww, ⟨u0, u1, u6, u7, u11, u13, u15⟩, w4, w5, w6, w7, w8⟩ := w
  unfold cS
  simp only [aFr_aAdd, aN_aAdd, aKi_aAdd, aCs_aAdd, aBy_aAdd, aDo_aAdd, aPu_aAdd, aSp_aAdd, aFm_aAdd, aTo_aAdd, aDy_aAdd, aGl_aAdd, aGd_aAdd, aUn_aAdd, aUh_aAdd, aRu_aAdd, aRd_aAdd, aRf_aAdd, hWa, hWb, hWc, hWd, upd_at, vup_at, Nat.reduceEqDiff, if_true, if_false, reduceIte, Nat.zero_ne_one, Nat.one_ne_zero, Nat.succ_ne_self]
  refine ⟨hs, aW_add ww h6 hk hc hb, ⟨u0, trivial, u6, u7, u11, u13, u15⟩, fun j hj => ?_, fun j hj => ?_, w6, w7, w8⟩
  · by_cases e : j = aN a
    · simp only [if_pos e]; exact ⟨trivial, trivial, trivial, nI_0.symm⟩
    · simp only [if_neg e]; exact w4 j (by omega)
  · rw [lagN_add (ww.2.2.2.2.2.1 j hj).2.1]; exact w5 j hj
theorem cS_spk {h : qH} {s : Nat} {a : aS} {x y d : Nat} (w : cS h s a) (h9 : aSp a < 9) (hx : x < aN a) (hy : y < aN a) (hxy : ¬ y = x) (hn : spkN a x y = none) (hd : d ≤ 9) : cS (wI (wI (wI (wI h (s + 5) (upd (hI h (s + 5)) (aSp a) (nI x))) (s + 6) (upd (hI h (s + 6)) (aSp a) (nI y))) (s + 7) (upd (hI h (s + 7)) (aSp a) (nI (lagN (aSpk a x y d) (aSp a))))) s (upd (hI h s) 7 (nI (aSp a + 1)))) s (aSpk a x y d) := by
  obtain ⟨hs, ww, ⟨u0, u1, u6, u7, u11, u13, u15⟩, w4, w5, w6, w7, w8⟩ := w
  unfold cS
  simp only [aFr_aSpk, aN_aSpk, aKi_aSpk, aCs_aSpk, aBy_aSpk, aDo_aSpk, aPu_aSpk, aSp_aSpk, aFm_aSpk, aTo_aSpk, aDy_aSpk, aGl_aSpk, aGd_aSpk, aUn_aSpk, aUh_aSpk, aRu_aSpk, aRd_aSpk, aRf_aSpk, hWa, hWb, hWc, hWd, upd_at, vup_at, Nat.reduceEqDiff, if_true, if_false, reduceIte, Nat.zero_ne_one, Nat.one_ne_zero, Nat.succ_ne_self]
  refine ⟨hs, aW_spk ww h9 hx hy hxy hn hd, ⟨u0, u1, u6, trivial, u11, u13, u15⟩, w4, fun j hj => ?_, w6, w7, w8⟩
  by_cases e : j = aSp a
  · simp only [if_pos e]; rw [e]; exact ⟨trivial, trivial, rfl⟩
  · simp only [if_neg e]
    have e1 : aTo (aSpk a x y d) j = aTo a j := by rw [aTo_aSpk, vup_at, if_neg e]
    have e2 : aDy (aSpk a x y d) j = aDy a j := by rw [aDy_aSpk, vup_at, if_neg e]
    have : lagN (aSpk a x y d) j = lagN a j := by
      unfold lagN
      rw [e1, e2, aKi_aSpk]
    rw [this]
    exact w5 j (by omega)
theorem cS_do {h : qH} {s : Nat} {a : aS} {x v : Nat} (w : cS h s a) (hv : v ≤ 3) : cS (wI h (s + 4) (upd (hI h (s + 4)) x (nI v))) s (aDoS a x v) := by
  obtain ⟨hs, ww, ⟨u0, u1, u6, u7, u11, u13, u15⟩, w4, w5, w6, w7, w8⟩ := w
  unfold cS
  simp only [aFr_aDoS, aN_aDoS, aKi_aDoS, aCs_aDoS, aBy_aDoS, aDo_aDoS, aPu_aDoS, aSp_aDoS, aFm_aDoS, aTo_aDoS, aDy_aDoS, aGl_aDoS, aGd_aDoS, aUn_aDoS, aUh_aDoS, aRu_aDoS, aRd_aDoS, aRf_aDoS, hWa, hWb, hWc, hWd, upd_at, vup_at, Nat.reduceEqDiff, if_true, if_false, reduceIte, Nat.zero_ne_one, Nat.one_ne_zero, Nat.succ_ne_self]
  refine ⟨hs, aW_do ww hv, ⟨u0, u1, u6, u7, u11, u13, u15⟩, fun j hj => ?_, fun j hj => ?_, w6, w7, w8⟩
  · obtain ⟨q1, q2, q3, q4⟩ := w4 j hj
    refine ⟨q1, q2, q3, ?_⟩
    by_cases e : j = x
    · simp only [if_pos e]
    · simp only [if_neg e]; exact q4
  · exact w5 j hj
theorem cS_pu {h : qH} {s : Nat} {a : aS} {x : Nat} (w : cS h s a) (hx : x < aN a) : cS (wI h s (upd (hI h s) 6 (nI (aPu a ||| 2 ^ x)))) s (aPuS a x) := by
  obtain ⟨hs, ww, ⟨u0, u1, u6, u7, u11, u13, u15⟩, w4, w5, w6, w7, w8⟩ := w
  unfold cS
  simp only [aFr_aPuS, aN_aPuS, aKi_aPuS, aCs_aPuS, aBy_aPuS, aDo_aPuS, aPu_aPuS, aSp_aPuS, aFm_aPuS, aTo_aPuS, aDy_aPuS, aGl_aPuS, aGd_aPuS, aUn_aPuS, aUh_aPuS, aRu_aPuS, aRd_aPuS, aRf_aPuS, hWa, hWb, hWc, hWd, upd_at, vup_at, Nat.reduceEqDiff, if_true, if_false, reduceIte, Nat.zero_ne_one, Nat.one_ne_zero, Nat.succ_ne_self]
  exact ⟨hs, aW_pu ww hx, ⟨u0, u1, trivial, u7, u11, u13, u15⟩, w4, w5, w6, w7, w8⟩
theorem cS_gl {h : qH} {s : Nat} {a : aS} {v : Nat} (w : cS h s a) (h4 : aGl a < 4) (hv : v ≤ 30) (hl : aGl a = 0 ∨ aGd a (aGl a - 1) < v) : cS (wI (wI h (s + 8) (upd (hI h (s + 8)) (aGl a) (nI v))) s (upd (hI h s) 11 (nI (aGl a + 1)))) s (aGlS a v) := by
  obtain ⟨hs, ww, ⟨u0, u1, u6, u7, u11, u13, u15⟩, w4, w5, w6, w7, w8⟩ := w
  unfold cS
  simp only [aFr_aGlS, aN_aGlS, aKi_aGlS, aCs_aGlS, aBy_aGlS, aDo_aGlS, aPu_aGlS, aSp_aGlS, aFm_aGlS, aTo_aGlS, aDy_aGlS, aGl_aGlS, aGd_aGlS, aUn_aGlS, aUh_aGlS, aRu_aGlS, aRd_aGlS, aRf_aGlS, hWa, hWb, hWc, hWd, upd_at, vup_at, Nat.reduceEqDiff, if_true, if_false, reduceIte, Nat.zero_ne_one, Nat.one_ne_zero, Nat.succ_ne_self]
  refine ⟨hs, aW_gl ww h4 hv hl, ⟨u0, u1, u6, u7, trivial, u13, u15⟩, w4, w5, fun j hj => ?_, w7, w8⟩
  by_cases e : j = aGl a
  · simp only [if_pos e]
  · simp only [if_neg e]; exact w6 j (by omega)
theorem cS_un {h : qH} {s : Nat} {a : aS} {x : Nat} (w : cS h s a) (h2 : aUn a < 2) (hx : x < aN a) (hn : unL a x (aUn a) 0 = false) : cS (wI (wI h (s + 9) (upd (hI h (s + 9)) (aUn a) (nI x))) s (upd (hI h s) 13 (nI (aUn a + 1)))) s (aUnS a x) := by
  obtain ⟨hs, ww, ⟨u0, u1, u6, u7, u11, u13, u15⟩, w4, w5, w6, w7, w8⟩ := w
  unfold cS
  simp only [aFr_aUnS, aN_aUnS, aKi_aUnS, aCs_aUnS, aBy_aUnS, aDo_aUnS, aPu_aUnS, aSp_aUnS, aFm_aUnS, aTo_aUnS, aDy_aUnS, aGl_aUnS, aGd_aUnS, aUn_aUnS, aUh_aUnS, aRu_aUnS, aRd_aUnS, aRf_aUnS, hWa, hWb, hWc, hWd, upd_at, vup_at, Nat.reduceEqDiff, if_true, if_false, reduceIte, Nat.zero_ne_one, Nat.one_ne_zero, Nat.succ_ne_self]
  refine ⟨hs, aW_un ww h2 hx hn, ⟨u0, u1, u6, u7, u11, trivial, u15⟩, w4, w5, w6, fun j hj => ?_, w8⟩
  by_cases e : j = aUn a
  · simp only [if_pos e]
  · simp only [if_neg e]; exact w7 j (by omega)
theorem cS_ru {h : qH} {s : Nat} {a : aS} {d : Nat} {q : Option Nat} (w : cS h s a) (h4 : aRu a < 4) (hd : d ≤ 30) (hq : ∀ x, q = some x → x < aN a) : cS (wI (wI (wI h (s + 10) (upd (hI h (s + 10)) (aRu a) (nI d))) (s + 11) (upd (hI h (s + 11)) (aRu a) (oI q))) s (upd (hI h s) 15 (nI (aRu a + 1)))) s (aRuS a d q) := by
  obtain ⟨hs, ww, ⟨u0, u1, u6, u7, u11, u13, u15⟩, w4, w5, w6, w7, w8⟩ := w
  unfold cS
  simp only [aFr_aRuS, aN_aRuS, aKi_aRuS, aCs_aRuS, aBy_aRuS, aDo_aRuS, aPu_aRuS, aSp_aRuS, aFm_aRuS, aTo_aRuS, aDy_aRuS, aGl_aRuS, aGd_aRuS, aUn_aRuS, aUh_aRuS, aRu_aRuS, aRd_aRuS, aRf_aRuS, hWa, hWb, hWc, hWd, upd_at, vup_at, Nat.reduceEqDiff, if_true, if_false, reduceIte, Nat.zero_ne_one, Nat.one_ne_zero, Nat.succ_ne_self]
  refine ⟨hs, aW_ru ww h4 hd hq, ⟨u0, u1, u6, u7, u11, u13, trivial⟩, w4, w5, w6, w7, fun j hj => ?_⟩
  by_cases e : j = aRu a
  · simp only [if_pos e]; exact ⟨trivial, trivial⟩
  · simp only [if_neg e]; exact w8 j (by omega)
/-- the street alone has changed -/
theorem RS_st {h h' : qH} {s n : Nat} {tb : Nat → Int32} {st : PS} {a' : aS} {t : tK} (r : RS h s n tb st t) (e1 : hR h' = hR h) (e2 : hJ h' = hJ h) (e3 : hI h' 27 = hI h 27) (e4 : hI h' 26 = hI h 26) (ea : aN a' = aN st.1) (w' : cS h' s a') : RS h' s n tb (a', st.2) t := by
  obtain ⟨F, r2, w, nm, op, f, ok, hn, tp, e9⟩ := r
  unfold RS
  rw [e1, e2, e3, e4]
  exact ⟨F, r2, w', fun j hj => nm j (by simp only at hj; omega), op, f, ok, hn, tp, e9⟩
theorem rx_27a {h h' : qH} {s : Nat} (x : rx s h h') (hs : s = 1 ∨ s = 13) : hI h' 26 = hI h 26 := x.2.2.2 26 (by decide) (by omega)
