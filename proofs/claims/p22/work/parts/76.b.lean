/-! ===== the trigger's text ===== -/
theorem zIor {M : zM} {k j k' j' : Nat} {v : Int32} (h : ¬ (k' = k ∧ j' = j)) : zI (zsI M k j v) k' j' = zI M k' j' := by
  by_cases e : k' = k
  · subst e
    exact zIoj (fun q => h ⟨rfl, q⟩)
  · exact zIo e
def pTr (F : Nat → Int) (f : Nat → Int32) (n : Int) : Nat → Int := fun j => if j = 1000 then n else if 1001 ≤ j then (f (j - 1001)).toInt else F j
theorem pTr.o {F : Nat → Int} {f : Nat → Int32} {n : Int} {j : Nat} (h : j < 1000) : pTr F f n j = F j := by
  unfold pTr
  rw [if_neg (by omega), if_neg (by omega)]
theorem zSo.tr {M N : zM} {s : Nat} {F : Nat → Int} {f : Nat → Int32} {n : Int} (q : zSo M s F) (h0 : F 0 ≤ 8) (h1 : F 1 ≤ 60) (h2 : F 2 ≤ 12) (e : ∀ k j : Nat, s ≤ k → k ≤ s + 10 → ¬ (k = s ∧ j = 13) → zI N k j = zI M k j) (e13 : (zI N s 13).toInt = n) (r : ∀ j : Nat, (j : Int) < n → zI N (s + 11) j = f j) : zSo N s (pTr F f n) := by
  obtain ⟨⟨a1, a2, a3, a4⟩, b, c, d, g, _⟩ := q
  refine ⟨⟨?_, ?_, ?_, ?_⟩, fun l hl => ?_, fun l hl => ?_, fun l hl => ?_, fun l hl => ?_, fun l hl => ?_⟩
  · rw [e _ _ (by omega) (by omega) (by omega), pTr.o (by omega)]
    exact a1
  · rw [e _ _ (by omega) (by omega) (by omega), pTr.o (by omega)]
    exact a2
  · rw [e _ _ (by omega) (by omega) (by omega), pTr.o (by omega)]
    exact a3
  · rw [e13]
    exact (if_pos rfl).symm
  · rw [pTr.o (by omega)] at hl
    rw [e _ _ (by omega) (by omega) (by omega), e _ _ (by omega) (by omega) (by omega), pTr.o (by omega), pTr.o (by omega)]
    exact b l hl
  · rw [pTr.o (by omega)] at hl
    rw [e _ _ (by omega) (by omega) (by omega), e _ _ (by omega) (by omega) (by omega), e _ _ (by omega) (by omega) (by omega), e _ _ (by omega) (by omega) (by omega), pTr.o (by omega), pTr.o (by omega), pTr.o (by omega), pTr.o (by omega)]
    exact c l hl
  · rw [pTr.o (by omega)] at hl
    rw [e _ _ (by omega) (by omega) (by omega), e _ _ (by omega) (by omega) (by omega), e _ _ (by omega) (by omega) (by omega), pTr.o (by omega), pTr.o (by omega), pTr.o (by omega)]
    exact d l hl
  · rw [e _ _ (by omega) (by omega) (by omega), pTr.o (by omega)]
    exact g l hl
  · rw [show pTr F f n 1000 = n from if_pos rfl] at hl
    rw [r l hl]
    unfold pTr
    rw [if_neg (by omega), if_pos (by omega), show 1001 + l - 1001 = l by omega]
theorem zWF.tr {F : Nat → Int} {f : Nat → Int32} {n : Int} (q : zWF F) : zWF (pTr F f n) := by
  obtain ⟨a, b, c, d, e⟩ := q
  unfold zWF
  rw [pTr.o (by omega), pTr.o (by omega), pTr.o (by omega), pTr.o (by omega), pTr.o (by omega), pTr.o (by omega), pTr.o (by omega), pTr.o (by omega), pTr.o (by omega), pTr.o (by omega), pTr.o (by omega), pTr.o (by omega)]
  refine ⟨a, fun i hi => ?_, fun i hi => ?_, d, e⟩
  · rw [pTr.o (by omega), pTr.o (by omega)]
    exact b i hi
  · rw [pTr.o (by omega), pTr.o (by omega), pTr.o (by omega)]
    exact c i hi
