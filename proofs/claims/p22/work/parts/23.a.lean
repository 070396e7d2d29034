/-! ===== the fresh memory lies within the table (a draft, not compiled yet) ===== -/
/-- rows that the constructors never wrote hold 0 at every place: a place that would not is chosen -/
def zlzP (j : Nat) : Prop := ((List.range 364).all fun k => !zlz k || decide (zI zM2 k j = 0)) = true
noncomputable def zje : Nat := Classical.epsilon (fun j => ¬ zlzP j)
theorem zlzP1 : zlzP zje := by
  unfold zlzP
  decide +kernel
theorem zlzP2 (j : Nat) : zlzP j := by
  by_cases h : zlzP j
  · exact h
  · exact absurd zlzP1 (Classical.epsilon_spec (p := fun j => ¬ zlzP j) ⟨j, h⟩)
theorem zlz0 {k : Nat} (h : zlz k = true) (j : Nat) : zI zMe k j = 0 := by
  have hk := zlz_n h
  have h1 := List.all_eq_true.mp (zlzP2 j) k (List.mem_range.mpr hk)
  rw [h, Bool.not_true, Bool.false_or, decide_eq_true_eq] at h1
  show cond (zlz k) (zI zM2 k j) _ = 0
  rw [h]
  exact h1
/-- the first places one by one, the others by a chosen one -/
def zcbP (i : Nat) : Prop := ((List.range 336).all fun k => decide (cLo k (i + 64) ≤ 0) && decide (0 ≤ cHi k (i + 64))) = true
noncomputable def zci0 : Nat := Classical.epsilon (fun i => ¬ zcbP i)
theorem zcbP1 : zcbP zci0 := by
  unfold zcbP
  decide +kernel
theorem zcbP2 (i : Nat) : zcbP i := by
  by_cases h : zcbP i
  · exact h
  · exact absurd zcbP1 (Classical.epsilon_spec (p := fun i => ¬ zcbP i) ⟨i, h⟩)
theorem zcb1 : ((List.range 336).all fun k => (List.range 64).all fun j => zlz k || (decide (cLo k j ≤ ((zIt k).getD j 0).toInt) && decide (((zIt k).getD j 0).toInt ≤ cHi k j))) = true := by decide +kernel
theorem zcb2 : ((List.range 336).all fun k => (List.range 64).all fun j => !zlz k || (decide (cLo k j ≤ 0) && decide (0 ≤ cHi k j))) = true := by decide +kernel
theorem zcb3 : ((List.range 336).all fun k => zlz k || decide ((zIt k).length ≤ 64)) = true := by decide +kernel
theorem zIv0 : zIv cLo cHi zMc := by
  intro k j
  show cLo k j ≤ (zI zMe k j).toInt ∧ (zI zMe k j).toInt ≤ cHi k j
  by_cases hk : k < 336
  · have hbig : ¬ j < 64 → cLo k j ≤ 0 ∧ 0 ≤ cHi k j := by
      intro hj
      have h := List.all_eq_true.mp (zcbP2 (j - 64)) k (List.mem_range.mpr hk)
      rw [Bool.and_eq_true, decide_eq_true_eq, decide_eq_true_eq, show j - 64 + 64 = j by omega] at h
      exact h
    cases hz : zlz k with
    | true =>
      rw [zlz0 hz j, z0i]
      by_cases hj : j < 64
      · have h := List.all_eq_true.mp (List.all_eq_true.mp zcb2 k (List.mem_range.mpr hk)) j (List.mem_range.mpr hj)
        rw [hz, Bool.not_true, Bool.false_or, Bool.and_eq_true, decide_eq_true_eq, decide_eq_true_eq] at h
        exact h
      · exact hbig hj
    | false =>
      have e : zI zMe k j = (zIt k).getD j 0 := by
        show cond (zlz k) _ _ = _
        rw [hz]
        rfl
      rw [e]
      by_cases hj : j < 64
      · have h := List.all_eq_true.mp (List.all_eq_true.mp zcb1 k (List.mem_range.mpr hk)) j (List.mem_range.mpr hj)
        rw [hz, Bool.false_or, Bool.and_eq_true, decide_eq_true_eq, decide_eq_true_eq] at h
        exact h
      · have hl := List.all_eq_true.mp zcb3 k (List.mem_range.mpr hk)
        rw [hz, Bool.false_or, decide_eq_true_eq] at hl
        have e0 : (zIt k).getD j 0 = 0 := by
          rw [List.getD_eq_getElem?_getD, List.getElem?_eq_none (by omega)]
          rfl
        rw [e0, z0i]
        exact hbig hj
  · have g := zrg (zI zMe k j)
    have e : cLo k j = -2147483648 ∧ cHi k j = 2147483647 := by
      unfold cLo cHi
      rw [Nat.ble_eq_true_of_le (show 336 ≤ k by omega)]
      exact ⟨rfl, rfl⟩
    rw [e.1, e.2]
    exact g
