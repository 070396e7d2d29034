theorem zrg64 (a : Int64) : -9223372036854775808 ≤ a.toInt ∧ a.toInt ≤ 9223372036854775807 := by
  have h1 := Int64.le_toInt a
  have h2 := Int64.toInt_lt a
  omega
theorem znz64 {b : Int64} {e : Int} (hb : b.toInt = e) (h : e ≠ 0) : b ≠ 0 := fun q => h (by rw [← hb, q]; decide)
theorem zfvj {M : zM} {k j : Nat} {t : FieldType} (ht : zft t = 1) : zfv M k t j = .long (zJ M k j) := by
  unfold zfv
  rw [ht]
  rfl
theorem zinW_r {W : zW} {k j lo hi : Nat} (h : (lo, hi, (none : Option Nat)) ∈ W) (h1 : lo ≤ k) (h2 : k ≤ hi) : zinW W k j = true := by
  unfold zinW
  rw [List.any_eq_true]
  refine ⟨_, h, ?_⟩
  rw [Nat.ble_eq_true_of_le h1, Nat.ble_eq_true_of_le h2]
  rfl
