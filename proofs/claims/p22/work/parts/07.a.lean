/-! ===== the constructors, run ===== -/
theorem zsome {α : Type} {o : Option α} {z : α} (h : o.isSome = true) : o = some (o.getD z) := by
  cases o with
  | none => cases h
  | some a => rfl
def zO1 : Option (Option Value × zM) := zOut 5000 0 [.ref 6] (zal zM0 (11, 0))
def zM1 : zM := (zO1.getD (none, zM0)).2
def zO2 : Option (Option Value × zM) := zOut 5000 224 [.ref 336] (zal zM1 (12, 0))
def zM2 : zM := (zO2.getD (none, zM0)).2
def zbq (a b : Nat) : Bool := Nat.beq a b
theorem zbq_ok {a b : Nat} (h : zbq a b = true) : a = b := Nat.eq_of_beq_eq_true h
theorem zok12 : (zO1.isSome && zbq (zN zM1) 336 && zO2.isSome && zbq (zN zM2) 364) = true := by decide +kernel
theorem zok1 : zO1.isSome = true := by
  have h := zok12
  rw [Bool.and_eq_true, Bool.and_eq_true, Bool.and_eq_true] at h
  exact h.1.1.1
theorem zN1 : zN zM1 = 336 := by
  have h := zok12
  rw [Bool.and_eq_true, Bool.and_eq_true, Bool.and_eq_true] at h
  exact zbq_ok h.1.1.2
theorem zok2 : zO2.isSome = true := by
  have h := zok12
  rw [Bool.and_eq_true, Bool.and_eq_true, Bool.and_eq_true] at h
  exact h.1.2
theorem zN2 : zN zM2 = 364 := by
  have h := zok12
  rw [Bool.and_eq_true, Bool.and_eq_true, Bool.and_eq_true] at h
  exact zbq_ok h.2
