/-! ===== floors, lifts ===== -/
theorem zfd_u {a b q r : Int} (hb : 0 < b) (h : r + b * q = a) (h0 : 0 ≤ r) (h1 : r < b) : a / b = q := ((Int.ediv_emod_unique hb).mpr ⟨h, h0, h1⟩).1
theorem zml3 {a b A B : Int} (h1 : -A ≤ a) (h2 : a ≤ A) (h3 : 0 ≤ b) (h4 : b ≤ B) (hA : 0 ≤ A) : -(A * B) ≤ a * b ∧ a * b ≤ A * B := by
  have p1 : a * b ≤ A * b := Int.mul_le_mul_of_nonneg_right h2 h3
  have p2 : A * b ≤ A * B := Int.mul_le_mul_of_nonneg_left h4 hA
  have p3 : -A * b ≤ a * b := Int.mul_le_mul_of_nonneg_right h1 h3
  have p4 : -A * b = -(A * b) := Int.neg_mul A b
  omega
/-- a quotient cut, made a floor -/
theorem zfl_t {a b t : Int} (hb : 0 < b) (ht : t = a.tdiv b) : (0 ≤ a → t = a / b) ∧ (a < 0 → (t * b = a → t = a / b) ∧ (t * b ≠ a → t - 1 = a / b)) ∧ -(if a < 0 then -a else a) ≤ t * b ∧ t * b ≤ (if a < 0 then -a else a) ∧ -(if a < 0 then -a else a) ≤ t ∧ t ≤ (if a < 0 then -a else a) ∧ (a < 0 → t * b ≤ 0) := by
  by_cases h : a < 0
  · have e : t = -((-a) / b) := by
      rw [ht, show a = -(-a) by omega, Int.neg_tdiv, Int.tdiv_eq_ediv_of_nonneg (by omega), show - -(-a) = -a by omega]
    have h5 := Int.emod_add_mul_ediv (-a) b
    have h6 := Int.emod_nonneg (-a) (show b ≠ 0 by omega)
    have h7 := Int.emod_lt_of_pos (-a) hb
    have h8 : 0 ≤ (-a) / b := Int.ediv_nonneg (by omega) (by omega)
    have h9 := Int.ediv_le_self b (show 0 ≤ -a by omega)
    have h10 : t * b = -(b * ((-a) / b)) := by rw [e, Int.neg_mul, Int.mul_comm]
    have h11 : b * -((-a) / b) = -(b * ((-a) / b)) := Int.mul_neg b _
    have h12 : b * (-((-a) / b) - 1) = -(b * ((-a) / b)) - b := by rw [Int.mul_sub, Int.mul_neg, Int.mul_one]
    have h13 : 0 ≤ b * ((-a) / b) := Int.mul_nonneg (by omega) h8
    rw [if_pos h]
    refine ⟨fun q => by omega, fun _ => ⟨fun q => ?_, fun q => ?_⟩, by omega, by omega, by omega, by omega, fun _ => by omega⟩
    · have z := zfd_u (a := a) (b := b) (q := -((-a) / b)) (r := 0) hb (by omega) (by omega) hb
      omega
    · have z := zfd_u (a := a) (b := b) (q := -((-a) / b) - 1) (r := b - (-a) % b) hb (by omega) (by omega) (by omega)
      omega
  · have e : t = a / b := by rw [ht, Int.tdiv_eq_ediv_of_nonneg (by omega)]
    have h5 := Int.emod_add_mul_ediv a b
    have h6 := Int.emod_nonneg a (show b ≠ 0 by omega)
    have h8 : 0 ≤ a / b := Int.ediv_nonneg (by omega) (by omega)
    have h9 := Int.ediv_le_self b (show 0 ≤ a by omega)
    have h10 : t * b = b * (a / b) := by rw [e, Int.mul_comm]
    have h13 : 0 ≤ b * (a / b) := Int.mul_nonneg (by omega) h8
    rw [if_neg h]
    exact ⟨fun _ => e, fun q => absurd q h, by omega, by omega, by omega, by omega, fun q => absurd q h⟩
theorem zxs {a b : Int32} (hb : 0 ≤ b.toInt) : (a ^^^ b).toInt < 0 ↔ a.toInt < 0 := by
  have h1 : (a.toBitVec ^^^ b.toBitVec).msb = (a.toBitVec.msb ^^ b.toBitVec.msb) := BitVec.msb_xor
  have h2 : b.toBitVec.msb = false := by
    rw [BitVec.msb_eq_toInt]
    exact decide_eq_false (by show ¬ b.toInt < 0; omega)
  rw [h2, Bool.xor_false, BitVec.msb_eq_toInt, BitVec.msb_eq_toInt] at h1
  show (a.toBitVec ^^^ b.toBitVec).toInt < 0 ↔ a.toBitVec.toInt < 0
  exact decide_eq_decide.mp h1
/-- the quotient of the machine -/
theorem zqt {a b : Int32} (hb : 0 < b.toInt) : (a / b).toInt = a.toInt.tdiv b.toInt := Int32.toInt_div_of_ne_right a b (fun q => by
  rw [q] at hb
  exact absurd hb (by decide))
/-- a floor, from the machine's steps -/
theorem zfloor {a b q x m v : Int32} {eb : Int} (hb : b.toInt = eb) (h0 : 0 < eb) (hq : a / b = q) (hx : a ^^^ b = x) (hm : q * b = m) (hv : ((0 ≤ x.toInt ∨ m = a) ∧ v = q) ∨ (x.toInt < 0 ∧ m ≠ a ∧ v = q - 1)) : v.toInt = a.toInt / eb := by
  have g := zrg a
  have e1 : q.toInt = a.toInt.tdiv eb := by rw [← hq, ← hb]; exact zqt (by omega)
  obtain ⟨t1, t2, t3, t4, t5, t6, t7⟩ := zfl_t h0 e1
  have e2 : x.toInt < 0 ↔ a.toInt < 0 := by rw [← hx]; exact zxs (by omega)
  have e3 : m.toInt = q.toInt * eb := by
    rw [← hm]
    refine zmulc rfl hb ?_ ?_
    · split at t3 <;> omega
    · split at t4 <;> omega
  rcases hv with ⟨h1, h2⟩ | ⟨h1, h2, h3⟩
  · subst h2
    by_cases h : a.toInt < 0
    · have h3 : m = a := by
        rcases h1 with h1 | h1
        · omega
        · exact h1
      exact (t2 h).1 (by rw [← e3, h3])
    · exact t1 (by omega)
  · have h : a.toInt < 0 := e2.mp h1
    have h4 := (t2 h).2 (fun z => h2 (by
      rw [← e3] at z
      exact Int32.toInt_inj.mp z))
    have gq := zrg q
    have gm := zrg m
    have hq1 : q.toInt ≠ -2147483648 := fun z => by
      rw [z] at e3
      have hb1 : eb = 1 := by omega
      rw [hb1, Int.tdiv_one] at e1
      exact h2 (Int32.toInt_inj.mp (by omega))
    obtain ⟨v', q1, q2⟩ := zisub (a := q) (b := 1) rfl (show (1 : Int32).toInt = 1 by decide) (by omega) (by omega)
    rw [h3, q1, q2]
    exact h4
/-- what a curve is lifted -/
def pLf (F : Nat → Int) (l : Nat) (t k : Int) : Int := t * F (14 + 2 * l) / 100 + k * F (14 + 2 * l) * F (14 + 2 * l) / 10000
theorem zdiv_b {a : Int} {A b : Int} (hb : 0 < b) (h1 : -A ≤ a) (h2 : a ≤ A) (hA : 0 ≤ A) : -A ≤ a / b ∧ a / b ≤ A := by
  have h5 := Int.emod_add_mul_ediv a b
  have h6 := Int.emod_nonneg a (show b ≠ 0 by omega)
  have h7 := Int.emod_lt_of_pos a hb
  constructor
  · refine Int.le_of_not_gt fun q => ?_
    have p : b * (a / b) ≤ b * (-A - 1) := Int.mul_le_mul_of_nonneg_left (by omega) (by omega)
    have p2 : b * (-A - 1) = -(b * A) - b := by rw [Int.mul_sub, Int.mul_neg, Int.mul_one]
    have p3 : 1 * A ≤ b * A := Int.mul_le_mul_of_nonneg_right (by omega) hA
    omega
  · refine Int.le_of_not_gt fun q => ?_
    have p : b * (A + 1) ≤ b * (a / b) := Int.mul_le_mul_of_nonneg_left (by omega) (by omega)
    have p2 : b * (A + 1) = b * A + b := by rw [Int.mul_add, Int.mul_one]
    have p3 : 1 * A ≤ b * A := Int.mul_le_mul_of_nonneg_right (by omega) hA
    omega
/-- the model's floor -/
theorem zflrE {a b : Int64} {ea eb : Int} (ha : a.toInt = ea) (hb : b.toInt = eb) (h0 : 0 < eb) (h1 : -1000000000 ≤ ea) (h2 : ea ≤ 1000000000) (h3 : eb ≤ 1000000000) : (zflr a b).toInt = ea / eb := by
  have hne : b ≠ -1 := fun q => by
    rw [q] at hb
    rw [show (-1 : Int64).toInt = -1 by decide] at hb
    omega
  unfold zflr
  by_cases h : 0 ≤ a.toInt
  · rw [if_pos h, Int64.toInt_toInt32, Int64.toInt_div_of_ne_right a b hne, ha, hb, Int.tdiv_eq_ediv_of_nonneg (by omega)]
    have h8 : 0 ≤ ea / eb := Int.ediv_nonneg (by omega) (by omega)
    have h9 := Int.ediv_le_self eb (show 0 ≤ ea by omega)
    rw [Int.bmod_def]
    split <;> omega
  · rw [if_neg h]
    have e1 : (-a).toInt = -ea := by
      rw [Int64.toInt_neg, ha, Int.bmod_def]
      split <;> omega
    have e2 := zladd e1 hb (by omega) (by omega)
    have e3 := zlsub e2 (show (1 : Int64).toInt = 1 by decide) (by omega) (by omega)
    have e4 : ((-a + b - 1) / b).toInt = (-ea + eb - 1) / eb := by
      rw [Int64.toInt_div_of_ne_right _ b hne, e3, hb, Int.tdiv_eq_ediv_of_nonneg (by omega)]
    have h5 := Int.emod_add_mul_ediv (-ea + eb - 1) eb
    have h6 := Int.emod_nonneg (-ea + eb - 1) (show eb ≠ 0 by omega)
    have h7 := Int.emod_lt_of_pos (-ea + eb - 1) h0
    have h8 : 0 ≤ (-ea + eb - 1) / eb := Int.ediv_nonneg (by omega) (by omega)
    have h9 := Int.ediv_le_self eb (show 0 ≤ -ea + eb - 1 by omega)
    have z := zfd_u (a := ea) (b := eb) (q := -((-ea + eb - 1) / eb)) (r := eb - 1 - (-ea + eb - 1) % eb) h0 (by
      rw [Int.mul_neg]
      omega) (by omega) (by omega)
    rw [z, Int64.toInt_toInt32, Int64.toInt_neg, e4, Int.bmod_def, Int.bmod_def]
    split <;> split <;> omega
theorem zbendE {M : zM} {l k : Int32} {n : Nat} {ek x : Int} (hn : l.toInt = (n : Int)) (hk : k.toInt = ek) (h1 : -99 ≤ ek) (h2 : ek ≤ 99) (hx : (zI M 337 (14 + 2 * n)).toInt = x) (h3 : 0 ≤ x) (h4 : x ≤ 999) : (zbend M l k).toInt = ek * x * x / 10000 := by
  unfold zbend zx
  rw [show l.toInt.toNat = n by omega]
  have b1 := zml3 (A := 99) (B := 999) h1 h2 h3 h4 (by omega)
  have b2 := zml3 (a := ek * x) (A := 98901) (B := 999) (by omega) (by omega) h3 h4 (by omega)
  have e1 : k.toInt64.toInt = ek := zi2l hk
  have e2 : (zI M 337 (14 + 2 * n)).toInt64.toInt = x := zi2l hx
  have e3 := zlmul e1 e2 (by omega) (by omega)
  have e4 := zlmul e3 e2 (by omega) (by omega)
  exact zflrE e4 (show (10000 : Int64).toInt = 10000 by decide) (by omega) (by omega) (by omega) (by omega)
theorem zliftE {M : zM} {l t k : Int32} {n : Nat} {F : Nat → Int} {et ek : Int} (hn : l.toInt = (n : Int)) (ht : t.toInt = et) (hk : k.toInt = ek) (h1 : -99 ≤ ek) (h2 : ek ≤ 99) (h5 : -99 ≤ et) (h6 : et ≤ 99) (hx : (zI M 337 (14 + 2 * n)).toInt = F (14 + 2 * n)) (h3 : 0 ≤ F (14 + 2 * n)) (h4 : F (14 + 2 * n) ≤ 999) : (zlift M l t k).toInt = pLf F n et ek := by
  have e0 := zbendE (M := M) hn hk h1 h2 hx h3 h4
  unfold zlift zx pLf
  rw [show l.toInt.toNat = n by omega]
  have b1 := zml3 (A := 99) (B := 999) h1 h2 h3 h4 (by omega)
  have b2 := zml3 (a := ek * F (14 + 2 * n)) (A := 98901) (B := 999) (by omega) (by omega) h3 h4 (by omega)
  have b3 := zml3 (A := 99) (B := 999) h5 h6 h3 h4 (by omega)
  have d1 := zdiv_b (A := 98901) (b := 100) (by omega) b3.1 b3.2 (by omega)
  have d2 := zdiv_b (A := 98802099) (b := 10000) (by omega) b2.1 b2.2 (by omega)
  have e1 : t.toInt64.toInt = et := zi2l ht
  have e2 : (zI M 337 (14 + 2 * n)).toInt64.toInt = F (14 + 2 * n) := zi2l hx
  have e3 := zlmul e1 e2 (by omega) (by omega)
  have e4 := zflrE e3 (show (100 : Int64).toInt = 100 by decide) (by omega) (by omega) (by omega) (by omega)
  obtain ⟨v, q1, q2⟩ := ziadd e4 e0 (by omega) (by omega)
  rw [q1]
  exact q2
