/-! ===== votes of a cell ===== -/
/-- a hit votes for it -/
def zvh (F : Nat → Int) (k t b : Int) (h : Nat) : Bool := zctb F h && decide ((F (31 + 4 * h) - pLf F (F (30 + 4 * h)).toNat t k) / F 7 = b)
theorem zvh.y {F : Nat → Int} {k t b : Int} {h l : Nat} (h1 : zctb F h = true) (hl : F (30 + 4 * h) = (l : Int)) (h2 : (F (31 + 4 * h) - pLf F l t k) / F 7 = b) : zvh F k t b h = true := by
  unfold zvh
  rw [h1, show (F (30 + 4 * h)).toNat = l by omega, decide_eq_true h2]
  rfl
theorem zvh.n {F : Nat → Int} {k t b : Int} {h : Nat} (h1 : zctb F h = false) : zvh F k t b h = false := by
  unfold zvh
  rw [h1]
  rfl
theorem zvh.o {F : Nat → Int} {k t b : Int} {h l : Nat} (hl : F (30 + 4 * h) = (l : Int)) (h2 : (F (31 + 4 * h) - pLf F l t k) / F 7 ≠ b) : zvh F k t b h = false := by
  unfold zvh
  rw [show (F (30 + 4 * h)).toNat = l by omega, decide_eq_false h2, Bool.and_false]
/-- one of the first hits of a layer does so -/
def zlr (F : Nat → Int) (P : Nat → Bool) : Nat → Nat → Bool
  | 0, _ => false
  | n + 1, l => zlr F P n l || (P n && decide (F (30 + 4 * n) = (l : Int)))
theorem zlr.n {F : Nat → Int} {P : Nat → Bool} {n l : Nat} (h : P n = false) : zlr F P (n + 1) l = zlr F P n l := by
  show (zlr F P n l || (P n && decide (F (30 + 4 * n) = (l : Int)))) = _
  rw [h, Bool.false_and, Bool.or_false]
theorem zlr.y {F : Nat → Int} {P : Nat → Bool} {n l j : Nat} (h : P n = true) (hj : F (30 + 4 * n) = (j : Int)) : zlr F P (n + 1) l = (zlr F P n l || decide (j = l)) := by
  show (zlr F P n l || (P n && decide (F (30 + 4 * n) = (l : Int)))) = _
  rw [h, Bool.true_and, hj]
  congr 1
  exact decide_eq_decide.mpr (by omega)
/-- on how many layers -/
def zVo (F : Nat → Int) (P : Nat → Bool) (n : Nat) : Int := pct (zlr F P n) 8
/-- a set of layers in an int -/
def zMk (m : Int32) (S : Nat → Bool) : Prop := ∃ n : Nat, n < 256 ∧ m = Int32.ofNat n ∧ ∀ l, l < 8 → n.testBit l = S l
theorem zMk.zero {m : Int32} {S : Nat → Bool} (h : m.toInt = 0) (hS : ∀ l, S l = false) : zMk m S := by
  refine ⟨0, by decide, ?_, fun l _ => ?_⟩
  · rw [← Int32.toInt_inj]
    exact h.trans (by decide)
  · rw [hS, Nat.zero_testBit]
theorem zMk.cg {m : Int32} {S S' : Nat → Bool} (h : zMk m S) (e : ∀ l, S' l = S l) : zMk m S' := by
  obtain ⟨n, h1, h2, h3⟩ := h
  exact ⟨n, h1, h2, fun l hl => (h3 l hl).trans (e l).symm⟩
theorem zmkD : ((List.range 256).all fun n => (List.range 8).all fun j => decide ((Int32.ofNat n ||| ((1 : Int32) <<< (Int32.ofNat j &&& 31))) = Int32.ofNat (n ||| 1 <<< j)) && decide (n ||| 1 <<< j < 256)) = true := by decide +kernel
theorem zMk.add {m s v l : Int32} {S S' : Nat → Bool} {j : Nat} (h : zMk m S) (hl : l.toInt = (j : Int)) (hj : j < 8) (hs : (1 : Int32) <<< (l &&& 31) = s) (hv : m ||| s = v) (e : ∀ i, S' i = (S i || decide (j = i))) : zMk v S' := by
  obtain ⟨n, h1, h2, h3⟩ := h
  have el : l = Int32.ofNat j := by
    rw [← Int32.toInt_inj, hl, Int32.toInt_ofNat_of_lt (by omega)]
  subst h2
  subst hs
  subst hv
  subst el
  have z := List.all_eq_true.mp (List.all_eq_true.mp zmkD n (List.mem_range.mpr h1)) j (List.mem_range.mpr hj)
  rw [Bool.and_eq_true, decide_eq_true_eq, decide_eq_true_eq] at z
  refine ⟨n ||| 1 <<< j, z.2, z.1, fun i hi => ?_⟩
  rw [e, Nat.testBit_or, h3 i hi, Nat.one_shiftLeft, Nat.testBit_two_pow]
/-- the JDK's count of bits -/
def zsh (x n : Int32) : Int32 := (x.toUInt32 >>> (n.toUInt32 &&& Int32.toUInt32 31)).toInt32
def zb1 (a : Int32) : Int32 := a - (zsh a 1 &&& 1431655765)
def zb2 (a : Int32) : Int32 := (zb1 a &&& 858993459) + (zsh (zb1 a) 2 &&& 858993459)
def zb3 (a : Int32) : Int32 := zb2 a + zsh (zb2 a) 4 &&& 252645135
def zb4 (a : Int32) : Int32 := zb3 a + zsh (zb3 a) 8
def zbc (a : Int32) : Int32 := zb4 a + zsh (zb4 a) 16 &&& 63
theorem zbcD : ((List.range 256).all fun n => decide ((zbc (Int32.ofNat n)).toInt = pct (fun l => n.testBit l) 8)) = true := by decide +kernel
theorem zMk.c {m : Int32} {S : Nat → Bool} (h : zMk m S) : (zbc m).toInt = pct S 8 := by
  obtain ⟨n, h1, h2, h3⟩ := h
  have z := of_decide_eq_true (List.all_eq_true.mp zbcD n (List.mem_range.mpr h1))
  rw [h2, z]
  exact pct.cg 8 (fun i hi => h3 i hi)
/-- the model's -/
def zbm (a : Int32) : Int32 := (0 : Int32) + (a >>> ((0 : Int32) &&& 31) &&& 1) + (a >>> ((1 : Int32) &&& 31) &&& 1) + (a >>> ((2 : Int32) &&& 31) &&& 1) + (a >>> ((3 : Int32) &&& 31) &&& 1) + (a >>> ((4 : Int32) &&& 31) &&& 1) + (a >>> ((5 : Int32) &&& 31) &&& 1) + (a >>> ((6 : Int32) &&& 31) &&& 1) + (a >>> ((7 : Int32) &&& 31) &&& 1)
theorem zbmD : ((List.range 256).all fun n => decide ((zbm (Int32.ofNat n)).toInt = pct (fun l => n.testBit l) 8)) = true := by decide +kernel
theorem zMk.m {m : Int32} {S : Nat → Bool} (h : zMk m S) : (zbm m).toInt = pct S 8 := by
  obtain ⟨n, h1, h2, h3⟩ := h
  have z := of_decide_eq_true (List.all_eq_true.mp zbmD n (List.mem_range.mpr h1))
  rw [h2, z]
  exact pct.cg 8 (fun i hi => h3 i hi)
theorem zMk.vy {m s v l : Int32} {F : Nat → Int} {P : Nat → Bool} {n j : Nat} (h : zMk m (zlr F P n)) (hP : P n = true) (hF : F (30 + 4 * n) = (j : Int)) (hl : l.toInt = (j : Int)) (hj : j < 8) (hs : (1 : Int32) <<< (l &&& 31) = s) (hv : m ||| s = v) : zMk v (zlr F P (n + 1)) := h.add hl hj hs hv (fun _ => zlr.y hP hF)
theorem zMk.vn {m : Int32} {F : Nat → Int} {P : Nat → Bool} {n : Nat} (h : zMk m (zlr F P n)) (hP : P n = false) : zMk m (zlr F P (n + 1)) := h.cg (fun _ => zlr.n hP)
/-- what votes tells -/
def zVtP (F : Nat → Int) (A B C V : Int) : Prop := ((A < -F 5 ∨ F 5 < A ∨ B < -F 6 ∨ F 6 < B) ∧ V = -1) ∨ (-F 5 ≤ A ∧ A ≤ F 5 ∧ -F 6 ≤ B ∧ B ≤ F 6 ∧ V = zVo F (zvh F A B C) (F 1).toNat)
theorem zVtP.det {F : Nat → Int} {A B C V W : Int} (h : zVtP F A B C V) (h' : zVtP F A B C W) : V = W := by
  rcases h with ⟨a1, a2⟩ | ⟨a1, a2, a3, a4, a5⟩ <;> rcases h' with ⟨b1, b2⟩ | ⟨b1, b2, b3, b4, b5⟩ <;> omega
theorem zVtP.mk {F : Nat → Int} {A B C V : Int} {m : Int32} {n : Nat} (h1 : -F 5 ≤ A) (h2 : A ≤ F 5) (h3 : -F 6 ≤ B) (h4 : B ≤ F 6) (hm : zMk m (zlr F (zvh F A B C) n)) (hn : F 1 = (n : Int)) (hv : (zMk m (zlr F (zvh F A B C) n) → V = pct (zlr F (zvh F A B C) n) 8)) : zVtP F A B C V := by
  refine Or.inr ⟨h1, h2, h3, h4, ?_⟩
  rw [show (F 1).toNat = n by omega]
  exact hv hm
