/-! ===== what is written ===== -/
abbrev zWt : Type := Int × (Nat → Int)
def wS (c : zWt) (x : Int) : zWt := (c.1 + 1, uS c.2 c.1.toNat x)
def zWr (M : zM) (k j a : Nat) (c : zWt) : Prop := (0 ≤ c.1 ∧ (zI M k j).toInt = c.1) ∧ ∀ i : Nat, (i : Int) < c.1 → (zI M a i).toInt = c.2 i ∧ 0 ≤ c.2 i ∧ c.2 i ≤ 127
theorem zWr.fr {M M' : zM} {k j a : Nat} {c : zWt} (h : zWr M k j a c) (e1 : zI M' k j = zI M k j) (e2 : ∀ i, zI M' a i = zI M a i) : zWr M' k j a c := by
  refine ⟨⟨h.1.1, by rw [e1]; exact h.1.2⟩, fun i hi => ?_⟩
  rw [e2]
  exact h.2 i hi
theorem zWr.zero {M : zM} {k j a : Nat} (h : (zI M k j).toInt = 0) : zWr M k j a (0, fun _ => 0) := ⟨⟨Int.le_refl 0, h⟩, fun i hi => absurd hi (by show ¬ (i : Int) < 0; omega)⟩
theorem zWr.put {M : zM} {k j a n : Nat} {v w : Int32} {c : zWt} {x : Int} (h : zWr M k j a c) (ha : a ≠ k) (hn : c.1 = (n : Int)) (hv : v.toInt = x) (h0 : 0 ≤ x) (h1 : x ≤ 127) (hw : w.toInt = (n : Int) + 1) : zWr (zsI (zsI M a n v) k j w) k j a (wS c x) := by
  have e1 : (wS c x).1 = c.1 + 1 := rfl
  have e2 : (wS c x).2 = uS c.2 n x := by
    show uS c.2 c.1.toNat x = _
    rw [show c.1.toNat = n by omega]
  refine ⟨⟨by omega, by rw [zIs, e1]; omega⟩, fun i hi => ?_⟩
  rw [e2, zIo ha]
  by_cases q : i = n
  · subst q
    rw [zIs, uS.s]
    exact ⟨hv, h0, h1⟩
  · rw [zIoj q, uS.o q]
    exact h.2 i (by omega)
theorem znar {x : Int32} (h0 : 0 ≤ x.toInt) (h1 : x.toInt ≤ 127) : (vp_nar .byte x).toInt = x.toInt := by
  have e : vp_nar .byte x = x.toInt8.toInt32 := rfl
  have z := zi2b (x := x) (v := x.toInt8.toInt32) rfl h0 (by omega) rfl
  rw [e]
  omega
/-- a number, written -/
def wN (c : zWt) (v : Int) : zWt := if 1000 ≤ v then wS (wS (wS (wS c (48 + v / 1000 % 10)) (48 + v / 100 % 10)) (48 + v / 10 % 10)) (48 + v / 1 % 10) else if 100 ≤ v then wS (wS (wS c (48 + v / 100 % 10)) (48 + v / 10 % 10)) (48 + v / 1 % 10) else if 10 ≤ v then wS (wS c (48 + v / 10 % 10)) (48 + v / 1 % 10) else wS c (48 + v / 1 % 10)
theorem wN.k4 {c : zWt} {v : Int} (h : 1000 ≤ v) : wN c v = wS (wS (wS (wS c (48 + v / 1000 % 10)) (48 + v / 100 % 10)) (48 + v / 10 % 10)) (48 + v / 1 % 10) := if_pos h
theorem wN.k3 {c : zWt} {v : Int} (h : 100 ≤ v) (h2 : v < 1000) : wN c v = wS (wS (wS c (48 + v / 100 % 10)) (48 + v / 10 % 10)) (48 + v / 1 % 10) := by
  unfold wN
  rw [if_neg (by omega), if_pos h]
theorem wN.k2 {c : zWt} {v : Int} (h : 10 ≤ v) (h2 : v < 100) : wN c v = wS (wS c (48 + v / 10 % 10)) (48 + v / 1 % 10) := by
  unfold wN
  rw [if_neg (by omega), if_neg (by omega), if_pos h]
theorem wN.k1 {c : zWt} {v : Int} (h2 : v < 10) : wN c v = wS c (48 + v / 1 % 10) := by
  unfold wN
  rw [if_neg (by omega), if_neg (by omega), if_neg (by omega)]
/-- the layers -/
def wL (F : Nat → Int) : Nat → zWt
  | 0 => (0, fun _ => 0)
  | l + 1 => wS (wN (wS (wL F l) 114) (F (14 + 2 * l))) 59
/-- the settings behind them -/
def wT (c : zWt) (F : Nat → Int) : zWt := wS (wN (wS (wN (wS (wS (wN (wS (wN (wS (wS (wN (wS (wS (wN (wS (wN (wS (wN (wS (wN (wS c 115) (F 5)) 44) (F 6)) 44) (F 7)) 44) (F 8)) 59) 103) (F 9)) 59) 119) (F 10)) 44) (F 11)) 59) 113) (F 12)) 44) (F 13)) 59
def wAll (F : Nat → Int) : zWt := wT (wL F (F 0).toNat) F
/-- what octet tells -/
def zOcP (c : zWt) (A V : Int) : Prop := ((A < 0 ∨ c.1 ≤ A) ∧ V = -1) ∨ (0 ≤ A ∧ A < c.1 ∧ V = c.2 A.toNat)
theorem zOcP.det {c : zWt} {A V W : Int} (h : zOcP c A V) (h' : zOcP c A W) : V = W := by
  rcases h with ⟨a1, a2⟩ | ⟨a1, a2, a3⟩ <;> rcases h' with ⟨b1, b2⟩ | ⟨b1, b2, b3⟩ <;> omega
theorem zWr.oc {M : zM} {k j a n : Nat} {c : zWt} {A V : Int} (h : zWr M k j a c) (hA : A = (n : Int)) (hl : A < (zI M k j).toInt) (hV : V = (zI M a n).toInt) : zOcP c A V := by
  have e := h.1.2
  have z := h.2 n (by omega)
  refine Or.inr ⟨by omega, by omega, ?_⟩
  rw [show A.toNat = n by omega, hV]
  exact z.1
theorem zWr.on {M : zM} {k j a : Nat} {c : zWt} {A V : Int} (h : zWr M k j a c) (hl : A < 0 ∨ (zI M k j).toInt ≤ A) (hV : V = -1) : zOcP c A V := by
  have e := h.1.2
  exact Or.inl ⟨by omega, hV⟩
