/-! ===== a particle's hits in the model's row ===== -/
def zPm (F : Nat → Int) (z t k : Int) (l : Nat) (G : Nat → Int) : Prop := zPj F z t k l G ∧ ∀ j : Nat, 270 ≤ j ∨ j = 2 → G j = pPar F z t k j
theorem zPm.zero {F : Nat → Int} {z t k : Int} (q : zWF F) (h : F 2 < 12) : zPm F z t k 0 (pPar F z t k) := ⟨zPj.zero q h, fun _ _ => rfl⟩
theorem zPm.skip {F G : Nat → Int} {z t k : Int} {l : Nat} (h : zPm F z t k l G) (q : z + pLf F l t k < -9999 ∨ 9999 < z + pLf F l t k) : zPm F z t k (l + 1) G := ⟨h.1.skip q, h.2⟩
theorem zPm.hit {F G : Nat → Int} {z t k y x : Int} {l : Nat} (h : zPm F z t k l G) (wf : zWF F) (hl : (l : Int) < F 0) (hy : y = z + pLf F l t k) (h1 : -9999 ≤ y) (h2 : y ≤ 9999) (h3 : G 1 < 60) (hx : x = F (14 + 2 * l) / 10) : zPm F z t k (l + 1) (pHit G (l : Int) y x (F 2)) := by
  refine ⟨h.1.hit wf hl hy h1 h2 h3 hx, fun j hj => ?_⟩
  have e1 : uS G 2 (F 2 + 1) 1 = G 1 := uS.o (by decide)
  have q := h.1.2.1.1
  rw [pHit.o (by omega) (by omega)]
  exact h.2 j hj
theorem zPm.par {F G : Nat → Int} {z t k : Int} {l n : Nat} (h : zPm F z t k l G) (hn : F 2 = (n : Int)) : G (270 + 3 * n) = z ∧ G (271 + 3 * n) = t ∧ G (272 + 3 * n) = k ∧ G 2 = F 2 := by
  rw [h.2 _ (by omega), h.2 _ (by omega), h.2 _ (by omega), h.2 2 (by omega)]
  unfold pPar
  rw [show (F 2).toNat = n by omega]
  refine ⟨?_, ?_, ?_, ?_⟩
  · rw [uS.o (by omega), uS.o (by omega), uS.s]
  · rw [uS.o (by omega), uS.s]
  · rw [uS.s]
  · rw [uS.o (by omega), uS.o (by omega), uS.o (by omega)]
/-! ===== the model's acts ===== -/
/-- an act stands among those read: letter, numbers -/
def zBt (M : zM) (c i : Nat) (A : aT) : Prop := (zI M c (4 * i)).toInt = A.1 ∧ (zI M c (4 * i + 1)).toInt = A.2.1 ∧ (A.1 = 104 → (zI M c (4 * i + 2)).toInt = A.2.2.1 ∧ (zI M c (4 * i + 3)).toInt = A.2.2.2) ∧ (A.1 = 104 ∨ A.1 = 120 ∨ A.1 = 100 ∨ A.1 = 110)
def zBl (M : zM) (c k : Nat) (L : Nat → aT) : Prop := ∀ i, i < k → zBt M c i (L i)
theorem zBl.fr {M M' : zM} {c k : Nat} {L : Nat → aT} (h : zBl M c k L) (e : ∀ j : Nat, zI M' c j = zI M c j) : zBl M' c k L := fun i hi => by
  have z := h i hi
  unfold zBt
  rw [e, e, e, e]
  exact z
theorem zBl.z {M : zM} {c : Nat} {L : Nat → aT} : zBl M c 0 L := fun i hi => absurd hi (by omega)
theorem zBl.up {M N : zM} {c k : Nat} {L : Nat → aT} {A : aT} (h : zBl M c k L) (a : zBt N c k A) (e : ∀ j : Nat, (j : Int) < 4 * (k : Int) → zI N c j = zI M c j) : zBl N c (k + 1) (uA L k A) := fun i hi => by
  by_cases w : i = k
  · subst w
    rw [uA.s]
    exact a
  · have z := h i (by omega)
    rw [uA.o w]
    unfold zBt
    rw [e (4 * i) (by omega), e (4 * i + 1) (by omega), e (4 * i + 2) (by omega), e (4 * i + 3) (by omega)]
    exact z
