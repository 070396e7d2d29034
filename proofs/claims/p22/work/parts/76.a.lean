/-! ===== the class's tape ===== -/
def zpt (M : zM) : Int32 := if 0 ≤ (zI M 155 2).toInt ∧ (zI M 155 2).toInt < (zI M 155 1).toInt then zI M 156 (zI M 155 2).toInt.toNat &&& 255 else -1
def zTa (M : zM) (g : Nat → Int) (n : Int) : Prop := zsy (zI M 156) (zI M 155 1).toInt = g ∧ (zI M 155 1).toInt = n
theorem zTa.fr {M M' : zM} {g : Nat → Int} {n : Int} (h : zTa M g n) (e : zEq [(155, 155, some 1), (156, 156, none)] M M') : zTa M' g n := by
  obtain ⟨h2, h3⟩ := h
  have e1 : zI M' 155 1 = zI M 155 1 := e 155 1 rfl
  refine ⟨?_, by rw [e1]; exact h3⟩
  rw [e1, show zI M' 156 = zI M 156 from funext fun j => e 156 j rfl]
  exact h2
theorem zTa.rg {M : zM} {g : Nat → Int} {n : Int} (h : zTa M g n) (p : Nat) : -1 ≤ g p ∧ g p ≤ 255 ∧ (g p < 0 ∨ (p : Int) < n) := by
  rw [← h.1, ← h.2]
  exact zsy.rg
theorem zpt.tr {M : zM} {g : Nat → Int} {n : Int} {p : Nat} (h : zTa M g n) (hp : (zI M 155 2).toInt = (p : Int)) : (zpt M).toInt = g p := by
  rw [← h.1]
  unfold zpt zsy
  by_cases q : (p : Int) < (zI M 155 1).toInt
  · rw [if_pos (by omega), if_pos q, show (zI M 155 2).toInt.toNat = p by omega]
  · rw [if_neg (by omega), if_neg q]
    decide
theorem pLo.z {F : Nat → Int} (h : F 0 = 0) : pLo F = 1 := if_pos h
theorem pLo.e {F : Nat → Int} {k : Nat} (h : F 0 = (k : Int) + 1) : pLo F = F (14 + 2 * k) + 1 := by
  unfold pLo
  rw [if_neg (by omega), show (F 0).toNat - 1 = k by omega]
/-- a layer more -/
theorem zSo.lay {M : zM} {s n k1 k2 : Nat} {F : Nat → Int} {v a c : Int32} {x : Int} (q : zSo M s F) (e1 : k1 = s + 1) (e2 : k2 = s + 2) (hn : F 0 = (n : Int)) (hh : n < 8) (h1 : F 1 ≤ 60) (hv : v.toInt = x) (ha : a.toInt = 1) (hc : c.toInt = (n : Int) + 1) : zSo (zsI (zsI (zsI M k1 n v) k2 n a) s 0 c) s (pLay F x) := by
  subst e1
  subst e2
  obtain ⟨⟨a1, a2, a3, a4⟩, b, c', d, f, g⟩ := q
  have en : (F 0).toNat = n := by omega
  have e0 : ∀ j : Nat, j ≠ 0 → (j < 14 ∨ 30 ≤ j) → pLay F x j = F j := fun j h1 h2 => by
    unfold pLay
    rw [en, uS.o h1, uS.o (by omega), uS.o (by omega)]
  have e00 : pLay F x 0 = (n : Int) + 1 := by
    unfold pLay
    rw [uS.s, hn]
  refine ⟨⟨?_, ?_, ?_, ?_⟩, fun l hl => ?_, fun l hl => ?_, fun l hl => ?_, fun l hl => ?_, fun l hl => ?_⟩
  · rw [zIs, e00]
    exact hc
  · rw [zIoj (by omega), zIo (by omega), zIo (by omega), e0 1 (by omega) (by omega)]
    exact a2
  · rw [zIoj (by omega), zIo (by omega), zIo (by omega), e0 2 (by omega) (by omega)]
    exact a3
  · rw [zIoj (by omega), zIo (by omega), zIo (by omega), e0 1000 (by omega) (by omega)]
    exact a4
  · rw [e00] at hl
    by_cases e : l = n
    · subst e
      refine ⟨?_, ?_⟩
      · rw [zIo (by omega), zIo (by omega), zIs]
        unfold pLay
        rw [en, uS.o (by omega), uS.o (by omega), uS.s]
        exact hv
      · rw [zIo (by omega), zIs]
        unfold pLay
        rw [en, uS.o (by omega), uS.s]
        exact ha
    · have z := b l (by omega)
      refine ⟨?_, ?_⟩
      · rw [zIo (by omega), zIo (by omega), zIoj e]
        unfold pLay
        rw [en, uS.o (by omega), uS.o (by omega), uS.o (by omega)]
        exact z.1
      · rw [zIo (by omega), zIoj e, zIo (by omega)]
        unfold pLay
        rw [en, uS.o (by omega), uS.o (by omega), uS.o (by omega)]
        exact z.2
  · rw [e0 1 (by omega) (by omega)] at hl
    have z := c' l hl
    refine ⟨?_, ?_, ?_, ?_⟩
    · rw [zIo (by omega), zIo (by omega), zIo (by omega), e0 _ (by omega) (by omega)]
      exact z.1
    · rw [zIo (by omega), zIo (by omega), zIo (by omega), e0 _ (by omega) (by omega)]
      exact z.2.1
    · rw [zIo (by omega), zIo (by omega), zIo (by omega), e0 _ (by omega) (by omega)]
      exact z.2.2.1
    · rw [zIo (by omega), zIo (by omega), zIo (by omega), e0 _ (by omega) (by omega)]
      exact z.2.2.2
  · rw [e0 2 (by omega) (by omega)] at hl
    have z := d l hl
    refine ⟨?_, ?_, ?_⟩
    · rw [zIo (by omega), zIo (by omega), zIo (by omega), e0 _ (by omega) (by omega)]
      exact z.1
    · rw [zIo (by omega), zIo (by omega), zIo (by omega), e0 _ (by omega) (by omega)]
      exact z.2.1
    · rw [zIo (by omega), zIo (by omega), zIo (by omega), e0 _ (by omega) (by omega)]
      exact z.2.2
  · rw [zIo (by omega), zIo (by omega), zIo (by omega), e0 _ (by omega) (by omega)]
    exact f l hl
  · rw [e0 1000 (by omega) (by omega)] at hl
    rw [zIo (by omega), zIo (by omega), zIo (by omega), e0 _ (by omega) (by omega)]
    exact g l hl
/-- a particle more, without what it leaves -/
theorem zSo.par {M : zM} {s n k1 k2 k3 : Nat} {F : Nat → Int} {v1 v2 v3 c : Int32} {x1 x2 x3 : Int} (q : zSo M s F) (e1 : k1 = s + 7) (e2 : k2 = s + 8) (e3 : k3 = s + 9) (hn : F 2 = (n : Int)) (hh : n < 12) (h0 : F 0 ≤ 8) (h1 : F 1 ≤ 60) (hv1 : v1.toInt = x1) (hv2 : v2.toInt = x2) (hv3 : v3.toInt = x3) (hc : c.toInt = (n : Int) + 1) : zSo (zsI (zsI (zsI (zsI M k1 n v1) k2 n v2) k3 n v3) s 8 c) s (uS (pPar F x1 x2 x3) 2 (F 2 + 1)) := by
  subst e1
  subst e2
  subst e3
  obtain ⟨⟨a1, a2, a3, a4⟩, b, c', d, f, g⟩ := q
  have en : (F 2).toNat = n := by omega
  have e0 : ∀ j : Nat, j ≠ 2 → (j < 270 ∨ 306 ≤ j) → uS (pPar F x1 x2 x3) 2 (F 2 + 1) j = F j := fun j h1 h2 => by
    unfold pPar
    rw [en, uS.o h1, uS.o (by omega), uS.o (by omega), uS.o (by omega)]
  have e00 : uS (pPar F x1 x2 x3) 2 (F 2 + 1) 2 = (n : Int) + 1 := by
    rw [uS.s, hn]
  refine ⟨⟨?_, ?_, ?_, ?_⟩, fun l hl => ?_, fun l hl => ?_, fun l hl => ?_, fun l hl => ?_, fun l hl => ?_⟩
  · rw [zIoj (by omega), zIo (by omega), zIo (by omega), zIo (by omega), e0 0 (by omega) (by omega)]
    exact a1
  · rw [zIoj (by omega), zIo (by omega), zIo (by omega), zIo (by omega), e0 1 (by omega) (by omega)]
    exact a2
  · rw [zIs, e00]
    exact hc
  · rw [zIoj (by omega), zIo (by omega), zIo (by omega), zIo (by omega), e0 1000 (by omega) (by omega)]
    exact a4
  · rw [e0 0 (by omega) (by omega)] at hl
    have z := b l hl
    refine ⟨?_, ?_⟩
    · rw [zIo (by omega), zIo (by omega), zIo (by omega), zIo (by omega), e0 _ (by omega) (by omega)]
      exact z.1
    · rw [zIo (by omega), zIo (by omega), zIo (by omega), zIo (by omega), e0 _ (by omega) (by omega)]
      exact z.2
  · rw [e0 1 (by omega) (by omega)] at hl
    have z := c' l hl
    refine ⟨?_, ?_, ?_, ?_⟩
    · rw [zIo (by omega), zIo (by omega), zIo (by omega), zIo (by omega), e0 _ (by omega) (by omega)]
      exact z.1
    · rw [zIo (by omega), zIo (by omega), zIo (by omega), zIo (by omega), e0 _ (by omega) (by omega)]
      exact z.2.1
    · rw [zIo (by omega), zIo (by omega), zIo (by omega), zIo (by omega), e0 _ (by omega) (by omega)]
      exact z.2.2.1
    · rw [zIo (by omega), zIo (by omega), zIo (by omega), zIo (by omega), e0 _ (by omega) (by omega)]
      exact z.2.2.2
  · rw [e00] at hl
    by_cases e : l = n
    · subst e
      refine ⟨?_, ?_, ?_⟩
      · rw [zIo (by omega), zIo (by omega), zIo (by omega), zIs]
        unfold pPar
        rw [en, uS.o (by omega), uS.o (by omega), uS.o (by omega), uS.s]
        exact hv1
      · rw [zIo (by omega), zIo (by omega), zIs]
        unfold pPar
        rw [en, uS.o (by omega), uS.o (by omega), uS.s]
        exact hv2
      · rw [zIo (by omega), zIs]
        unfold pPar
        rw [en, uS.o (by omega), uS.s]
        exact hv3
    · have z := d l (by omega)
      have y : ∀ j : Nat, j < 3 → uS (pPar F x1 x2 x3) 2 (F 2 + 1) (270 + j + 3 * l) = F (270 + j + 3 * l) := fun j hj => by
        unfold pPar
        rw [en, uS.o (by omega), uS.o (by omega), uS.o (by omega), uS.o (by omega)]
      refine ⟨?_, ?_, ?_⟩
      · rw [zIo (by omega), zIo (by omega), zIo (by omega), zIoj e]
        exact z.1.trans (y 0 (by omega)).symm
      · rw [zIo (by omega), zIo (by omega), zIoj e, zIo (by omega)]
        exact z.2.1.trans (y 1 (by omega)).symm
      · rw [zIo (by omega), zIoj e, zIo (by omega), zIo (by omega)]
        exact z.2.2.trans (y 2 (by omega)).symm
  · rw [zIo (by omega), zIo (by omega), zIo (by omega), zIo (by omega), e0 _ (by omega) (by omega)]
    exact f l hl
  · rw [e0 1000 (by omega) (by omega)] at hl
    rw [zIo (by omega), zIo (by omega), zIo (by omega), zIo (by omega), e0 _ (by omega) (by omega)]
    exact g l hl
theorem pHit.u2 {G : Nat → Int} {l y t p c : Int} : ∀ j, uS (pHit G l y t p) 2 c j = pHit (uS G 2 c) l y t p j := fun j => by
  have e1 : uS G 2 c 1 = G 1 := uS.o (by decide)
  unfold pHit
  rw [e1]
  by_cases h : j = 2
  · subst h
    rw [uS.s, uS.o (by omega), uS.o (by omega), uS.o (by omega), uS.o (by omega), uS.o (by omega), uS.s]
  · rw [uS.o h]
    unfold uS
    rw [if_neg h]
theorem pDg.zz {g : Nat → Int} {k p : Nat} (h : ¬ (48 ≤ g p ∧ g p ≤ 57)) : pDg g k p = p := by
  cases k with
  | zero => rfl
  | succ k => exact pDg.n h
theorem pHit.o {F : Nat → Int} {l y t p : Int} {j : Nat} (h : j ≠ 1) (h2 : j < 30 ∨ 34 + 4 * (F 1).toNat ≤ j ∨ (30 ≤ j ∧ j < 30 + 4 * (F 1).toNat)) : pHit F l y t p j = F j := by
  unfold pHit
  rw [uS.o h, uS.o (by omega), uS.o (by omega), uS.o (by omega), uS.o (by omega)]
theorem pHit.c {F : Nat → Int} {l y t p : Int} : pHit F l y t p 1 = F 1 + 1 := uS.s
theorem zWF.hit {F : Nat → Int} {l y t p : Int} (q : zWF F) (h1 : 0 ≤ l) (h2 : l < F 0) (h3 : -9999 ≤ y) (h4 : y ≤ 9999) (h5 : -1 ≤ t) (h6 : t ≤ 999) (h7 : F 1 < 60) : zWF (pHit F l y t p) := by
  obtain ⟨⟨a1, a2, a3, a4, a5, a6⟩, b, c, d, e⟩ := q
  have e0 : ∀ j : Nat, j < 30 → j ≠ 1 → pHit F l y t p j = F j := fun j hj hj1 => pHit.o hj1 (Or.inl hj)
  unfold zWF
  rw [e0 0 (by omega) (by omega), pHit.c, e0 2 (by omega) (by omega), e0 5 (by omega) (by omega), e0 6 (by omega) (by omega), e0 7 (by omega) (by omega), e0 8 (by omega) (by omega), e0 9 (by omega) (by omega), e0 10 (by omega) (by omega), e0 11 (by omega) (by omega), e0 12 (by omega) (by omega), e0 13 (by omega) (by omega)]
  refine ⟨⟨a1, a2, by omega, by omega, a5, a6⟩, fun i hi => ?_, fun i hi => ?_, d, e⟩
  · rw [e0 _ (by omega) (by omega), e0 _ (by omega) (by omega)]
    exact b i hi
  · by_cases w : (i : Int) < F 1
    · rw [pHit.o (by omega) (by omega), pHit.o (by omega) (by omega), pHit.o (by omega) (by omega)]
      exact c i w
    · have en : (F 1).toNat = i := by omega
      have z0 : pHit F l y t p (30 + 4 * i) = l := by
        unfold pHit
        rw [en, uS.o (by omega), uS.o (by omega), uS.o (by omega), uS.o (by omega), uS.s]
      have z1 : pHit F l y t p (31 + 4 * i) = y := by
        unfold pHit
        rw [en, uS.o (by omega), uS.o (by omega), uS.o (by omega), uS.s]
      have z2 : pHit F l y t p (32 + 4 * i) = t := by
        unfold pHit
        rw [en, uS.o (by omega), uS.o (by omega), uS.s]
      rw [z0, z1, z2]
      exact ⟨h1, h2, h3, h4, h5, h6⟩
theorem zWF.par {F : Nat → Int} {x1 x2 x3 : Int} (q : zWF F) (h : F 2 < 12) : zWF (uS (pPar F x1 x2 x3) 2 (F 2 + 1)) := by
  obtain ⟨⟨a1, a2, a3, a4, a5, a6⟩, b, c, d, e⟩ := q
  have e0 : ∀ j : Nat, j < 270 → j ≠ 2 → uS (pPar F x1 x2 x3) 2 (F 2 + 1) j = F j := fun j hj hj2 => by
    unfold pPar
    rw [uS.o hj2, uS.o (by omega), uS.o (by omega), uS.o (by omega)]
  unfold zWF
  rw [e0 0 (by omega) (by omega), e0 1 (by omega) (by omega), uS.s, e0 5 (by omega) (by omega), e0 6 (by omega) (by omega), e0 7 (by omega) (by omega), e0 8 (by omega) (by omega), e0 9 (by omega) (by omega), e0 10 (by omega) (by omega), e0 11 (by omega) (by omega), e0 12 (by omega) (by omega), e0 13 (by omega) (by omega)]
  refine ⟨⟨a1, a2, a3, a4, by omega, by omega⟩, fun i hi => ?_, fun i hi => ?_, d, e⟩
  · rw [e0 _ (by omega) (by omega), e0 _ (by omega) (by omega)]
    exact b i hi
  · rw [e0 _ (by omega) (by omega), e0 _ (by omega) (by omega), e0 _ (by omega) (by omega)]
    exact c i hi
/-- a particle's hits so far -/
def zPj (F : Nat → Int) (z t k : Int) (l : Nat) (G : Nat → Int) : Prop := pPt F z t k l = some G ∧ zWF (uS G 2 (F 2 + 1)) ∧ ∀ j, j = 0 ∨ (14 ≤ j ∧ j < 30) → G j = F j
theorem zPj.zero {F : Nat → Int} {z t k : Int} (q : zWF F) (h : F 2 < 12) : zPj F z t k 0 (pPar F z t k) := ⟨rfl, q.par h, fun j hj => by
  have h2 := q.1
  unfold pPar
  rw [uS.o (by omega), uS.o (by omega), uS.o (by omega)]⟩
theorem zPj.skip {F G : Nat → Int} {z t k : Int} {l : Nat} (h : zPj F z t k l G) (q : z + pLf F l t k < -9999 ∨ 9999 < z + pLf F l t k) : zPj F z t k (l + 1) G := ⟨pPt.s h.1 q, h.2⟩
theorem zPj.hit {F G : Nat → Int} {z t k y x : Int} {l : Nat} (h : zPj F z t k l G) (wf : zWF F) (hl : (l : Int) < F 0) (hy : y = z + pLf F l t k) (h1 : -9999 ≤ y) (h2 : y ≤ 9999) (h3 : G 1 < 60) (hx : x = F (14 + 2 * l) / 10) : zPj F z t k (l + 1) (pHit G (l : Int) y x (F 2)) := by
  obtain ⟨p1, p2, p3⟩ := h
  have hf := wf.2.1 l hl
  have e0 : uS G 2 (F 2 + 1) 0 = F 0 := (uS.o (by decide)).trans (p3 0 (Or.inl rfl))
  have e1 : uS G 2 (F 2 + 1) 1 = G 1 := uS.o (by decide)
  refine ⟨pPt.y p1 hy h1 h2 (by omega) hx, ?_, fun j hj => ?_⟩
  · rw [show uS (pHit G (l : Int) y x (F 2)) 2 (F 2 + 1) = pHit (uS G 2 (F 2 + 1)) (l : Int) y x (F 2) from funext pHit.u2]
    exact p2.hit (by omega) (by omega) h1 h2 (by omega) (by omega) (by omega)
  · rw [pHit.o (by omega) (Or.inl (by omega))]
    exact p3 j hj
theorem zPj.full {F G : Nat → Int} {z t k : Int} {l n : Nat} (h : zPj F z t k l G) (h1 : -9999 ≤ z + pLf F l t k) (h2 : z + pLf F l t k ≤ 9999) (h3 : 60 ≤ G 1) (hn : l < n) : pPt F z t k n = none := by
  have e1 : uS G 2 (F 2 + 1) 1 = G 1 := uS.o (by decide)
  have q := h.2.1.1
  have z1 := pPt.f h.1 h1 h2 (by omega)
  have z2 := pPt.up z1 (n - (l + 1))
  rw [show l + 1 + (n - (l + 1)) = n by omega] at z2
  exact z2
theorem zSo.u2 {M : zM} {s : Nat} {G : Nat → Int} {l y t p c : Int} (h : zSo M s (pHit (uS G 2 c) l y t p)) : zSo M s (uS (pHit G l y t p) 2 c) := h.eqv pHit.u2
theorem pLf.b {F : Nat → Int} {l : Nat} {t k : Int} (h0 : 0 ≤ F (14 + 2 * l)) (h9 : F (14 + 2 * l) ≤ 999) (h1 : -99 ≤ t) (h2 : t ≤ 99) (h3 : -99 ≤ k) (h4 : k ≤ 99) : (-98901 ≤ t * F (14 + 2 * l) / 100 ∧ t * F (14 + 2 * l) / 100 ≤ 98901) ∧ -98802099 ≤ k * F (14 + 2 * l) * F (14 + 2 * l) / 10000 ∧ k * F (14 + 2 * l) * F (14 + 2 * l) / 10000 ≤ 98802099 := by
  have b1 := zml3 (A := 99) (B := 999) h3 h4 h0 h9 (by omega)
  have b2 := zml3 (a := k * F (14 + 2 * l)) (A := 98901) (B := 999) (by omega) (by omega) h0 h9 (by omega)
  have b3 := zml3 (A := 99) (B := 999) h1 h2 h0 h9 (by omega)
  exact ⟨zdiv_b (A := 98901) (b := 100) (by omega) b3.1 b3.2 (by omega), zdiv_b (A := 98802099) (b := 10000) (by omega) b2.1 b2.2 (by omega)⟩
theorem zWF.lay {F : Nat → Int} {x : Int} (q : zWF F) (h : F 0 < 8) (h1 : 0 ≤ x) (h2 : x ≤ 999) : zWF (pLay F x) := by
  obtain ⟨⟨a1, a2, a3, a4, a5, a6⟩, b, c, d, e⟩ := q
  have e0 : ∀ j : Nat, j ≠ 0 → (j < 14 ∨ 30 ≤ j) → pLay F x j = F j := fun j k1 k2 => by
    unfold pLay
    rw [uS.o k1, uS.o (by omega), uS.o (by omega)]
  have e00 : pLay F x 0 = F 0 + 1 := uS.s
  unfold zWF
  rw [e00, e0 1 (by omega) (by omega), e0 2 (by omega) (by omega), e0 5 (by omega) (by omega), e0 6 (by omega) (by omega), e0 7 (by omega) (by omega), e0 8 (by omega) (by omega), e0 9 (by omega) (by omega), e0 10 (by omega) (by omega), e0 11 (by omega) (by omega), e0 12 (by omega) (by omega), e0 13 (by omega) (by omega)]
  refine ⟨⟨by omega, by omega, a3, a4, a5, a6⟩, fun i hi => ?_, fun i hi => ?_, d, e⟩
  · by_cases w : (i : Int) < F 0
    · have z := b i w
      have z1 : pLay F x (14 + 2 * i) = F (14 + 2 * i) := by
        unfold pLay
        rw [uS.o (by omega), uS.o (by omega), uS.o (by omega)]
      have z2 : pLay F x (15 + 2 * i) = F (15 + 2 * i) := by
        unfold pLay
        rw [uS.o (by omega), uS.o (by omega), uS.o (by omega)]
      rw [z1, z2]
      exact z
    · have en : (F 0).toNat = i := by omega
      have z1 : pLay F x (14 + 2 * i) = x := by
        unfold pLay
        rw [en, uS.o (by omega), uS.o (by omega), uS.s]
      have z2 : pLay F x (15 + 2 * i) = 1 := by
        unfold pLay
        rw [en, uS.o (by omega), uS.s]
      rw [z1, z2]
      exact ⟨h1, h2, Or.inr rfl⟩
  · rw [e0 _ (by omega) (by omega), e0 _ (by omega) (by omega), e0 _ (by omega) (by omega)]
    have z := c i hi
    omega
theorem zWF.of {F G : Nat → Int} (q : zWF F) (e : ∀ j, j < 5 ∨ 14 ≤ j → G j = F j) (d : 0 ≤ G 5 ∧ G 5 ≤ 3 ∧ 0 ≤ G 6 ∧ G 6 ≤ 20 ∧ 1 ≤ G 7 ∧ G 7 ≤ 500 ∧ 2 ≤ G 8 ∧ G 8 ≤ 8) (f : 0 ≤ G 9 ∧ G 9 ≤ 999 ∧ 0 ≤ G 10 ∧ G 10 ≤ G 11 ∧ G 11 ≤ 999 ∧ 1 ≤ G 12 ∧ G 12 ≤ 9999 ∧ 0 ≤ G 13 ∧ G 13 ≤ 9999) : zWF G := by
  obtain ⟨a, b, c, _, _⟩ := q
  unfold zWF
  rw [e 0 (by omega), e 1 (by omega), e 2 (by omega)]
  refine ⟨a, fun i hi => ?_, fun i hi => ?_, d, f⟩
  · rw [e _ (by omega), e _ (by omega)]
    exact b i hi
  · rw [e _ (by omega), e _ (by omega), e _ (by omega)]
    exact c i hi
theorem zWF.ss {F : Nat → Int} {a b c d : Int} (q : zWF F) (h : 0 ≤ a ∧ a ≤ 3 ∧ 0 ≤ b ∧ b ≤ 20 ∧ 1 ≤ c ∧ c ≤ 500 ∧ 2 ≤ d ∧ d ≤ 8) : zWF (uS (uS (uS (uS F 5 a) 6 b) 7 c) 8 d) := by
  have z := q.2.2.2.2
  refine q.of (fun j hj => by rw [uS.o (by omega), uS.o (by omega), uS.o (by omega), uS.o (by omega)]) ?_ ?_
  · rw [uS.o (show 5 ≠ 8 by decide), uS.o (show 5 ≠ 7 by decide), uS.o (show 5 ≠ 6 by decide), uS.s, uS.o (show 6 ≠ 8 by decide), uS.o (show 6 ≠ 7 by decide), uS.s, uS.o (show 7 ≠ 8 by decide), uS.s, uS.s]
    exact h
  · have e : ∀ j, 9 ≤ j → uS (uS (uS (uS F 5 a) 6 b) 7 c) 8 d j = F j := fun j hj => by rw [uS.o (by omega), uS.o (by omega), uS.o (by omega), uS.o (by omega)]
    rw [e 9 (by omega), e 10 (by omega), e 11 (by omega), e 12 (by omega), e 13 (by omega)]
    exact z
theorem zWF.gg {F : Nat → Int} {a : Int} (q : zWF F) (h : 0 ≤ a ∧ a ≤ 999) : zWF (uS F 9 a) := by
  have y := q.2.2.2.1
  have z := q.2.2.2.2
  have e : ∀ j, j ≠ 9 → uS F 9 a j = F j := fun j hj => uS.o hj
  refine q.of (fun j hj => e j (by omega)) ?_ ?_
  · rw [e 5 (by omega), e 6 (by omega), e 7 (by omega), e 8 (by omega)]
    exact y
  · rw [uS.s, e 10 (by omega), e 11 (by omega), e 12 (by omega), e 13 (by omega)]
    exact ⟨h.1, h.2, z.2.2⟩
theorem zWF.ww {F : Nat → Int} {a b : Int} (q : zWF F) (h : 0 ≤ a ∧ a ≤ b ∧ b ≤ 999) : zWF (uS (uS F 10 a) 11 b) := by
  have y := q.2.2.2.1
  have z := q.2.2.2.2
  have e : ∀ j, j ≠ 10 → j ≠ 11 → uS (uS F 10 a) 11 b j = F j := fun j h1 h2 => by rw [uS.o h2, uS.o h1]
  refine q.of (fun j hj => e j (by omega) (by omega)) ?_ ?_
  · rw [e 5 (by omega) (by omega), e 6 (by omega) (by omega), e 7 (by omega) (by omega), e 8 (by omega) (by omega)]
    exact y
  · rw [e 9 (by omega) (by omega), uS.o (show 10 ≠ 11 by decide), uS.s, uS.s, e 12 (by omega) (by omega), e 13 (by omega) (by omega)]
    exact ⟨z.1, z.2.1, h.1, h.2.1, h.2.2, z.2.2.2.2.2⟩
theorem zWF.qq {F : Nat → Int} {a b : Int} (q : zWF F) (h : 1 ≤ a ∧ a ≤ 9999 ∧ 0 ≤ b ∧ b ≤ 9999) : zWF (uS (uS F 12 a) 13 b) := by
  have y := q.2.2.2.1
  have z := q.2.2.2.2
  have e : ∀ j, j ≠ 12 → j ≠ 13 → uS (uS F 12 a) 13 b j = F j := fun j h1 h2 => by rw [uS.o h2, uS.o h1]
  refine q.of (fun j hj => e j (by omega) (by omega)) ?_ ?_
  · rw [e 5 (by omega) (by omega), e 6 (by omega) (by omega), e 7 (by omega) (by omega), e 8 (by omega) (by omega)]
    exact y
  · rw [e 9 (by omega) (by omega), e 10 (by omega) (by omega), e 11 (by omega) (by omega), uS.o (show 12 ≠ 13 by decide), uS.s, uS.s]
    exact ⟨z.1, z.2.1, z.2.2.1, z.2.2.2.1, z.2.2.2.2.1, h⟩
