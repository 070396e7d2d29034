/-! ===== the tracks of a row, once and for all ===== -/
def zTkr (F : Nat → Int) (m : Nat) (τ : Nat → zTkk) : Prop := m ≤ 20 ∧ ∃ Λ, zSq F (zL0 F (-1)) m τ Λ ∧ (∀ i, i < m → F 8 ≤ (τ i).2.1) ∧ zEn F (F 8) m Λ
theorem zTkr.uni {F : Nat → Int} {m m' : Nat} {τ τ' : Nat → zTkk} (h : zTkr F m τ) (h' : zTkr F m' τ') : m = m' ∧ ∀ i, i < m → τ i = τ' i := by
  obtain ⟨h1, Λ, h2, h3, h4⟩ := h
  obtain ⟨g1, Λ', g2, g3, g4⟩ := h'
  have a := h2.need g2 h4 g4 (Int.le_refl _) h1 g1 g3
  have b := g2.need h2 g4 h4 (Int.le_refl _) g1 h1 h3
  have e : m = m' := Nat.le_antisymm b.1 a.1
  subst e
  exact ⟨rfl, fun i hi => (a.2.1 i hi).1⟩
theorem zPicA.tk {M : zM} {F : Nat → Int} (w : zWF F) (a : zPicA M F) : ∃ (m : Nat) (τ : Nat → zTkk), zTkr F m τ ∧ (zI M 164 4).toInt = (m : Int) ∧ m ≤ 20 ∧ (m : Int) ≤ (zI M 165 2).toInt ∧ ∀ i, i < m → zTrk M (181 + 3 * i) (τ i) := by
  obtain ⟨n, m, τ, Λ, ⟨a1, a2, a3⟩, a4, a5, a6, a7, ⟨a8, a9, a10⟩, a11, a12⟩ := a
  have f3 := w.2.2.2
  refine ⟨m, τ, ⟨by omega, Λ, ⟨a4.1, fun i hi => a4.2 i (by omega)⟩, a11, ?_⟩, a9, by omega, by omega, fun i hi => a7 i (by omega)⟩
  by_cases e : m = n
  · subst e
    rcases a6 with q | q
    · exact Or.inl q
    · refine Or.inr fun k t b r => ?_
      have z := q k t b r
      omega
  · refine Or.inr fun k t b r => ?_
    have z := a12 m (Nat.le_refl _) (by omega)
    have y := (a4.2 m (by omega)).1.1
    by_cases c : 1 ≤ vot F (Λ m) k t b
    · have x := y.2.2.2 k t b r c
      unfold zah at x
      omega
    · omega
theorem zPicB.tk {M : zM} {F : Nat → Int} (b : zPicB M F) : ∃ (m : Nat) (τ : Nat → zTkk), zTkr F m τ ∧ (zI M 336 22).toInt = (m : Int) ∧ m ≤ 20 ∧ zTms M F m τ := by
  obtain ⟨n, τ, Λ, ⟨b1, b2⟩, b3, b4, b5, b6⟩ := b
  exact ⟨n, τ, ⟨b2, Λ, b3, b4, b5⟩, b1, b2, b6⟩
/-! ===== answers about tracks, out of the row alone ===== -/
theorem zi32 {v : Int32} {x : Int} (h : v.toInt = x) : v = Int32.ofInt x := by
  rw [← h]
  exact (Int32.ofInt_toInt v).symm
def pOf (F : Nat → Int) (a b v : Int) : Prop := ∃ (m : Nat) (τ : Nat → zTkk), zTkr F m τ ∧ ((v = -1 ∧ (a < 0 ∨ (m : Int) ≤ a ∨ b < 0 ∨ F 0 ≤ b)) ∨ (0 ≤ a ∧ a < (m : Int) ∧ 0 ≤ b ∧ b < F 0 ∧ v = (τ a.toNat).2.2 b.toNat))
theorem pOf.det {F : Nat → Int} {a b v w : Int} (h : pOf F a b v) (h' : pOf F a b w) : v = w := by
  obtain ⟨m, τ, h1, h2⟩ := h
  obtain ⟨m', τ', g1, g2⟩ := h'
  obtain ⟨e, e2⟩ := h1.uni g1
  subst e
  rcases h2 with ⟨q1, q2⟩ | ⟨q1, q2, q3, q4, q5⟩ <;> rcases g2 with ⟨r1, r2⟩ | ⟨r1, r2, r3, r4, r5⟩
  · omega
  · omega
  · omega
  · rw [q5, r5, e2 a.toNat (by omega)]
def zWk (F : Nat → Int) (m : Nat) : Int32 := Int32.ofInt (pct (zctb F) (F 1).toNat) * Int32.ofInt (2 * F 5 + 1) * Int32.ofInt (2 * F 6 + 1) + 10 * Int32.ofInt (m : Int)
def pWk (F : Nat → Int) (v : Int) : Prop := ∃ (m : Nat) (τ : Nat → zTkk), zTkr F m τ ∧ v = (zWk F m).toInt
theorem pWk.det {F : Nat → Int} {v w : Int} (h : pWk F v) (h' : pWk F w) : v = w := by
  obtain ⟨m, τ, h1, h2⟩ := h
  obtain ⟨m', τ', g1, g2⟩ := h'
  obtain ⟨e, _⟩ := h1.uni g1
  subst e
  rw [h2, g2]
