/-! ===== the class's picture ===== -/
def zPic (M : zM) (F : Nat → Int) : Prop := ∃ (n mm : Nat) (τ : Nat → zTkk) (Λ : Nat → Nat → Bool), ((zI M 165 2).toInt = (n : Int) ∧ n ≤ 20 ∧ mm ≤ n) ∧ zSq F (zL0 F (-1)) n τ Λ ∧ (∀ i, i < n → 2 ≤ (τ i).2.1) ∧ zEn F 2 n Λ ∧ (∀ i, i < n → zTrk M (181 + 3 * i) (τ i)) ∧ ((zI M 164 3).toInt = F 8 ∧ (zI M 164 4).toInt = (mm : Int) ∧ (zI M 164 5).toInt = F 2) ∧ ((∀ i, i < mm → F 8 ≤ (τ i).2.1) ∧ ∀ i, mm ≤ i → i < n → (τ i).2.1 < F 8) ∧ (∀ q : Nat, q < mm → zDr M F τ q) ∧ zOd M 320 (fun i => sT F (τ i)) mm ∧ zVxm M (zJn (fun i => sT F (τ i)) (zOrd (fun i => sT F (τ i)) mm) (F 9) mm) (zOrd (fun i => sT F (τ i)) mm) mm
theorem zPic.fr {M N : zM} {F : Nat → Int} (h : zPic M F) (e4 : ∀ j : Nat, j ≠ 0 → zI N 164 j = zI M 164 j) (e5 : zI N 165 2 = zI M 165 2) (et : ∀ k j : Nat, 181 ≤ k → k ≤ 240 → zI N k j = zI M k j) (ev : ∀ k j : Nat, 320 ≤ k → k ≤ 322 → zI N k j = zI M k j) (eJ : ∀ k j : Nat, 181 ≤ k → k ≤ 240 → zJ N k j = zJ M k j) : zPic N F := by
  obtain ⟨n, mm, τ, Λ, ⟨h1, h2, h3⟩, h4, h5, h6, h7, ⟨h8, h9, h10⟩, h11, h12, h13, ⟨h14, h15, h16⟩⟩ := h
  refine ⟨n, mm, τ, Λ, ⟨by rw [e5]; exact h1, h2, h3⟩, h4, h5, h6, fun i hi => (h7 i hi).fr (fun k j q1 q2 => et k j (by omega) (by omega)), ⟨by rw [e4 3 (by decide)]; exact h8, by rw [e4 4 (by decide)]; exact h9, by rw [e4 5 (by decide)]; exact h10⟩, h11, fun q hq => (h12 q hq).fr (fun j => eJ _ j (by omega) (by omega)) (et _ 5 (by omega) (by omega)), fun q hq => ?_, ⟨by rw [e4 9 (by decide)]; exact h14, fun v hv => ?_, fun q hq => ?_⟩⟩
  · rw [ev 320 q (by omega) (by omega)]
    exact h13 q hq
  · rw [ev 321 v (by omega) (by omega), ev 322 v (by omega) (by omega)]
    exact h15 v hv
  · have z := zOrd.lt (st := fun i => sT F (τ i)) mm q hq
    rw [et _ 4 (by omega) (by omega)]
    exact h16 q hq
/-! ===== the tracks alone, of both pictures ===== -/
def zPicA (M : zM) (F : Nat → Int) : Prop := ∃ (n mm : Nat) (τ : Nat → zTkk) (Λ : Nat → Nat → Bool), ((zI M 165 2).toInt = (n : Int) ∧ n ≤ 20 ∧ mm ≤ n) ∧ zSq F (zL0 F (-1)) n τ Λ ∧ (∀ i, i < n → 2 ≤ (τ i).2.1) ∧ zEn F 2 n Λ ∧ (∀ i, i < n → zTrk M (181 + 3 * i) (τ i)) ∧ ((zI M 164 3).toInt = F 8 ∧ (zI M 164 4).toInt = (mm : Int) ∧ (zI M 164 5).toInt = F 2) ∧ (∀ i, i < mm → F 8 ≤ (τ i).2.1) ∧ ∀ i, mm ≤ i → i < n → (τ i).2.1 < F 8
theorem zPicA.fr {M N : zM} {F : Nat → Int} (h : zPicA M F) (e4 : ∀ j : Nat, j ≠ 0 → zI N 164 j = zI M 164 j) (e5 : zI N 165 2 = zI M 165 2) (et : zTf M N) : zPicA N F := by
  obtain ⟨n, mm, τ, Λ, ⟨h1, h2, h3⟩, h4, h5, h6, h7, ⟨h8, h9, h10⟩, h11⟩ := h
  exact ⟨n, mm, τ, Λ, ⟨by rw [e5]; exact h1, h2, h3⟩, h4, h5, h6, fun i hi => (h7 i hi).tf et (by omega), ⟨by rw [e4 3 (by decide)]; exact h8, by rw [e4 4 (by decide)]; exact h9, by rw [e4 5 (by decide)]; exact h10⟩, h11⟩
def zKnA (M : zM) (F : Nat → Int) : Prop := (zI M 164 0).toInt ≠ 0 → zPicA M F
def zPicB (M : zM) (F : Nat → Int) : Prop := ∃ (n : Nat) (τ : Nat → zTkk) (Λ : Nat → Nat → Bool), ((zI M 336 22).toInt = (n : Int) ∧ n ≤ 20) ∧ zSq F (zL0 F (-1)) n τ Λ ∧ (∀ i, i < n → F 8 ≤ (τ i).2.1) ∧ zEn F (F 8) n Λ ∧ zTms M F n τ
theorem zPicB.fr {M N : zM} {F : Nat → Int} (h : zPicB M F) (e2 : zI N 336 22 = zI M 336 22) (et : zEq [(345, 350, none)] M N) : zPicB N F := by
  obtain ⟨n, τ, Λ, ⟨h1, h2⟩, h3, h4, h5, h6⟩ := h
  exact ⟨n, τ, Λ, ⟨by rw [e2]; exact h1, h2⟩, h3, h4, h5, h6.fr et⟩
def zKnB (M : zM) (F : Nat → Int) : Prop := (zI M 336 3).toInt ≠ 0 → zPicB M F
