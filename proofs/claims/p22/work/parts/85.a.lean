/-! ===== tracks: what they are ===== -/
/-- a hit's cell under a bend and a slope -/
def cel (F : Nat → Int) (k t : Int) (h : Nat) : Int := (F (31 + 4 * h) - pLf F (F (30 + 4 * h)).toNat t k) / F 7
def vh (F : Nat → Int) (L : Nat → Bool) (k t b : Int) (h : Nat) : Bool := L h && decide (cel F k t h = b)
/-- votes of a cell by the hits of L -/
def vot (F : Nat → Int) (L : Nat → Bool) (k t b : Int) : Int := zVo F (vh F L k t b) (F 1).toNat
theorem zlr.mono {F : Nat → Int} {P Q : Nat → Bool} {l : Nat} : ∀ n : Nat, (∀ i, i < n → P i = true → Q i = true) → zlr F P n l = true → zlr F Q n l = true
  | 0, _, h => by cases h
  | n + 1, e, h => by
    have h : (zlr F P n l || (P n && decide (F (30 + 4 * n) = (l : Int)))) = true := h
    show (zlr F Q n l || (Q n && decide (F (30 + 4 * n) = (l : Int)))) = true
    rw [Bool.or_eq_true] at h ⊢
    rcases h with h | h
    · exact Or.inl (zlr.mono n (fun i hi => e i (by omega)) h)
    · rw [Bool.and_eq_true] at h ⊢
      exact Or.inr ⟨e n (by omega) h.1, h.2⟩
theorem zlr.ex {F : Nat → Int} {P : Nat → Bool} {l : Nat} : ∀ n : Nat, zlr F P n l = true → ∃ h, h < n ∧ P h = true ∧ F (30 + 4 * h) = (l : Int)
  | 0, h => by cases h
  | n + 1, h => by
    have h : (zlr F P n l || (P n && decide (F (30 + 4 * n) = (l : Int)))) = true := h
    rw [Bool.or_eq_true, Bool.and_eq_true, decide_eq_true_eq] at h
    rcases h with h | h
    · obtain ⟨i, h1, h2⟩ := zlr.ex n h
      exact ⟨i, by omega, h2⟩
    · exact ⟨n, by omega, h⟩
theorem zlr.of {F : Nat → Int} {P : Nat → Bool} {l i : Nat} : ∀ n : Nat, i < n → P i = true → F (30 + 4 * i) = (l : Int) → zlr F P n l = true
  | 0, h, _, _ => absurd h (by omega)
  | n + 1, h, h1, h2 => by
    show (zlr F P n l || (P n && decide (F (30 + 4 * n) = (l : Int)))) = true
    by_cases w : i = n
    · subst w
      rw [h1, decide_eq_true h2, Bool.and_true, Bool.or_true]
    · rw [zlr.of n (by omega) h1 h2, Bool.true_or]
theorem vot.mono {F : Nat → Int} {L L' : Nat → Bool} {k t b : Int} (e : ∀ h, L' h = true → L h = true) : vot F L' k t b ≤ vot F L k t b := by
  refine pct.le 8 (fun l _ q => zlr.mono _ (fun i _ hi => ?_) q)
  have hi : (L' i && decide (cel F k t i = b)) = true := hi
  show (L i && decide (cel F k t i = b)) = true
  rw [Bool.and_eq_true] at hi ⊢
  exact ⟨e i hi.1, hi.2⟩
theorem pct.pos {P : Nat → Bool} : ∀ n : Nat, 1 ≤ pct P n → ∃ i, i < n ∧ P i = true
  | 0, h => absurd h (by show ¬ (1 : Int) ≤ 0; decide)
  | n + 1, h => by
    cases hp : P n with
    | true => exact ⟨n, by omega, hp⟩
    | false =>
      rw [pct.n hp] at h
      obtain ⟨i, h1, h2⟩ := pct.pos n h
      exact ⟨i, by omega, h2⟩
theorem pct.ge {P : Nat → Bool} {i : Nat} : ∀ n : Nat, i < n → P i = true → 1 ≤ pct P n
  | 0, h, _ => absurd h (by omega)
  | n + 1, h, q => by
    by_cases w : i = n
    · subst w
      rw [pct.y q]
      have z := pct.nn (P := P) i
      omega
    · have z := pct.ge n (by omega) q
      show 1 ≤ pct P n + (if P n = true then 1 else 0)
      split <;> omega
/-- a cell that has a vote has a hit of it -/
theorem vot.ex {F : Nat → Int} {L : Nat → Bool} {k t b : Int} (h : 1 ≤ vot F L k t b) : ∃ i, i < (F 1).toNat ∧ L i = true ∧ cel F k t i = b := by
  obtain ⟨l, _, hl⟩ := pct.pos 8 h
  obtain ⟨i, h1, h2, _⟩ := zlr.ex _ hl
  have h2 : (L i && decide (cel F k t i = b)) = true := h2
  rw [Bool.and_eq_true, decide_eq_true_eq] at h2
  exact ⟨i, h1, h2⟩
/-- one cell goes ahead of another -/
def zah (v k t b v2 k2 t2 b2 : Int) : Prop := v2 < v ∨ (v = v2 ∧ (k.natAbs < k2.natAbs ∨ (k.natAbs = k2.natAbs ∧ (t.natAbs < t2.natAbs ∨ (t.natAbs = t2.natAbs ∧ (k < k2 ∨ (k = k2 ∧ (t < t2 ∨ (t = t2 ∧ b < b2)))))))))
theorem zah.tri {v k t b v2 k2 t2 b2 : Int} (h : ¬ zah v k t b v2 k2 t2 b2) (h' : ¬ zah v2 k2 t2 b2 v k t b) : v = v2 ∧ k = k2 ∧ t = t2 ∧ b = b2 := by
  unfold zah at h h'
  omega
theorem zah.trans {v k t b v2 k2 t2 b2 v3 k3 t3 b3 : Int} (h : zah v k t b v2 k2 t2 b2) (h' : zah v2 k2 t2 b2 v3 k3 t3 b3) : zah v k t b v3 k3 t3 b3 := by
  unfold zah at h h' ⊢
  omega
theorem zah.irr {v k t b : Int} : ¬ zah v k t b v k t b := by
  unfold zah
  omega
abbrev zCl : Type := Int × Int × Int
def zIr (F : Nat → Int) (k t : Int) : Prop := -F 5 ≤ k ∧ k ≤ F 5 ∧ -F 6 ≤ t ∧ t ≤ F 6
/-- the cell with most votes -/
def zBe (F : Nat → Int) (L : Nat → Bool) (c : zCl) (v : Int) : Prop := zIr F c.1 c.2.1 ∧ v = vot F L c.1 c.2.1 c.2.2 ∧ 1 ≤ v ∧ ∀ k t b, zIr F k t → 1 ≤ vot F L k t b → ¬ zah (vot F L k t b) k t b v c.1 c.2.1 c.2.2
theorem zBe.uni {F : Nat → Int} {L : Nat → Bool} {c c' : zCl} {v v' : Int} (h : zBe F L c v) (h' : zBe F L c' v') : c = c' ∧ v = v' := by
  obtain ⟨k, t, b⟩ := c
  obtain ⟨k', t', b'⟩ := c'
  obtain ⟨h1, h2, h3, h4⟩ := h
  obtain ⟨g1, g2, g3, g4⟩ := h'
  have h2 : v = vot F L k t b := h2
  have g2 : v' = vot F L k' t' b' := g2
  have a := h4 k' t' b' g1 (by rw [← g2]; exact g3)
  have c := g4 k t b h1 (by rw [← h2]; exact h3)
  rw [← g2] at a
  rw [← h2] at c
  have z := zah.tri a c
  obtain ⟨z1, z2, z3, z4⟩ := z
  refine ⟨?_, z1.symm⟩
  have z2 : k' = k := z2
  have z3 : t' = t := z3
  have z4 : b' = b := z4
  rw [z2, z3, z4]
theorem zBe.le {F : Nat → Int} {L L' : Nat → Bool} {c c' : zCl} {v v' : Int} (h : zBe F L c v) (h' : zBe F L' c' v') (e : ∀ h, L' h = true → L h = true) : v' ≤ v := by
  obtain ⟨h1, h2, h3, h4⟩ := h
  obtain ⟨g1, g2, g3, _⟩ := h'
  have m := vot.mono (F := F) (k := c'.1) (t := c'.2.1) (b := c'.2.2) e
  have a := h4 c'.1 c'.2.1 c'.2.2 g1 (by omega)
  unfold zah at a
  omega
/-- the hit of a layer that is a track's -/
def aw (F : Nat → Int) (k t b : Int) (l h : Nat) : Int := ((F (31 + 4 * h) - pLf F l t k - (b * F 7 + F 7 / 2)).natAbs : Int)
def zcd (F : Nat → Int) (L : Nat → Bool) (k t b : Int) (l h : Nat) : Bool := vh F L k t b h && decide (F (30 + 4 * h) = (l : Int))
def zNr (F : Nat → Int) (L : Nat → Bool) (c : zCl) (l : Nat) (x : Int) : Prop := (x = -2 ∧ ∀ h : Nat, (h : Int) < F 1 → zcd F L c.1 c.2.1 c.2.2 l h = false) ∨ ∃ h : Nat, (h : Int) < F 1 ∧ x = (h : Int) ∧ zcd F L c.1 c.2.1 c.2.2 l h = true ∧ ∀ j : Nat, (j : Int) < F 1 → zcd F L c.1 c.2.1 c.2.2 l j = true → aw F c.1 c.2.1 c.2.2 l h < aw F c.1 c.2.1 c.2.2 l j ∨ (aw F c.1 c.2.1 c.2.2 l h = aw F c.1 c.2.1 c.2.2 l j ∧ h ≤ j)
theorem zNr.uni {F : Nat → Int} {L : Nat → Bool} {c : zCl} {l : Nat} {x y : Int} (h : zNr F L c l x) (h' : zNr F L c l y) : x = y := by
  rcases h with ⟨h1, h2⟩ | ⟨i, h1, h2, h3, h4⟩ <;> rcases h' with ⟨g1, g2⟩ | ⟨j, g1, g2, g3, g4⟩
  · omega
  · exact absurd (h2 j g1) (by rw [g3]; decide)
  · exact absurd (g2 i h1) (by rw [h3]; decide)
  · have a := h4 j g1 g3
    have b := g4 i h1 h3
    omega
/-- what is left when a track's hits count no more -/
def zrmv (F : Nat → Int) (L : Nat → Bool) (hs : Nat → Int) (h : Nat) : Bool := L h && decide (hs (F (30 + 4 * h)).toNat ≠ (h : Int))
theorem zrmv.le {F : Nat → Int} {L : Nat → Bool} {hs : Nat → Int} {h : Nat} (q : zrmv F L hs h = true) : L h = true := by
  unfold zrmv at q
  rw [Bool.and_eq_true] at q
  exact q.1
abbrev zTkk : Type := zCl × Int × (Nat → Int)
def zTq (F : Nat → Int) (L : Nat → Bool) (τ : zTkk) : Prop := zBe F L τ.1 τ.2.1 ∧ ∀ l : Nat, (l < 8 → zNr F L τ.1 l (τ.2.2 l)) ∧ (8 ≤ l → τ.2.2 l = -2)
theorem zTq.uni {F : Nat → Int} {L : Nat → Bool} {τ τ' : zTkk} (h : zTq F L τ) (h' : zTq F L τ') : τ = τ' := by
  obtain ⟨c, v, hs⟩ := τ
  obtain ⟨c', v', hs'⟩ := τ'
  have a := h.1.uni h'.1
  have a1 : c = c' := a.1
  have a2 : v = v' := a.2
  subst a1
  subst a2
  have e : hs = hs' := funext fun l => by
    by_cases w : l < 8
    · exact ((h.2 l).1 w).uni ((h'.2 l).1 w)
    · have z1 : hs l = -2 := (h.2 l).2 (by omega)
      have z2 : hs' l = -2 := (h'.2 l).2 (by omega)
      rw [z1, z2]
  rw [e]
/-- tracks one behind the other -/
def zSq (F : Nat → Int) (L0 : Nat → Bool) (n : Nat) (τ : Nat → zTkk) (L : Nat → Nat → Bool) : Prop := L 0 = L0 ∧ ∀ i, i < n → zTq F (L i) (τ i) ∧ L (i + 1) = zrmv F (L i) (τ i).2.2
theorem zSq.uni {F : Nat → Int} {L0 : Nat → Bool} {n m : Nat} {τ τ' : Nat → zTkk} {L L' : Nat → Nat → Bool} (h : zSq F L0 n τ L) (h' : zSq F L0 m τ' L') : ∀ i, i ≤ n → i ≤ m → L i = L' i
  | 0, _, _ => h.1.trans h'.1.symm
  | i + 1, h1, h2 => by
    have e := zSq.uni h h' i (by omega) (by omega)
    have a := h.2 i (by omega)
    have b := h'.2 i (by omega)
    rw [a.2, b.2, e]
    rw [e] at a
    rw [a.1.uni b.1]
theorem zSq.eq {F : Nat → Int} {L0 : Nat → Bool} {n m : Nat} {τ τ' : Nat → zTkk} {L L' : Nat → Nat → Bool} (h : zSq F L0 n τ L) (h' : zSq F L0 m τ' L') {i : Nat} (h1 : i < n) (h2 : i < m) : τ i = τ' i := by
  have a := (h.2 i h1).1
  rw [h.uni h' i (by omega) (by omega)] at a
  exact a.uni (h'.2 i h2).1
/-- votes fall -/
theorem zSq.fall {F : Nat → Int} {L0 : Nat → Bool} {n : Nat} {τ : Nat → zTkk} {L : Nat → Nat → Bool} (h : zSq F L0 n τ L) : ∀ d i, i + d < n → (τ (i + d)).2.1 ≤ (τ i).2.1
  | 0, i, _ => Int.le_refl _
  | d + 1, i, q => by
    have z := zSq.fall h d i (by omega)
    have a := h.2 (i + d) (by omega)
    have b := (h.2 (i + d + 1) (by omega)).1
    rw [a.2] at b
    have w := a.1.1.le b.1 (fun x hx => zrmv.le hx)
    show (τ (i + d + 1)).2.1 ≤ _
    omega
/-- no cell has so many votes any more, or there are twenty -/
def zEn (F : Nat → Int) (need : Int) (n : Nat) (L : Nat → Nat → Bool) : Prop := n = 20 ∨ ∀ k t b, zIr F k t → vot F (L n) k t b < need
/-- by a greater need there are the first of these -/
theorem zSq.need {F : Nat → Int} {L0 : Nat → Bool} {n m : Nat} {τ τ' : Nat → zTkk} {L L' : Nat → Nat → Bool} {a b : Int} (h : zSq F L0 n τ L) (h' : zSq F L0 m τ' L') (ha : zEn F a n L) (hb : zEn F b m L') (hab : a ≤ b) (hn : n ≤ 20) (hm : m ≤ 20) (hv : ∀ i, i < m → b ≤ (τ' i).2.1) : m ≤ n ∧ (∀ i, i < m → τ i = τ' i ∧ b ≤ (τ i).2.1) ∧ ∀ i, m ≤ i → i < n → (τ i).2.1 < b := by
  have hmn : m ≤ n := by
    refine Nat.le_of_not_lt fun q => ?_
    rcases ha with e | e
    · omega
    · have z := (h'.2 n q).1.1
      have w := e (τ' n).1.1 (τ' n).1.2.1 (τ' n).1.2.2 z.1
      rw [h.uni h' n (Nat.le_refl _) (by omega), ← z.2.1] at w
      have y := hv n q
      omega
  refine ⟨hmn, fun i hi => ?_, fun i h1 h2 => ?_⟩
  · have e := h.eq h' (i := i) (by omega) hi
    rw [e]
    exact ⟨rfl, hv i hi⟩
  · rcases hb with e | e
    · omega
    · have z := (h.2 m (by omega)).1.1
      have w := e (τ m).1.1 (τ m).1.2.1 (τ m).1.2.2 z.1
      rw [← h.uni h' m (by omega) (Nat.le_refl _), ← z.2.1] at w
      have y := h.fall (i - m) m (by omega)
      rw [show m + (i - m) = i by omega] at y
      omega
