/-! ===== the class's finder: shapes ===== -/
/-- one shape ahead of another -/
def zslh (k t k2 t2 : Int) : Prop := k.natAbs < k2.natAbs ∨ (k.natAbs = k2.natAbs ∧ (t.natAbs < t2.natAbs ∨ (t.natAbs = t2.natAbs ∧ (k < k2 ∨ (k = k2 ∧ t < t2)))))
def zSl (M : zM) (p u v : Nat) (F : Nat → Int) (n : Nat) : Prop := (zI M p 0).toInt = (n : Int) ∧ n ≤ 287 ∧ (∀ s, s < n → zIr F (zI M u s).toInt (zI M v s).toInt) ∧ (∀ s s', s < s' → s' < n → zslh (zI M u s).toInt (zI M v s).toInt (zI M u s').toInt (zI M v s').toInt) ∧ ∀ k t : Int, zIr F k t → ∃ s, s < n ∧ (zI M u s).toInt = k ∧ (zI M v s).toInt = t
/-- on how many layers there are voters -/
def rch (F : Nat → Int) (L : Nat → Bool) : Int := pct (zlr F L (F 1).toNat) 8
theorem vot.rch {F : Nat → Int} {L : Nat → Bool} {k t b : Int} : vot F L k t b ≤ rch F L := pct.le 8 (fun l _ q => zlr.mono _ (fun i _ hi => by
  have hi : (L i && decide (cel F k t i = b)) = true := hi
  rw [Bool.and_eq_true] at hi
  exact hi.1) q)
theorem rch.lp {F : Nat → Int} {L L' : Nat → Bool} (e : ∀ h : Nat, (h : Int) < F 1 → L' h = L h) : rch F L' = rch F L := pct.cg 8 fun l _ => by
  rw [Bool.eq_iff_iff]
  exact ⟨zlr.mono _ (fun i hi q => by rw [← e i (by omega)]; exact q), zlr.mono _ (fun i hi q => by rw [e i (by omega)]; exact q)⟩
theorem lpf.lay {F : Nat → Int} {φ : Nat → Nat} {i n : Nat} (hh : φ i < n) (l : Nat) : zlr F (lpf φ (i + 1)) n l = (zlr F (lpf φ i) n l || decide (F (30 + 4 * φ i) = (l : Int))) := by
  have z := zlr.add (F := F) (P := lpf φ i) (Q := lpf φ (i + 1)) (c := true) (l := l) hh (fun h => by
    show (lpf φ i h || decide (h = φ i)) = (lpf φ i h || (decide (h = φ i) && true))
    rw [Bool.and_true])
  rw [z, Bool.true_and]
theorem lpf.rch {F : Nat → Int} {φ : Nat → Nat} {m : Int32} {n : Nat} {v : Int} (h : zMk m (zlr F (lpf φ n) (F 1).toNat)) (hv : zMk m (zlr F (lpf φ n) (F 1).toNat) → v = pct (zlr F (lpf φ n) (F 1).toNat) 8) {L : Nat → Bool} (e : ∀ h : Nat, (h : Int) < F 1 → lpf φ n h = L h) : v = rch F L := by
  rw [hv h, ← rch.lp e]
  rfl
theorem zMk.lay {F : Nat → Int} {φ : Nat → Nat} {i j : Nat} {m s v l : Int32} (h : zMk m (zlr F (lpf φ i) (F 1).toNat)) (hh : (φ i : Int) < F 1) (hj : F (30 + 4 * φ i) = (j : Int)) (hl : l.toInt = (j : Int)) (h8 : j < 8) (hs : (1 : Int32) <<< (l &&& 31) = s) (hv : m ||| s = v) : zMk v (zlr F (lpf φ (i + 1)) (F 1).toNat) := h.add hl h8 hs hv (fun m => by
  rw [lpf.lay (by omega) m, hj]
  congr 1
  exact decide_eq_decide.mpr (by omega))
theorem zMk.nil {F : Nat → Int} {φ : Nat → Nat} {i : Nat} {m : Int32} (hi : i = 0) (hm : m.toInt = 0) : zMk m (zlr F (lpf φ i) (F 1).toNat) := by
  subst hi
  refine zMk.zero hm (fun l => ?_)
  cases e : zlr F (lpf φ 0) (F 1).toNat l with
  | false => rfl
  | true =>
    obtain ⟨h, _, h2, _⟩ := zlr.ex _ e
    cases h2
/-- no cell of a shape has more votes than its bound -/
def zBd (M : zM) (u v w : Nat) (F : Nat → Int) (L : Nat → Bool) (n : Nat) : Prop := ∀ s : Nat, s < n → ∀ b, vot F L (zI M u s).toInt (zI M v s).toInt b ≤ (zI M w s).toInt
/-- the best shape so far -/
def zBq (M : zM) (u v : Nat) (F : Nat → Int) (L : Nat → Bool) (need : Int) (i : Nat) (x y c : Int) : Prop := (x = -1 ∧ y = need - 1 ∧ ∀ s, s < i → ∀ b, vot F L (zI M u s).toInt (zI M v s).toInt b ≤ y) ∨ ∃ s : Nat, x = (s : Int) ∧ s < i ∧ need ≤ y ∧ y = vot F L (zI M u s).toInt (zI M v s).toInt c ∧ ∀ s', s' < i → ∀ b, vot F L (zI M u s').toInt (zI M v s').toInt b < y ∨ (vot F L (zI M u s').toInt (zI M v s').toInt b = y ∧ (s < s' ∨ (s = s' ∧ c ≤ b)))
theorem zBq.zero {M : zM} {u v : Nat} {F : Nat → Int} {L : Nat → Bool} {need : Int} {i : Nat} {x y c : Int} (hi : i = 0) (hx : x = -1) (hy : y = need - 1) : zBq M u v F L need i x y c := Or.inl ⟨hx, hy, fun s h => absurd h (by omega)⟩
theorem zBq.fr {M N : zM} {u v : Nat} {F : Nat → Int} {L : Nat → Bool} {need : Int} {i : Nat} {x y c y' c' : Int} (h : zBq M u v F L need i x y c) (eu : ∀ j, zI N u j = zI M u j) (ev : ∀ j, zI N v j = zI M v j) (hy : y' = y) (hc : c' = c) : zBq N u v F L need i x y' c' := by
  rw [hy, hc]
  have e : (fun j => zI N u j) = fun j => zI M u j := funext eu
  have e2 : (fun j => zI N v j) = fun j => zI M v j := funext ev
  have e : zI N u = zI M u := e
  have e2 : zI N v = zI M v := e2
  unfold zBq
  rw [e, e2]
  exact h
theorem zBd.fr {M N : zM} {u v w : Nat} {F : Nat → Int} {L : Nat → Bool} {n : Nat} (h : zBd M u v w F L n) (eu : ∀ j, zI N u j = zI M u j) (ev : ∀ j, zI N v j = zI M v j) (ew : ∀ j, zI N w j = zI M w j) : zBd N u v w F L n := fun s hs b => by
  rw [eu, ev, ew]
  exact h s hs b
theorem zBd.put {M N : zM} {u v w i : Nat} {F : Nat → Int} {L : Nat → Bool} {n : Nat} {x : Int} (h : zBd M u v w F L n) (eu : ∀ j, zI N u j = zI M u j) (ev : ∀ j, zI N v j = zI M v j) (ew : ∀ j, j ≠ i → zI N w j = zI M w j) (e1 : (zI N w i).toInt = x) (hx : ∀ b, vot F L (zI M u i).toInt (zI M v i).toInt b ≤ x) : zBd N u v w F L n := fun s hs b => by
  rw [eu, ev]
  by_cases q : s = i
  · rw [q, e1]
    exact hx b
  · rw [ew s q]
    exact h s hs b
theorem zBx.le {F : Nat → Int} {L : Nat → Bool} {k t v c : Int} (h : zBx F L k t v c) (b : Int) : vot F L k t b ≤ v := by
  rcases h with ⟨h1, h2⟩ | ⟨h1, h2, h3⟩
  · have z := h2 b
    omega
  · by_cases q : 1 ≤ vot F L k t b
    · have z := h3 b q
      omega
    · omega
/-- the shape isn't better -/
theorem zBq.skip {M : zM} {u v : Nat} {F : Nat → Int} {L : Nat → Bool} {need : Int} {i : Nat} {x y c : Int} (h : zBq M u v F L need i x y c) (hq : ∀ b, vot F L (zI M u i).toInt (zI M v i).toInt b ≤ y) : zBq M u v F L need (i + 1) x y c := by
  rcases h with ⟨h1, h2, h3⟩ | ⟨s, h1, h2, h3, h4, h5⟩
  · refine Or.inl ⟨h1, h2, fun s hs b => ?_⟩
    by_cases q : s = i
    · rw [q]
      exact hq b
    · exact h3 s (by omega) b
  · refine Or.inr ⟨s, h1, by omega, h3, h4, fun s' hs b => ?_⟩
    by_cases q : s' = i
    · rw [q]
      have z := hq b
      omega
    · exact h5 s' (by omega) b
/-- it is -/
theorem zBq.take {M : zM} {u v : Nat} {F : Nat → Int} {L : Nat → Bool} {need : Int} {i : Nat} {x y c x' y' c' : Int} (h : zBq M u v F L need i x y c) (hb : zBx F L (zI M u i).toInt (zI M v i).toInt y' c') (hy : y < y') (hx : x' = (i : Int)) (h2 : 2 ≤ need) : zBq M u v F L need (i + 1) x' y' c' := by
  have hn : need - 1 ≤ y := by
    rcases h with ⟨h1, h2, h3⟩ | ⟨s, h1, h2, h3, h4, h5⟩ <;> omega
  rcases hb with ⟨b1, b2⟩ | ⟨b1, b2, b3⟩
  · omega
  · refine Or.inr ⟨i, hx, by omega, by omega, b2, fun s' hs b => ?_⟩
    by_cases q : s' = i
    · rw [q]
      by_cases w : 1 ≤ vot F L (zI M u i).toInt (zI M v i).toInt b
      · have z := b3 b w
        omega
      · omega
    · rcases h with ⟨h1, h2, h3⟩ | ⟨s, h1, h2, h3, h4, h5⟩
      · have z := h3 s' (by omega) b
        omega
      · have z := h5 s' (by omega) b
        omega
/-- all shapes are gone through, or no more votes can be -/
theorem zBq.end {M : zM} {p u v : Nat} {F : Nat → Int} {L : Nat → Bool} {need : Int} {i n : Nat} {x y c r : Int} (h : zBq M u v F L need i x y c) (z : zSl M p u v F n) (hr : r = rch F L) (hi : i ≤ n) (hq : n ≤ i ∨ r ≤ y) (h2 : 2 ≤ need) : (x = -1 ∧ ∀ k t b, zIr F k t → vot F L k t b < need) ∨ ∃ s : Nat, x = (s : Int) ∧ s < n ∧ need ≤ y ∧ zBe F L ((zI M u s).toInt, (zI M v s).toInt, c) y := by
  obtain ⟨z1, z2, z3, z4, z5⟩ := z
  rcases h with ⟨h1, hy, h3⟩ | ⟨s, h1, hs, h3, h4, h5⟩
  · refine Or.inl ⟨h1, fun k t b q => ?_⟩
    obtain ⟨s, s1, s2, s3⟩ := z5 k t q
    have w : vot F L k t b ≤ y := by
      by_cases g : s < i
      · have w := h3 s g b
        rw [s2, s3] at w
        exact w
      · have w := vot.rch (F := F) (L := L) (k := k) (t := t) (b := b)
        omega
    omega
  · have sn : s < n := by omega
    refine Or.inr ⟨s, h1, sn, h3, z3 s sn, h4, by omega, fun k t b q q1 q2 => ?_⟩
    obtain ⟨s', s1, s2, s3⟩ := z5 k t q
    subst s2
    subst s3
    have w : vot F L (zI M u s').toInt (zI M v s').toInt b < y ∨ (vot F L (zI M u s').toInt (zI M v s').toInt b = y ∧ (s < s' ∨ (s = s' ∧ c ≤ b))) := by
      by_cases g : s' < i
      · exact h5 s' g b
      · have w := vot.rch (F := F) (L := L) (k := (zI M u s').toInt) (t := (zI M v s').toInt) (b := b)
        omega
    have q2 : zah (vot F L (zI M u s').toInt (zI M v s').toInt b) (zI M u s').toInt (zI M v s').toInt b y (zI M u s).toInt (zI M v s).toInt c := q2
    unfold zah at q2
    rcases w with w | ⟨w1, w2 | ⟨w2, w3⟩⟩
    · omega
    · have o := z4 s s' w2 s1
      unfold zslh at o
      omega
    · subst w2
      omega
theorem zPn.fr {M N : zM} {p u v : Nat} {F : Nat → Int} (h : zPn M p u v F) (e5 : zI N p 5 = zI M p 5) (eu : ∀ j, zI N u j = zI M u j) (ev : ∀ j, zI N v j = zI M v j) : zPn N p u v F := by
  refine ⟨by rw [e5]; exact h.1, fun l j k h1 h2 h3 h4 => ?_, fun l j t h1 h2 h3 h4 => ?_⟩
  · rw [eu]
    exact h.2.1 l j k h1 h2 h3 h4
  · rw [ev]
    exact h.2.2 l j t h1 h2 h3 h4
theorem zVt.fr {M N : zM} {p u v w : Nat} {F : Nat → Int} {L : Nat → Bool} {n : Nat} {φ : Nat → Nat} (h : zVt M p u v w F L n φ) (e6 : zI N p 6 = zI M p 6) (eu : ∀ j, zI N u j = zI M u j) (ev : ∀ j, zI N v j = zI M v j) (ew : ∀ j, zI N w j = zI M w j) : zVt N p u v w F L n φ := by
  refine ⟨by rw [e6]; exact h.1, h.2.1, fun j hj => ?_, h.2.2.2⟩
  rw [eu, ev, ew]
  exact h.2.2.1 j hj
theorem zSl.fr {M N : zM} {p u v : Nat} {F : Nat → Int} {n : Nat} (h : zSl M p u v F n) (e0 : zI N p 0 = zI M p 0) (eu : ∀ j, zI N u j = zI M u j) (ev : ∀ j, zI N v j = zI M v j) : zSl N p u v F n := by
  obtain ⟨h1, h2, h3, h4, h5⟩ := h
  refine ⟨by rw [e0]; exact h1, h2, fun s hs => ?_, fun s s' q1 q2 => ?_, fun k t q => ?_⟩
  · rw [eu, ev]
    exact h3 s hs
  · rw [eu, ev, eu, ev]
    exact h4 s s' q1 q2
  · obtain ⟨s, s1, s2, s3⟩ := h5 k t q
    exact ⟨s, s1, by rw [eu]; exact s2, by rw [ev]; exact s3⟩
