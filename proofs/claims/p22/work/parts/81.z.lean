/-! ===== windows ===== -/
def zwin (F : Nat → Int) (f l : Int) (h : Nat) : Bool := decide (F (15 + 2 * (F (30 + 4 * h)).toNat) = 1 ∧ f ≤ F (32 + 4 * h) ∧ F (32 + 4 * h) ≤ l)
theorem zwin.y {F : Nat → Int} {f x : Int} {h l : Nat} (hl : F (30 + 4 * h) = (l : Int)) (h1 : F (15 + 2 * l) = 1) (h2 : f ≤ F (32 + 4 * h)) (h3 : F (32 + 4 * h) ≤ x) : zwin F f x h = true := by
  unfold zwin
  rw [show (F (30 + 4 * h)).toNat = l by omega]
  exact decide_eq_true ⟨h1, h2, h3⟩
theorem zwin.n {F : Nat → Int} {f x : Int} {h l : Nat} (hl : F (30 + 4 * h) = (l : Int)) (q : F (15 + 2 * l) ≠ 1 ∨ F (32 + 4 * h) < f ∨ x < F (32 + 4 * h)) : zwin F f x h = false := by
  unfold zwin
  rw [show (F (30 + 4 * h)).toNat = l by omega]
  exact decide_eq_false (fun z => by have z1 := z.1; have z2 := z.2.1; have z3 := z.2.2; omega)
theorem pct.le {P Q : Nat → Bool} : ∀ n : Nat, (∀ i, i < n → P i = true → Q i = true) → pct P n ≤ pct Q n
  | 0, _ => Int.le_refl 0
  | n + 1, e => by
    have z := pct.le n (fun i hi => e i (by omega))
    have w := e n (by omega)
    cases hp : P n with
    | true =>
      rw [pct.y hp, pct.y (w hp)]
      omega
    | false =>
      rw [pct.n hp]
      cases hq : Q n with
      | true =>
        rw [pct.y hq]
        omega
      | false =>
        rw [pct.n hq]
        exact z
/-- how many hits a window has -/
def cW (F : Nat → Int) (k t : Int) : Int := pct (zwin F t (t + k - 1)) (F 1).toNat
theorem cW.nn {F : Nat → Int} {k t : Int} : 0 ≤ cW F k t := pct.nn _
theorem cW.lt {F : Nat → Int} {k t : Int} (hno : ∀ h : Nat, (h : Int) < F 1 → F (32 + 4 * h) ≠ t + k - 1) : cW F k t ≤ cW F k (t - 1) := by
  refine pct.le _ (fun i hi q => ?_)
  have z := of_decide_eq_true q
  have n := hno i (by omega)
  exact decide_eq_true ⟨z.1, by have := z.2.1; omega, by have := z.2.2; omega⟩
/-- the best of those that begin at 0 or as a hit comes in -/
def zWc (F : Nat → Int) (k x m j : Int) : Prop := (cW F k 0 < m ∨ (cW F k 0 = m ∧ x ≤ 0)) ∧ ∀ h : Nat, (h : Int) < j → 0 < F (32 + 4 * h) - k + 1 → cW F k (F (32 + 4 * h) - k + 1) < m ∨ (cW F k (F (32 + 4 * h) - k + 1) = m ∧ x ≤ F (32 + 4 * h) - k + 1)
theorem zWc.z {F : Nat → Int} {k x m j : Int} (h1 : cW F k 0 = m) (h2 : x = 0) (h3 : j = 0) : zWc F k x m j := ⟨Or.inr ⟨h1, by omega⟩, fun h hh => absurd hh (by omega)⟩
theorem zWc.up {F : Nat → Int} {k x m j x' m' j' : Int} {h : Nat} (q : zWc F k x m j) (hj : j = (h : Int)) (hj' : j' = (h : Int) + 1) (hm : m < m' ∨ (m = m' ∧ x' ≤ x)) (hb : 0 < F (32 + 4 * h) - k + 1 → cW F k (F (32 + 4 * h) - k + 1) < m' ∨ (cW F k (F (32 + 4 * h) - k + 1) = m' ∧ x' ≤ F (32 + 4 * h) - k + 1)) : zWc F k x' m' j' := by
  refine ⟨?_, fun i hi hp => ?_⟩
  · have z := q.1
    omega
  · by_cases w : i = h
    · subst w
      exact hb hp
    · have z := q.2 i (by omega) hp
      omega
theorem zWc.all {F : Nat → Int} {k x m : Int} (q : zWc F k x m (F 1)) : ∀ t : Nat, cW F k (t : Int) < m ∨ (cW F k (t : Int) = m ∧ x ≤ (t : Int)) := by
  intro t
  induction t with
  | zero => exact q.1
  | succ t ih =>
    by_cases w : ∃ h : Nat, (h : Int) < F 1 ∧ F (32 + 4 * h) = ((t + 1 : Nat) : Int) + k - 1
    · obtain ⟨h, h1, h2⟩ := w
      have z := q.2 h h1 (by omega)
      rw [show F (32 + 4 * h) - k + 1 = ((t + 1 : Nat) : Int) by omega] at z
      exact z
    · have z := cW.lt (F := F) (k := k) (t := ((t + 1 : Nat) : Int)) (fun h h1 h2 => w ⟨h, h1, h2⟩)
      rw [show ((t + 1 : Nat) : Int) - 1 = (t : Int) by omega] at z
      omega
/-- the best of all so far -/
def zWm (F : Nat → Int) (k x m t : Int) : Prop := (t = 0 ∧ m = -1 ∧ x = 0) ∨ (0 < t ∧ 0 ≤ x ∧ x < t ∧ m = cW F k x ∧ ∀ s : Nat, (s : Int) < t → cW F k (s : Int) < m ∨ (cW F k (s : Int) = m ∧ x ≤ (s : Int)))
theorem zWm.up {F : Nat → Int} {k x m t x' m' t' : Int} (q : zWm F k x m t) (h0 : 0 ≤ t) (ht : t' = t + 1) (h : (m < cW F k t ∧ x' = t ∧ m' = cW F k t) ∨ (cW F k t ≤ m ∧ x' = x ∧ m' = m)) : zWm F k x' m' t' := by
  have nn := cW.nn (F := F) (k := k) (t := t)
  rcases q with ⟨q1, q2, q3⟩ | ⟨q1, q2, q3, q4, q5⟩
  · refine Or.inr ⟨by omega, by omega, by omega, ?_, fun s hs => ?_⟩
    · rcases h with ⟨_, h2, h3⟩ | ⟨h1, _⟩
      · rw [h3, h2]
      · omega
    · have e : (s : Int) = t := by omega
      rw [e]
      omega
  · rcases h with ⟨h1, h2, h3⟩ | ⟨h1, h2, h3⟩
    · refine Or.inr ⟨by omega, by omega, by omega, by rw [h3, h2], fun s hs => ?_⟩
      by_cases w : (s : Int) < t
      · have z := q5 s w
        omega
      · rw [show (s : Int) = t by omega]
        omega
    · subst h2
      subst h3
      refine Or.inr ⟨by omega, q2, by omega, q4, fun s hs => ?_⟩
      by_cases w : (s : Int) < t
      · exact q5 s w
      · rw [show (s : Int) = t by omega]
        omega
/-- what window tells -/
def zWnP (F : Nat → Int) (A B V : Int) : Prop := ((A < 1 ∨ 1000 < A ∨ B < 0 ∨ 1 < B) ∧ V = -1) ∨ (1 ≤ A ∧ A ≤ 1000 ∧ 0 ≤ B ∧ B ≤ 1 ∧ ∃ x : Nat, (x : Int) + A ≤ 1000 ∧ (∀ t : Nat, (t : Int) + A ≤ 1000 → cW F A (t : Int) < cW F A (x : Int) ∨ (cW F A (t : Int) = cW F A (x : Int) ∧ (x : Int) ≤ (t : Int))) ∧ ((B = 0 ∧ V = (x : Int)) ∨ (B = 1 ∧ V = cW F A (x : Int))))
theorem zWnP.det {F : Nat → Int} {A B V W : Int} (h : zWnP F A B V) (h' : zWnP F A B W) : V = W := by
  rcases h with ⟨a1, a2⟩ | ⟨a1, a2, a3, a4, x, a5, a6, a7⟩ <;> rcases h' with ⟨b1, b2⟩ | ⟨b1, b2, b3, b4, y, b5, b6, b7⟩
  · omega
  · omega
  · omega
  · have z1 := a6 y b5
    have z2 := b6 x a5
    have e : x = y := by omega
    subst e
    omega
theorem zWnP.c {F : Nat → Int} {A B V x m : Int} (h1 : 1 ≤ A) (h2 : A ≤ 1000) (h3 : 0 ≤ B) (h4 : B ≤ 1) (hx : 0 ≤ x) (hx2 : x + A ≤ 1000) (hm : m = cW F A x) (q : zWc F A x m (F 1)) (hv : (B = 0 ∧ V = x) ∨ (B = 1 ∧ V = m)) : zWnP F A B V := by
  refine Or.inr ⟨h1, h2, h3, h4, x.toNat, by omega, fun t ht => ?_, ?_⟩
  · rw [show ((x.toNat : Nat) : Int) = x by omega, ← hm]
    exact q.all t
  · rw [show ((x.toNat : Nat) : Int) = x by omega, ← hm]
    exact hv
theorem zWnP.m {F : Nat → Int} {A B V x m t : Int} (h1 : 1 ≤ A) (h2 : A ≤ 1000) (h3 : 0 ≤ B) (h4 : B ≤ 1) (ht : 1000 < t + A) (ht2 : t + A ≤ 1001) (q : zWm F A x m t) (hv : (B = 0 ∧ V = x) ∨ (B = 1 ∧ V = m)) : zWnP F A B V := by
  rcases q with ⟨q1, q2, q3⟩ | ⟨q1, q2, q3, q4, q5⟩
  · omega
  · refine Or.inr ⟨h1, h2, h3, h4, x.toNat, by omega, fun s hs => ?_, ?_⟩
    · rw [show ((x.toNat : Nat) : Int) = x by omega, ← q4]
      exact q5 s (by omega)
    · rw [show ((x.toNat : Nat) : Int) = x by omega, ← q4]
      exact hv
