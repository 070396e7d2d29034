/-! ===== fits: sums over a track's layers, as longs ===== -/
theorem zfvJ {M : zM} {k j : Nat} {t : FieldType} {v : Int64} (ht : zft t = 1) (h : zJ M k j = v) : zfv M k t j = .long v := by
  rw [← h]
  exact zfvj ht
theorem i32l {w : Int32} {x : Int} (h : w.toInt = x) : w.toInt64 = Int64.ofInt x := by
  have g := zrg w
  refine Int64.toInt_inj.mp ((zi2l h).trans (Int64.toInt_ofInt_of_le (by omega) (by omega)).symm)
def xL (F : Nat → Int) (l : Nat) : Int64 := Int64.ofInt (F (14 + 2 * l))
def yL (F : Nat → Int) (k : Int) (l h : Nat) : Int64 := Int64.ofInt (F (31 + 4 * h) - k * F (14 + 2 * l) * F (14 + 2 * l) / 10000)
abbrev zS6 : Type := Int64 × Int64 × Int64 × Int64 × Int64 × Int64
def zAdd (s : zS6) (x y : Int64) : zS6 := (s.1 + 1, s.2.1 + x, s.2.2.1 + y, s.2.2.2.1 + x * x, s.2.2.2.2.1 + x * y, s.2.2.2.2.2 + y * y)
/-- how many, and the sums of x, y, xx, xy, yy -/
def zSums (F : Nat → Int) (k : Int) (hs : Nat → Int) : Nat → zS6
  | 0 => (0, 0, 0, 0, 0, 0)
  | l + 1 => if hs l < 0 then zSums F k hs l else zAdd (zSums F k hs l) (xL F l) (yL F k l (hs l).toNat)
def kD (s : zS6) : Int64 := s.1 * s.2.2.2.1 - s.2.1 * s.2.1
def mxL (a b : Int64) : Int64 := if a.toInt < b.toInt then b else a
theorem mxL.a {a b : Int64} (h : b.toInt ≤ a.toInt) : mxL a b = a := if_neg (by omega)
theorem mxL.b {a b : Int64} (h : a.toInt < b.toInt) : mxL a b = b := if_pos h
def kL (s : zS6) : Int64 := mxL 1 (kD s)
def kB (s : zS6) : Int64 := s.1 * s.2.2.2.2.1 - s.2.1 * s.2.2.1
def kA (s : zS6) : Int64 := s.2.2.1 * s.2.2.2.1 - s.2.1 * s.2.2.2.2.1
def kO (s : zS6) : Int64 := kL s * s.2.2.2.2.2 - kA s * s.2.2.1 - kB s * s.2.2.2.2.1
/-- a track's line -/
def zLin (M : zM) (t : Nat) (s : zS6) : Prop := zJ M t 8 = kL s ∧ zJ M t 9 = kA s ∧ zJ M t 10 = kB s ∧ zJ M t 11 = kO s
def abL (a : Int64) : Int64 := if 0 ≤ a.toInt then a else -a
theorem abL.p {a : Int64} (h : 0 ≤ a.toInt) : abL a = a := if_pos h
theorem abL.n {a : Int64} (h : a.toInt < 0) : abL a = -a := if_neg (by omega)
/-- the greatest distance from the line, times its lower number -/
def zMo (F : Nat → Int) (k : Int) (hs : Nat → Int) (s : zS6) : Nat → Int64
  | 0 => 0
  | l + 1 => if hs l < 0 then zMo F k hs s l else mxL (zMo F k hs s l) (abL (yL F k l (hs l).toNat * kL s - (kA s + kB s * xL F l)))
def zSmr (F : Nat → Int) (k : Int) (hs : Nat → Int) (s : zS6) : Int32 := (zMo F k hs s (F 0).toNat / mxL 1 (kL s)).toInt32
/-! ===== the class's picture: tracks ===== -/
/-- cells, votes and hits of all tracks stand -/
def zTf (M N : zM) : Prop := ∀ i : Nat, i < 20 → (∀ j : Nat, j < 4 → zI N (181 + 3 * i) j = zI M (181 + 3 * i) j) ∧ ∀ j : Nat, zI N (181 + 3 * i + 1) j = zI M (181 + 3 * i + 1) j
theorem zTf.id {M : zM} : zTf M M := fun _ _ => ⟨fun _ _ => rfl, fun _ => rfl⟩
theorem zTf.tr {M N K : zM} (h : zTf M N) (h' : zTf N K) : zTf M K := fun i hi => ⟨fun j hj => ((h' i hi).1 j hj).trans ((h i hi).1 j hj), fun j => ((h' i hi).2 j).trans ((h i hi).2 j)⟩
theorem zTf.eq {M N : zM} (e : ∀ k j : Nat, 181 ≤ k → k ≤ 240 → zI N k j = zI M k j) : zTf M N := fun i hi => ⟨fun j _ => e _ j (by omega) (by omega), fun j => e _ j (by omega) (by omega)⟩
theorem zTrk.tf {M N : zM} {i : Nat} {τ : zTkk} (h : zTrk M (181 + 3 * i) τ) (e : zTf M N) (hi : i < 20) : zTrk N (181 + 3 * i) τ := by
  obtain ⟨h1, h2, h3, h4, h5⟩ := h
  have z := e i hi
  refine ⟨?_, ?_, ?_, ?_, fun l hl => ?_⟩
  · rw [z.1 0 (by omega)]; exact h1
  · rw [z.1 1 (by omega)]; exact h2
  · rw [z.1 2 (by omega)]; exact h3
  · rw [z.1 3 (by omega)]; exact h4
  · rw [z.2]; exact h5 l hl
/-- a falling property holds of the first -/
theorem pct.fall {P : Nat → Bool} : ∀ n : Nat, (∀ i j, i ≤ j → j < n → P j = true → P i = true) → ∃ m : Nat, m ≤ n ∧ pct P n = (m : Int) ∧ (∀ i, i < m → P i = true) ∧ ∀ i, m ≤ i → i < n → P i = false
  | 0, _ => ⟨0, Nat.le_refl 0, rfl, fun i h => absurd h (by omega), fun i _ h => absurd h (by omega)⟩
  | n + 1, h => by
    obtain ⟨m, m1, m2, m3, m4⟩ := pct.fall n (fun i j q1 q2 => h i j q1 (by omega))
    cases hp : P n with
    | true =>
      have e : m = n := by
        refine Nat.le_antisymm m1 (Nat.le_of_not_lt fun q => ?_)
        have z := m4 m (Nat.le_refl m) q
        rw [h m n m1 (by omega) hp] at z
        cases z
      subst e
      refine ⟨m + 1, Nat.le_refl _, ?_, fun i hi => ?_, fun i q1 q2 => absurd q2 (by omega)⟩
      · rw [pct.y hp, m2]
        omega
      · by_cases q : i = m
        · rw [q]; exact hp
        · exact m3 i (by omega)
    | false =>
      refine ⟨m, by omega, by rw [pct.n hp, m2], m3, fun i q1 q2 => ?_⟩
      by_cases q : i = n
      · rw [q]; exact hp
      · exact m4 i q1 (by omega)
theorem zSq.cnt {F : Nat → Int} {L0 : Nat → Bool} {n : Nat} {τ : Nat → zTkk} {L : Nat → Nat → Bool} (h : zSq F L0 n τ L) (b : Int) : ∃ m : Nat, m ≤ n ∧ pct (fun i => decide (b ≤ (τ i).2.1)) n = (m : Int) ∧ (∀ i, i < m → b ≤ (τ i).2.1) ∧ ∀ i, m ≤ i → i < n → (τ i).2.1 < b := by
  obtain ⟨m, m1, m2, m3, m4⟩ := pct.fall (P := fun i => decide (b ≤ (τ i).2.1)) n (fun i j q1 q2 q => by
    have q : decide (b ≤ (τ j).2.1) = true := q
    show decide (b ≤ (τ i).2.1) = true
    rw [decide_eq_true_eq] at q ⊢
    have z := h.fall (j - i) i (by omega)
    rw [show i + (j - i) = j by omega] at z
    omega)
  refine ⟨m, m1, m2, fun i hi => of_decide_eq_true (m3 i hi), fun i q1 q2 => ?_⟩
  have z := of_decide_eq_false (m4 i q1 q2)
  omega
theorem zIq {M : zM} {k0 j0 k j : Nat} {v : Int32} (h : k ≠ k0 ∨ j ≠ j0) : zI (zsI M k0 j0 v) k j = zI M k j := by
  by_cases e : k = k0
  · subst e
    exact zIoj (h.resolve_left (fun q => q rfl))
  · exact zIo e
/-- a track's sums -/
def zFit (F : Nat → Int) (τ : zTkk) : zS6 := zSums F τ.1.1 τ.2.2 (F 0).toNat
/-- its line and its smear are drawn -/
def zDr (M : zM) (F : Nat → Int) (τ : Nat → zTkk) (i : Nat) : Prop := zLin M (181 + 3 * i) (zFit F (τ i)) ∧ zI M (181 + 3 * i) 5 = zSmr F (τ i).1.1 (τ i).2.2 (zFit F (τ i))
theorem zDr.fr {M N : zM} {F : Nat → Int} {τ : Nat → zTkk} {i : Nat} (h : zDr M F τ i) (eJ : ∀ j : Nat, zJ N (181 + 3 * i) j = zJ M (181 + 3 * i) j) (e5 : zI N (181 + 3 * i) 5 = zI M (181 + 3 * i) 5) : zDr N F τ i := by
  obtain ⟨⟨h1, h2, h3, h4⟩, h5⟩ := h
  exact ⟨⟨(eJ 8).trans h1, (eJ 9).trans h2, (eJ 10).trans h3, (eJ 11).trans h4⟩, e5.trans h5⟩
/-- the tracks' hits are hits -/
def zHv (F : Nat → Int) (n : Nat) (τ : Nat → zTkk) : Prop := ∀ i : Nat, i < n → ∀ l : Nat, l < 8 → (τ i).2.2 l = -2 ∨ ∃ h : Nat, (τ i).2.2 l = (h : Int) ∧ (h : Int) < F 1
theorem zSq.hv {F : Nat → Int} {L0 : Nat → Bool} {n : Nat} {τ : Nat → zTkk} {L : Nat → Nat → Bool} (h : zSq F L0 n τ L) : zHv F n τ := fun i hi l hl => by
  rcases ((h.2 i hi).1.2 l).1 hl with ⟨q, _⟩ | ⟨x, q1, q2, _⟩
  · exact Or.inl q
  · exact Or.inr ⟨x, q2, q1⟩
theorem zDl.step {M A B C : zM} {F : Nat → Int} {τ : Nat → zTkk} {i : Nat} (h : zTf M A ∧ ∀ q, q < i → zDr A F τ q) (hi : i < 20) (ht : zTrk M (181 + 3 * i) (τ i)) (fA : ∀ k j : Nat, zI B k j = zI A k j) (jA : ∀ k j : Nat, k ≠ 181 + 3 * i → zJ B k j = zJ A k j) (ln : zLin B (181 + 3 * i) (zSums F (zI A (181 + 3 * i) 0).toInt (τ i).2.2 (F 0).toNat)) (fB : ∀ k j : Nat, k ≠ 181 + 3 * i ∨ j ≠ 5 → zI C k j = zI B k j) (jB : ∀ k j : Nat, zJ C k j = zJ B k j) (sm : zI C (181 + 3 * i) 5 = zSmr F (zI B (181 + 3 * i) 0).toInt (τ i).2.2 (zSums F (zI B (181 + 3 * i) 0).toInt (τ i).2.2 (F 0).toNat)) : zTf M C ∧ ∀ q, q < i + 1 → zDr C F τ q := by
  have t0 : (zI A (181 + 3 * i) 0).toInt = (τ i).1.1 := by
    rw [(h.1 i hi).1 0 (by omega)]
    exact ht.1
  refine ⟨h.1.tr (fun q hq => ⟨fun j hj => (fB _ j (Or.inr (by omega))).trans (fA _ j), fun j => (fB _ j (Or.inl (by omega))).trans (fA _ j)⟩), fun q hq => ?_⟩
  by_cases e : q = i
  · subst e
    rw [fA, t0] at sm
    rw [t0] at ln
    obtain ⟨l1, l2, l3, l4⟩ := ln
    exact ⟨⟨(jB _ 8).trans l1, (jB _ 9).trans l2, (jB _ 10).trans l3, (jB _ 11).trans l4⟩, sm⟩
  · exact (h.2 q (by omega)).fr (fun j => (jB _ j).trans (jA _ j (by omega))) ((fB _ 5 (Or.inl (by omega))).trans (fA _ 5))
/-! ===== starts, their order, vertices ===== -/
/-- division of longs, downwards -/
def fdL (a b : Int64) : Int64 := if (a ^^^ b).toInt < 0 ∧ a / b * b ≠ a then a / b - 1 else a / b
theorem mxL.ge {b : Int64} : 1 ≤ (mxL 1 b).toInt := by
  unfold mxL
  have e : (1 : Int64).toInt = 1 := by decide
  split <;> omega
/-- where a track begins -/
def sT (F : Nat → Int) (τ : zTkk) : Int32 := (fdL (kA (zFit F τ)) (mxL 1 (kL (zFit F τ)))).toInt32
/-- the place of one more among the first, from behind -/
def plc (st : Nat → Int32) (o : Nat → Nat) (i : Nat) : Nat → Nat
  | 0 => 0
  | p + 1 => if (st i).toInt < (st (o p)).toInt then plc st o i p else p + 1
def insO (o : Nat → Nat) (i p q : Nat) : Nat := if q < p then o q else if q = p then i else o (q - 1)
/-- the order of the first n by their starts -/
def zOrd (st : Nat → Int32) : Nat → Nat → Nat
  | 0 => fun _ => 0
  | n + 1 => insO (zOrd st n) n (plc st (zOrd st n) n n)
theorem plc.le {st : Nat → Int32} {o : Nat → Nat} {i : Nat} : ∀ p : Nat, plc st o i p ≤ p
  | 0 => Nat.le_refl 0
  | p + 1 => by
    have z := plc.le (st := st) (o := o) (i := i) p
    show (if (st i).toInt < (st (o p)).toInt then plc st o i p else p + 1) ≤ p + 1
    split <;> omega
theorem zOrd.lt {st : Nat → Int32} : ∀ n q : Nat, q < n → zOrd st n q < n
  | 0, q, h => absurd h (by omega)
  | n + 1, q, h => by
    have z := plc.le (st := st) (o := zOrd st n) (i := n) n
    show (if q < plc st (zOrd st n) n n then zOrd st n q else if q = plc st (zOrd st n) n n then n else zOrd st n (q - 1)) < n + 1
    split
    · have y := zOrd.lt (st := st) n q (by omega)
      omega
    · split
      · omega
      · have y := zOrd.lt (st := st) n (q - 1) (by omega)
        omega
/-- the row of the order while one more is put in: the places from p on have moved -/
def zOi (M : zM) (u : Nat) (st : Nat → Int32) (i p : Nat) : Prop := p ≤ i ∧ plc st (zOrd st i) i i = plc st (zOrd st i) i p ∧ (∀ q, q < p → (zI M u q).toInt = (zOrd st i q : Int)) ∧ ∀ q, p < q → q ≤ i → (zI M u q).toInt = (zOrd st i (q - 1) : Int)
def zOd (M : zM) (u : Nat) (st : Nat → Int32) (n : Nat) : Prop := ∀ q, q < n → (zI M u q).toInt = (zOrd st n q : Int)
theorem zOd.oi {M : zM} {u : Nat} {st : Nat → Int32} {i p : Nat} (h : zOd M u st i) (hp : p = i) : zOi M u st i p := by
  subst hp
  exact ⟨Nat.le_refl _, rfl, h, fun q q1 q2 => absurd q2 (by omega)⟩
theorem zOi.go {M : zM} {u : Nat} {st : Nat → Int32} {i p x : Nat} {v : Int32} (h : zOi M u st i p) (hp : p = x + 1) (hv : v.toInt = (zOrd st i x : Int)) (hs : (st i).toInt < (st (zOrd st i x)).toInt) : zOi (zsI M u p v) u st i x := by
  subst hp
  obtain ⟨h1, h2, h3, h4⟩ := h
  refine ⟨by omega, ?_, fun q hq => ?_, fun q q1 q2 => ?_⟩
  · rw [h2]
    exact if_pos hs
  · rw [zIoj (by omega)]
    exact h3 q (by omega)
  · by_cases e : q = x + 1
    · subst e
      rw [zIs]
      exact hv
    · rw [zIoj e]
      exact h4 q (by omega) q2
theorem zOi.end {M : zM} {u : Nat} {st : Nat → Int32} {i p : Nat} {v : Int32} (h : zOi M u st i p) (hv : v.toInt = (i : Int)) (hs : p = 0 ∨ ∃ x, p = x + 1 ∧ (st (zOrd st i x)).toInt ≤ (st i).toInt) : zOd (zsI M u p v) u st (i + 1) := by
  obtain ⟨h1, h2, h3, h4⟩ := h
  have e : plc st (zOrd st i) i i = p := by
    rw [h2]
    rcases hs with q | ⟨x, q, w⟩
    · subst q
      rfl
    · subst q
      exact if_neg (by omega)
  intro q hq
  show _ = ((if q < plc st (zOrd st i) i i then zOrd st i q else if q = plc st (zOrd st i) i i then i else zOrd st i (q - 1) : Nat) : Int)
  rw [e]
  by_cases a : q = p
  · subst a
    rw [zIs, if_neg (by omega), if_pos rfl]
    exact hv
  · rw [zIoj a]
    by_cases b : q < p
    · rw [if_pos b]
      exact h3 q b
    · rw [if_neg b, if_neg a]
      exact h4 q (by omega) (by omega)
/-- how many vertices, the tracks and the sum of each, each track's vertex -/
abbrev zVs : Type := Nat × (Nat → Int) × (Nat → Int32) × (Nat → Int)
def u32 (f : Nat → Int32) (k : Nat) (v : Int32) (j : Nat) : Int32 := if j = k then v else f j
theorem u32.s {f : Nat → Int32} {k : Nat} {v : Int32} : u32 f k v k = v := if_pos rfl
theorem u32.o {f : Nat → Int32} {k j : Nat} {v : Int32} (h : j ≠ k) : u32 f k v j = f j := if_neg h
def vNew (s : zVs) : zVs := (s.1 + 1, uS s.2.1 s.1 0, u32 s.2.2.1 s.1 0, s.2.2.2)
def vAdd (s : zVs) (x : Nat) (a : Int32) : zVs := (s.1, uS s.2.1 (s.1 - 1) (s.2.1 (s.1 - 1) + 1), u32 s.2.2.1 (s.1 - 1) (s.2.2.1 (s.1 - 1) + a), uS s.2.2.2 x ((s.1 : Int) - 1))
def zJn (st : Nat → Int32) (o : Nat → Nat) (gap : Int) : Nat → zVs
  | 0 => (0, fun _ => 0, fun _ => 0, fun _ => 0)
  | p + 1 => if p = 0 ∨ gap < (st (o p) - st (o (p - 1))).toInt then vAdd (vNew (zJn st o gap p)) (o p) (st (o p)) else vAdd (zJn st o gap p) (o p) (st (o p))
theorem zJn.rg {st : Nat → Int32} {o : Nat → Nat} {gap : Int} : ∀ p : Nat, (zJn st o gap p).1 ≤ p ∧ (0 < p → 1 ≤ (zJn st o gap p).1)
  | 0 => ⟨Nat.le_refl 0, fun h => absurd h (by omega)⟩
  | p + 1 => by
    have z := zJn.rg (st := st) (o := o) (gap := gap) p
    by_cases c : p = 0 ∨ gap < (st (o p) - st (o (p - 1))).toInt
    · have e : zJn st o gap (p + 1) = vAdd (vNew (zJn st o gap p)) (o p) (st (o p)) := if_pos c
      rw [e]
      show (zJn st o gap p).1 + 1 ≤ p + 1 ∧ (0 < p + 1 → 1 ≤ (zJn st o gap p).1 + 1)
      omega
    · have e : zJn st o gap (p + 1) = vAdd (zJn st o gap p) (o p) (st (o p)) := if_neg c
      rw [e]
      show (zJn st o gap p).1 ≤ p + 1 ∧ (0 < p + 1 → 1 ≤ (zJn st o gap p).1)
      omega
def zVxm (M : zM) (s : zVs) (o : Nat → Nat) (p : Nat) : Prop := (zI M 164 9).toInt = (s.1 : Int) ∧ (∀ v : Nat, v < s.1 → (zI M 321 v).toInt = s.2.1 v ∧ zI M 322 v = s.2.2.1 v) ∧ ∀ q : Nat, q < p → (zI M (181 + 3 * o q) 4).toInt = s.2.2.2 (o q)
theorem zVxm.zero {M : zM} {st : Nat → Int32} {o : Nat → Nat} {gap : Int} {p : Nat} (hp : p = 0) (h : (zI M 164 9).toInt = 0) : zVxm M (zJn st o gap p) o p := by
  subst hp
  exact ⟨h, fun v hv => absurd hv (by show ¬ v < 0; omega), fun q hq => absurd hq (by omega)⟩
theorem zVxm.new {M : zM} {s : zVs} {o : Nat → Nat} {p V : Nat} {a b c : Int32} (h : zVxm M s o p) (hV : V = s.1) (ho : ∀ q, q < p → o q < 20) (ha : a.toInt = 0) (hb : b = 0) (hc : c.toInt = (V : Int) + 1) : zVxm (zsI (zsI (zsI M 321 V a) 322 V b) 164 9 c) (vNew s) o p := by
  subst hV
  obtain ⟨h1, h2, h3⟩ := h
  refine ⟨?_, fun v hv => ?_, fun q hq => ?_⟩
  · rw [zIs]
    show _ = ((s.1 + 1 : Nat) : Int)
    omega
  · have hv : v < s.1 + 1 := hv
    show (zI (zsI (zsI (zsI M 321 s.1 a) 322 s.1 b) 164 9 c) 321 v).toInt = uS s.2.1 s.1 0 v ∧ zI (zsI (zsI (zsI M 321 s.1 a) 322 s.1 b) 164 9 c) 322 v = u32 s.2.2.1 s.1 0 v
    by_cases e : v = s.1
    · rw [e, uS.s, u32.s]
      exact ⟨(congrArg Int32.toInt ((zIo (by decide)).trans ((zIo (by decide)).trans zIs))).trans ha, ((zIo (by decide)).trans zIs).trans hb⟩
    · rw [uS.o e, u32.o e]
      have z := h2 v (by omega)
      exact ⟨(congrArg Int32.toInt ((zIo (by decide)).trans ((zIo (by decide)).trans (zIoj e)))).trans z.1, ((zIo (by decide)).trans ((zIoj e).trans (zIo (by decide)))).trans z.2⟩
  · have z := ho q hq
    rw [zIo (by omega), zIo (by omega), zIo (by omega)]
    exact h3 q hq
theorem zVxm.add {M : zM} {s : zVs} {o : Nat → Nat} {p V V2 x : Nat} {a b c st : Int32} (h : zVxm M s o p) (hV : V + 1 = s.1) (h2' : V2 = V) (ho : ∀ q, q < p → o q < 20) (hx : x = o p) (ha : a.toInt = s.2.1 V + 1) (hb : b = s.2.2.1 V2 + st) (hc : c.toInt = (V : Int)) (hx2 : x < 20) : zVxm (zsI (zsI (zsI M 321 V a) 322 V2 b) (181 + 3 * x) 4 c) (vAdd s (o p) st) o (p + 1) := by
  rw [← hx]
  have h2'' := h2'.symm
  subst h2''
  obtain ⟨h1, h2, h3⟩ := h
  have e1 : s.1 - 1 = V := by omega
  refine ⟨?_, fun v hv => ?_, fun q hq => ?_⟩
  · rw [zIo (by omega), zIo (by decide), zIo (by decide)]
    exact h1
  · have hv : v < s.1 := hv
    show (zI (zsI (zsI (zsI M 321 V a) 322 V b) (181 + 3 * x) 4 c) 321 v).toInt = uS s.2.1 (s.1 - 1) (s.2.1 (s.1 - 1) + 1) v ∧ zI (zsI (zsI (zsI M 321 V a) 322 V b) (181 + 3 * x) 4 c) 322 v = u32 s.2.2.1 (s.1 - 1) (s.2.2.1 (s.1 - 1) + st) v
    rw [e1]
    by_cases e : v = V
    · rw [e, uS.s, u32.s]
      exact ⟨(congrArg Int32.toInt ((zIo (by omega)).trans ((zIo (by decide)).trans zIs))).trans ha, ((zIo (by omega)).trans zIs).trans hb⟩
    · rw [uS.o e, u32.o e]
      have z := h2 v hv
      exact ⟨(congrArg Int32.toInt ((zIo (by omega)).trans ((zIo (by decide)).trans (zIoj e)))).trans z.1, ((zIo (by omega)).trans ((zIoj e).trans (zIo (by decide)))).trans z.2⟩
  · show _ = uS s.2.2.2 x ((s.1 : Int) - 1) (o q)
    by_cases e : o q = x
    · rw [e, zIs, uS.s]
      omega
    · have z : q ≠ p := fun w => e (by rw [w, hx])
      have y := ho q (by omega)
      rw [zIo (by omega), zIo (by omega), zIo (by omega), uS.o e]
      exact h3 q (by omega)
theorem vNew.a {s : zVs} {V : Nat} (h : V = s.1) : (vNew s).2.1 V = 0 := by
  subst h
  exact uS.s
theorem vNew.b {s : zVs} {V : Nat} (h : V = s.1) : (vNew s).2.2.1 V = 0 := by
  subst h
  exact u32.s
theorem zJn.y {st : Nat → Int32} {o : Nat → Nat} {gap : Int} {p : Nat} (c : p = 0 ∨ gap < (st (o p) - st (o (p - 1))).toInt) : zJn st o gap (p + 1) = vAdd (vNew (zJn st o gap p)) (o p) (st (o p)) := if_pos c
theorem zJn.n {st : Nat → Int32} {o : Nat → Nat} {gap : Int} {p : Nat} (c : ¬ (p = 0 ∨ gap < (st (o p) - st (o (p - 1))).toInt)) : zJn st o gap (p + 1) = vAdd (zJn st o gap p) (o p) (st (o p)) := if_neg c
theorem zJn.c {st : Nat → Int32} {o : Nat → Nat} {gap : Int} : ∀ p v : Nat, 0 ≤ (zJn st o gap p).2.1 v ∧ (zJn st o gap p).2.1 v ≤ (p : Int)
  | 0, v => ⟨Int.le_refl _, Int.le_refl _⟩
  | p + 1, v => by
    have z := fun u => zJn.c (st := st) (o := o) (gap := gap) p u
    by_cases c : p = 0 ∨ gap < (st (o p) - st (o (p - 1))).toInt
    · rw [zJn.y c]
      show 0 ≤ uS (uS (zJn st o gap p).2.1 (zJn st o gap p).1 0) ((zJn st o gap p).1 + 1 - 1) (uS (zJn st o gap p).2.1 (zJn st o gap p).1 0 ((zJn st o gap p).1 + 1 - 1) + 1) v ∧ uS (uS (zJn st o gap p).2.1 (zJn st o gap p).1 0) ((zJn st o gap p).1 + 1 - 1) (uS (zJn st o gap p).2.1 (zJn st o gap p).1 0 ((zJn st o gap p).1 + 1 - 1) + 1) v ≤ ((p + 1 : Nat) : Int)
      rw [show (zJn st o gap p).1 + 1 - 1 = (zJn st o gap p).1 by omega]
      by_cases e : v = (zJn st o gap p).1
      · rw [e, uS.s, uS.s]
        omega
      · rw [uS.o e, uS.o e]
        have z1 := z v
        omega
    · rw [zJn.n c]
      show 0 ≤ uS (zJn st o gap p).2.1 ((zJn st o gap p).1 - 1) ((zJn st o gap p).2.1 ((zJn st o gap p).1 - 1) + 1) v ∧ uS (zJn st o gap p).2.1 ((zJn st o gap p).1 - 1) ((zJn st o gap p).2.1 ((zJn st o gap p).1 - 1) + 1) v ≤ ((p + 1 : Nat) : Int)
      by_cases e : v = (zJn st o gap p).1 - 1
      · rw [e, uS.s]
        have z1 := z ((zJn st o gap p).1 - 1)
        omega
      · rw [uS.o e]
        have z1 := z v
        omega
/-- but for a track's vertex all of it stands -/
def zT4 (M N : zM) : Prop := ∀ i : Nat, i < 20 → (∀ j : Nat, j ≠ 4 → zI N (181 + 3 * i) j = zI M (181 + 3 * i) j) ∧ ∀ j : Nat, zI N (181 + 3 * i + 1) j = zI M (181 + 3 * i + 1) j
theorem zT4.id {M : zM} : zT4 M M := fun _ _ => ⟨fun _ _ => rfl, fun _ => rfl⟩
theorem zT4.put {M N : zM} {x : Nat} {v : Int32} (h : zT4 M N) : zT4 M (zsI N (181 + 3 * x) 4 v) := fun i hi => ⟨fun j hj => (zIq (Or.inr hj)).trans ((h i hi).1 j hj), fun j => (zIo (by omega)).trans ((h i hi).2 j)⟩
theorem zT4.out {M N : zM} {k j : Nat} {v : Int32} (h : zT4 M N) (hk : k < 181 ∨ 240 < k) : zT4 M (zsI N k j v) := fun i hi => ⟨fun j hj => (zIo (by omega)).trans ((h i hi).1 j hj), fun j => (zIo (by omega)).trans ((h i hi).2 j)⟩
theorem zT4.tf {M N : zM} (h : zT4 M N) : zTf M N := fun i hi => ⟨fun j hj => (h i hi).1 j (by omega), (h i hi).2⟩
