/-! ===== what a text says ===== -/
def pNq (g : Nat → Int) (p : Nat) : Nat := if g p = 45 then p + 1 else p
def pVal (g : Nat → Int) (q : Nat) : Nat → Int
  | 0 => 0
  | n + 1 => 10 * pVal g q n + (g (q + n) - 48)
/-- a number: where it ends, and which it is -/
def pN (g : Nat → Int) (p : Nat) : Option (Nat × Int) := if pDg g 4 (pNq g p) = pNq g p ∨ (48 ≤ g (pDg g 4 (pNq g p)) ∧ g (pDg g 4 (pNq g p)) ≤ 57) then none else some (pDg g 4 (pNq g p), if g p = 45 then -(pVal g (pNq g p) (pDg g 4 (pNq g p) - pNq g p)) else pVal g (pNq g p) (pDg g 4 (pNq g p) - pNq g p))
/-- a number between two, and the sign behind it -/
def pRd (g : Nat → Int) (p : Nat) (lo hi sep : Int) : Option (Nat × Int) := match pN g p with
  | none => none
  | some r => if lo ≤ r.2 ∧ r.2 ≤ hi ∧ g r.1 = sep then some (r.1 + 1, r.2) else none
theorem pRd.y {g : Nat → Int} {p e : Nat} {lo hi sep x : Int} (h : pN g p = some (e, x)) (h1 : lo ≤ x) (h2 : x ≤ hi) (h3 : g e = sep) : pRd g p lo hi sep = some (e + 1, x) := by
  unfold pRd
  rw [h]
  exact if_pos ⟨h1, h2, h3⟩
theorem pRd.f {g : Nat → Int} {p : Nat} {lo hi sep : Int} (h : pN g p = none) : pRd g p lo hi sep = none := by
  unfold pRd
  rw [h]
theorem pRd.n {g : Nat → Int} {p e : Nat} {lo hi sep x : Int} (h : pN g p = some (e, x)) (q : x < lo ∨ hi < x ∨ g e ≠ sep) : pRd g p lo hi sep = none := by
  unfold pRd
  rw [h]
  exact if_neg (fun z => by
    have z1 : lo ≤ x := z.1
    have z2 : x ≤ hi := z.2.1
    have z3 : g e = sep := z.2.2
    omega)
theorem pN.n {g : Nat → Int} {p q e : Nat} (hq : pNq g p = q) (he : pDg g 4 q = e) (h : e = q ∨ (48 ≤ g e ∧ g e ≤ 57)) : pN g p = none := by
  unfold pN
  rw [hq, he]
  exact if_pos h
theorem pN.y {g : Nat → Int} {p q e k : Nat} {v x : Int} (hq : pNq g p = q) (he : pDg g 4 q = e) (h1 : e ≠ q) (h2 : ¬ (48 ≤ g e ∧ g e ≤ 57)) (hk : e = q + k) (hv : pVal g q k = v) (hx : (g p = 45 ∧ x = -v) ∨ (g p ≠ 45 ∧ x = v)) : pN g p = some (e, x) := by
  unfold pN
  rw [hq, he, if_neg (fun z => z.elim h1 h2), show e - q = k by omega, hv]
  rcases hx with ⟨a, b⟩ | ⟨a, b⟩
  · rw [if_pos a, b]
  · rw [if_neg a, b]
theorem pNq.m {g : Nat → Int} {p : Nat} (h : g p = 45) : pNq g p = p + 1 := if_pos h
theorem pNq.o {g : Nat → Int} {p : Nat} (h : g p ≠ 45) : pNq g p = p := if_neg h
/-- what a particle leaves -/
def pPt (F : Nat → Int) (z t k : Int) : Nat → Option (Nat → Int)
  | 0 => some (pPar F z t k)
  | l + 1 => match pPt F z t k l with
    | none => none
    | some G => if -9999 ≤ z + pLf F l t k ∧ z + pLf F l t k ≤ 9999 then (if G 1 = 60 then none else some (pHit G (l : Int) (z + pLf F l t k) (F (14 + 2 * l) / 10) (F 2))) else some G
theorem pPt.s {F G : Nat → Int} {z t k : Int} {l : Nat} (h : pPt F z t k l = some G) (q : z + pLf F l t k < -9999 ∨ 9999 < z + pLf F l t k) : pPt F z t k (l + 1) = some G := by
  unfold pPt
  rw [h]
  exact if_neg (fun w => by have w1 := w.1; have w2 := w.2; omega)
theorem pPt.y {F G : Nat → Int} {z t k y x : Int} {l : Nat} (h : pPt F z t k l = some G) (hy : y = z + pLf F l t k) (h1 : -9999 ≤ y) (h2 : y ≤ 9999) (h3 : G 1 ≠ 60) (hx : x = F (14 + 2 * l) / 10) : pPt F z t k (l + 1) = some (pHit G (l : Int) y x (F 2)) := by
  subst hy
  subst hx
  unfold pPt
  rw [h]
  show (if _ then _ else _) = _
  rw [if_pos ⟨h1, h2⟩, if_neg h3]
theorem pPt.f {F G : Nat → Int} {z t k : Int} {l : Nat} (h : pPt F z t k l = some G) (h1 : -9999 ≤ z + pLf F l t k) (h2 : z + pLf F l t k ≤ 9999) (h3 : G 1 = 60) : pPt F z t k (l + 1) = none := by
  unfold pPt
  rw [h]
  show (if _ then _ else _) = _
  rw [if_pos ⟨h1, h2⟩, if_pos h3]
theorem pPt.up {F : Nat → Int} {z t k : Int} {l : Nat} (h : pPt F z t k l = none) : ∀ n : Nat, pPt F z t k (l + n) = none
  | 0 => h
  | n + 1 => by
    show pPt F z t k ((l + n) + 1) = none
    unfold pPt
    rw [pPt.up h n]
def pLo (F : Nat → Int) : Int := if F 0 = 0 then 1 else F (14 + 2 * ((F 0).toNat - 1)) + 1
/-- one behind the other -/
def pB {β : Type} (r : Option (Nat × Int)) (f : Nat → Int → Option β) : Option β := match r with
  | none => none
  | some a => f a.1 a.2
theorem pB.f {β : Type} {r : Option (Nat × Int)} {f : Nat → Int → Option β} (h : r = none) : pB r f = none := by
  subst h
  rfl
theorem pB.y {β : Type} {r : Option (Nat × Int)} {f : Nat → Int → Option β} {q : Nat} {x : Int} (h : r = some (q, x)) : pB r f = f q x := by
  subst h
  rfl
theorem pB.n {β : Type} {r : Option (Nat × Int)} {f : Nat → Int → Option β} (h : ∀ q x, r = some (q, x) → f q x = none) : pB r f = none := by
  cases r with
  | none => rfl
  | some a => exact h a.1 a.2 rfl
theorem pRd.v {g : Nat → Int} {p e q : Nat} {lo hi sep x y : Int} (h : pRd g p lo hi sep = some (q, x)) (hn : pN g p = some (e, y)) : x = y := by
  unfold pRd at h
  rw [hn] at h
  have h : (if lo ≤ y ∧ y ≤ hi ∧ g e = sep then some (e + 1, y) else none) = some (q, x) := h
  split at h
  · have z := congrArg Prod.snd (Option.some.inj h)
    exact z.symm
  · cases h
def pM (r : Option (Nat → Int)) (f : (Nat → Int) → Option (Nat × (Nat → Int))) : Option (Nat × (Nat → Int)) := match r with
  | none => none
  | some G => f G
theorem pM.f {r : Option (Nat → Int)} {f : (Nat → Int) → Option (Nat × (Nat → Int))} (h : r = none) : pM r f = none := by
  subst h
  rfl
theorem pM.y {r : Option (Nat → Int)} {f : (Nat → Int) → Option (Nat × (Nat → Int))} {G : Nat → Int} (h : r = some G) : pM r f = f G := by
  subst h
  rfl
/-- an item: where it ends, and what is then -/
def pIt (g : Nat → Int) (F : Nat → Int) (p : Nat) : Option (Nat × (Nat → Int)) :=
  if g p = 114 then (if F 0 = 8 then none else pB (pRd g (p + 1) (pLo F) 999 59) fun q x => some (q, pLay F x))
  else if g p = 104 then (if F 1 = 60 then none else pB (pRd g (p + 1) 0 (F 0 - 1) 44) fun q x => pB (pRd g q (-9999) 9999 44) fun q2 y => pB (pRd g q2 0 999 59) fun q3 z => some (q3, pHit F x y z (-2)))
  else if g p = 112 then (if F 2 = 12 then none else pB (pRd g (p + 1) (-9999) 9999 44) fun q x => pB (pRd g q (-50) 50 44) fun q2 y => pB (pRd g q2 (-5) 5 59) fun q3 z => pM (pPt F x y z (F 0).toNat) fun G => some (q3, uS G 2 (F 2 + 1)))
  else if g p = 115 then pB (pRd g (p + 1) 0 3 44) fun q x => pB (pRd g q 0 20 44) fun q2 y => pB (pRd g q2 1 500 44) fun q3 z => pB (pRd g q3 2 8 59) fun q4 u => some (q4, uS (uS (uS (uS F 5 x) 6 y) 7 z) 8 u)
  else if g p = 103 then pB (pRd g (p + 1) 0 999 59) fun q x => some (q, uS F 9 x)
  else if g p = 119 then pB (pRd g (p + 1) 0 999 44) fun q x => pB (pRd g q x 999 59) fun q2 y => some (q2, uS (uS F 10 x) 11 y)
  else if g p = 113 then pB (pRd g (p + 1) 1 9999 44) fun q x => pB (pRd g q 0 9999 59) fun q2 y => some (q2, uS (uS F 12 x) 13 y)
  else none
theorem pIt.r0 {g : Nat → Int} {F : Nat → Int} {p : Nat} (h : g p = 114) (h1 : F 0 = 8) : pIt g F p = none := by
  unfold pIt
  rw [if_pos h, if_pos h1]
theorem pIt.r {g : Nat → Int} {F : Nat → Int} {p : Nat} (h : g p = 114) (h1 : F 0 ≠ 8) : pIt g F p = pB (pRd g (p + 1) (pLo F) 999 59) fun q x => some (q, pLay F x) := by
  unfold pIt
  rw [if_pos h, if_neg h1]
theorem pIt.h0 {g : Nat → Int} {F : Nat → Int} {p : Nat} (h : g p = 104) (h1 : F 1 = 60) : pIt g F p = none := by
  unfold pIt
  rw [if_neg (by omega), if_pos h, if_pos h1]
theorem pIt.h {g : Nat → Int} {F : Nat → Int} {p : Nat} (h : g p = 104) (h1 : F 1 ≠ 60) : pIt g F p = pB (pRd g (p + 1) 0 (F 0 - 1) 44) fun q x => pB (pRd g q (-9999) 9999 44) fun q2 y => pB (pRd g q2 0 999 59) fun q3 z => some (q3, pHit F x y z (-2)) := by
  unfold pIt
  rw [if_neg (by omega), if_pos h, if_neg h1]
theorem pIt.p0 {g : Nat → Int} {F : Nat → Int} {p : Nat} (h : g p = 112) (h1 : F 2 = 12) : pIt g F p = none := by
  unfold pIt
  rw [if_neg (by omega), if_neg (by omega), if_pos h, if_pos h1]
theorem pIt.p {g : Nat → Int} {F : Nat → Int} {p : Nat} (h : g p = 112) (h1 : F 2 ≠ 12) : pIt g F p = pB (pRd g (p + 1) (-9999) 9999 44) fun q x => pB (pRd g q (-50) 50 44) fun q2 y => pB (pRd g q2 (-5) 5 59) fun q3 z => pM (pPt F x y z (F 0).toNat) fun G => some (q3, uS G 2 (F 2 + 1)) := by
  unfold pIt
  rw [if_neg (by omega), if_neg (by omega), if_pos h, if_neg h1]
theorem pIt.s {g : Nat → Int} {F : Nat → Int} {p : Nat} (h : g p = 115) : pIt g F p = pB (pRd g (p + 1) 0 3 44) fun q x => pB (pRd g q 0 20 44) fun q2 y => pB (pRd g q2 1 500 44) fun q3 z => pB (pRd g q3 2 8 59) fun q4 u => some (q4, uS (uS (uS (uS F 5 x) 6 y) 7 z) 8 u) := by
  unfold pIt
  rw [if_neg (by omega), if_neg (by omega), if_neg (by omega), if_pos h]
theorem pIt.g {g : Nat → Int} {F : Nat → Int} {p : Nat} (h : g p = 103) : pIt g F p = pB (pRd g (p + 1) 0 999 59) fun q x => some (q, uS F 9 x) := by
  unfold pIt
  rw [if_neg (by omega), if_neg (by omega), if_neg (by omega), if_neg (by omega), if_pos h]
theorem pIt.w {g : Nat → Int} {F : Nat → Int} {p : Nat} (h : g p = 119) : pIt g F p = pB (pRd g (p + 1) 0 999 44) fun q x => pB (pRd g q x 999 59) fun q2 y => some (q2, uS (uS F 10 x) 11 y) := by
  unfold pIt
  rw [if_neg (by omega), if_neg (by omega), if_neg (by omega), if_neg (by omega), if_neg (by omega), if_pos h]
theorem pIt.q {g : Nat → Int} {F : Nat → Int} {p : Nat} (h : g p = 113) : pIt g F p = pB (pRd g (p + 1) 1 9999 44) fun q x => pB (pRd g q 0 9999 59) fun q2 y => some (q2, uS (uS F 12 x) 13 y) := by
  unfold pIt
  rw [if_neg (by omega), if_neg (by omega), if_neg (by omega), if_neg (by omega), if_neg (by omega), if_neg (by omega), if_pos h]
theorem pIt.no {g : Nat → Int} {F : Nat → Int} {p : Nat} (h : g p ≠ 114 ∧ g p ≠ 104 ∧ g p ≠ 112 ∧ g p ≠ 115 ∧ g p ≠ 103 ∧ g p ≠ 119 ∧ g p ≠ 113) : pIt g F p = none := by
  unfold pIt
  rw [if_neg h.1, if_neg h.2.1, if_neg h.2.2.1, if_neg h.2.2.2.1, if_neg h.2.2.2.2.1, if_neg h.2.2.2.2.2.1, if_neg h.2.2.2.2.2.2]
/-! ===== a text, item by item ===== -/
abbrev pT : Type := Nat × (Nat → Int) × Int
def tSt (g : Nat → Int) (n : Int) (c : pT) : pT ⊕ Option ((Nat → Int) × Int) := if n ≤ (c.1 : Int) then .inr (some (c.2.1, c.2.2)) else match pIt g c.2.1 c.1 with
  | none => .inr none
  | some r => .inl (r.1, r.2, c.2.2 + 1)
def tRun (g : Nat → Int) (n : Int) : Nat → pT → Option (Option ((Nat → Int) × Int))
  | 0, _ => none
  | k + 1, c => match tSt g n c with
    | .inl c' => tRun g n k c'
    | .inr r => some r
def tR (g : Nat → Int) (n : Int) (c : pT) (r : Option ((Nat → Int) × Int)) : Prop := ∃ k, tRun g n k c = some r
theorem tRun.up {g : Nat → Int} {n : Int} : ∀ (k : Nat) {c : pT} {r : Option ((Nat → Int) × Int)}, tRun g n k c = some r → ∀ j, tRun g n (k + j) c = some r
  | 0, c, r, h, j => by cases h
  | k + 1, c, r, h, j => by
    rw [show k + 1 + j = (k + j) + 1 by omega]
    unfold tRun at h ⊢
    cases hs : tSt g n c with
    | inl c' =>
      rw [hs] at h
      exact tRun.up k h j
    | inr q =>
      rw [hs] at h
      exact h
theorem tR.det {g : Nat → Int} {n : Int} {c : pT} {r r' : Option ((Nat → Int) × Int)} (h : tR g n c r) (h' : tR g n c r') : r = r' := by
  obtain ⟨k, h⟩ := h
  obtain ⟨k', h'⟩ := h'
  have h1 := tRun.up k h k'
  have h2 := tRun.up k' h' k
  rw [show k' + k = k + k' by omega, h1] at h2
  injection h2
theorem tR.step {g : Nat → Int} {n : Int} {c c' : pT} (hs : tSt g n c = .inl c') {r : Option ((Nat → Int) × Int)} : tR g n c r ↔ tR g n c' r := by
  constructor
  · rintro ⟨k, h⟩
    cases k with
    | zero => cases h
    | succ k =>
      unfold tRun at h
      rw [hs] at h
      exact ⟨k, h⟩
  · rintro ⟨k, h⟩
    refine ⟨k + 1, ?_⟩
    unfold tRun
    rw [hs]
    exact h
/-- the same is said from both -/
def tE (g : Nat → Int) (n : Int) (c c' : pT) : Prop := ∀ r, tR g n c r ↔ tR g n c' r
theorem tE.refl {g : Nat → Int} {n : Int} {c : pT} : tE g n c c := fun _ => Iff.rfl
theorem tE.it {g : Nat → Int} {n : Int} {c : pT} {p q : Nat} {F F' : Nat → Int} {x : Int} (h : tE g n c (p, F, x)) (hp : (p : Int) < n) (e : pIt g F p = some (q, F')) : tE g n c (q, F', x + 1) := fun r => (h r).trans (tR.step (by
  unfold tSt
  rw [if_neg (show ¬ n ≤ (((p, F, x) : pT).1 : Int) by show ¬ n ≤ (p : Int); omega)]
  show (match pIt g F p with | none => _ | some r => _) = _
  rw [e]))
theorem tE.no {g : Nat → Int} {n : Int} {c : pT} {p : Nat} {F : Nat → Int} {x : Int} (h : tE g n c (p, F, x)) (hp : (p : Int) < n) (e : pIt g F p = none) : tR g n c none := (h none).mpr ⟨1, by
  unfold tRun tSt
  rw [if_neg (show ¬ n ≤ (((p, F, x) : pT).1 : Int) by show ¬ n ≤ (p : Int); omega)]
  show (match (match pIt g F p with | none => (.inr none : pT ⊕ Option ((Nat → Int) × Int)) | some r => .inl (r.1, r.2, x + 1)) with | .inl c' => tRun g n 0 c' | .inr r => some r) = some none
  rw [e]⟩
theorem tE.end {g : Nat → Int} {n : Int} {c : pT} {p : Nat} {F : Nat → Int} {x : Int} (h : tE g n c (p, F, x)) (hp : n ≤ (p : Int)) : tR g n c (some (F, x)) := (h (some (F, x))).mpr ⟨1, by
  unfold tRun tSt
  rw [if_pos (show n ≤ (((p, F, x) : pT).1 : Int) from hp)]⟩
