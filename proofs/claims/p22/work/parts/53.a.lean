/-! ===== what a trigger's text says: an automaton over its signs ===== -/
/-- the sign at a place, -1 behind the last -/
def zsy (f : Nat → Int32) (n : Int) (p : Nat) : Int := if (p : Int) < n then (f p &&& 255).toInt else -1
theorem zsy.cg {f f' : Nat → Int32} {n : Int} (e : ∀ j : Nat, (j : Int) < n → f' j = f j) : zsy f' n = zsy f n := by
  funext p
  unfold zsy
  split
  · rename_i q
    rw [e p q]
  · rfl
abbrev zltr (c : Int) : Prop := c = 110 ∨ c = 104 ∨ c = 118 ∨ c = 103 ∨ c = 109 ∨ c = 108 ∨ c = 117 ∨ c = 111
/-- behind at most k figures -/
def pDg (g : Nat → Int) : Nat → Nat → Nat
  | 0, p => p
  | k + 1, p => if 48 ≤ g p ∧ g p ≤ 57 then pDg g k (p + 1) else p
theorem pDg.y {g : Nat → Int} {k p : Nat} (h : 48 ≤ g p ∧ g p ≤ 57) : pDg g (k + 1) p = pDg g k (p + 1) := if_pos h
theorem pDg.n {g : Nat → Int} {k p : Nat} (h : ¬ (48 ≤ g p ∧ g p ≤ 57)) : pDg g (k + 1) p = p := if_neg h
/-- a fault's place, or where a reading ends and the things so far -/
abbrev pO : Type := Int ⊕ (Nat × Int)
/-- a thing -/
def pTh (g : Nat → Int) (s : Nat × Int) : pO := if 30 ≤ s.2 then .inl (s.1 : Int) else if 48 ≤ g s.1 ∧ g s.1 ≤ 57 then (if 48 ≤ g (pDg g 4 s.1) ∧ g (pDg g 4 s.1) ≤ 57 then .inl (pDg g 4 s.1 : Int) else .inr (pDg g 4 s.1, s.2 + 1)) else if zltr (g s.1) then .inr (s.1 + 1, s.2 + 1) else .inl (s.1 : Int)
def pMo (g : Nat → Int) : Nat → Nat × Int → pO
  | 0, _ => .inl 0
  | k + 1, s => if g s.1 = 42 ∨ g s.1 = 43 ∨ g s.1 = 45 then (match pTh g (s.1 + 1, s.2) with
    | .inl e => .inl e
    | .inr s' => pMo g k s') else .inr s
def pSu (g : Nat → Int) (s : Nat × Int) : pO := match pTh g s with
  | .inl e => .inl e
  | .inr s' => pMo g 32 s'
def pCm (g : Nat → Int) (s : Nat × Int) : pO := match pSu g s with
  | .inl e => .inl e
  | .inr s' => if g s'.1 = 60 ∨ g s'.1 = 61 ∨ g s'.1 = 62 then pSu g (s'.1 + 1, s'.2) else .inl (s'.1 : Int)
/-- ahead of a test (true) or behind one, what has begun, where, how many things -/
abbrev pC : Type := Bool × List Int × Nat × Int
def pSt (g : Nat → Int) (n : Int) (c : pC) : pC ⊕ (Int ⊕ Int) := if c.1 = true then (if g c.2.2.1 = 33 ∨ g c.2.2.1 = 40 then (if 6 ≤ c.2.1.length then .inr (.inl (c.2.2.1 : Int)) else .inl (true, g c.2.2.1 :: c.2.1, c.2.2.1 + 1, c.2.2.2)) else (match pCm g c.2.2 with
    | .inl e => .inr (.inl e)
    | .inr s => .inl (false, c.2.1, s))) else if c.2.1.head? = some 33 then .inl (false, c.2.1.tail, c.2.2) else if g c.2.2.1 = 41 ∧ c.2.1 ≠ [] then .inl (false, c.2.1.tail, c.2.2.1 + 1, c.2.2.2) else if g c.2.2.1 = 38 ∨ g c.2.2.1 = 124 then .inl (true, c.2.1, c.2.2.1 + 1, c.2.2.2) else .inr (if c.2.1 = [] ∧ (c.2.2.1 : Int) = n then .inr c.2.2.2 else .inl (c.2.2.1 : Int))
def pRun (g : Nat → Int) (n : Int) : Nat → pC → Option (Int ⊕ Int)
  | 0, _ => none
  | k + 1, c => match pSt g n c with
    | .inl c' => pRun g n k c'
    | .inr r => some r
/-- it ends, and says r -/
def pR (g : Nat → Int) (n : Int) (c : pC) (r : Int ⊕ Int) : Prop := ∃ k, pRun g n k c = some r
theorem pRun.up {g : Nat → Int} {n : Int} : ∀ (k : Nat) {c : pC} {r : Int ⊕ Int}, pRun g n k c = some r → ∀ j, pRun g n (k + j) c = some r
  | 0, c, r, h, j => by cases h
  | k + 1, c, r, h, j => by
    rw [show k + 1 + j = (k + j) + 1 by omega]
    unfold pRun at h ⊢
    cases hs : pSt g n c with
    | inl c' =>
      rw [hs] at h
      exact pRun.up k h j
    | inr q =>
      rw [hs] at h
      exact h
theorem pR.det {g : Nat → Int} {n : Int} {c : pC} {r r' : Int ⊕ Int} (h : pR g n c r) (h' : pR g n c r') : r = r' := by
  obtain ⟨k, h⟩ := h
  obtain ⟨k', h'⟩ := h'
  have h1 := pRun.up k h k'
  have h2 := pRun.up k' h' k
  rw [show k' + k = k + k' by omega, h1] at h2
  injection h2
theorem pR.step {g : Nat → Int} {n : Int} {c c' : pC} (hs : pSt g n c = .inl c') {r : Int ⊕ Int} : pR g n c r ↔ pR g n c' r := by
  constructor
  · rintro ⟨k, h⟩
    cases k with
    | zero => cases h
    | succ k =>
      unfold pRun at h
      rw [hs] at h
      exact ⟨k, h⟩
  · rintro ⟨k, h⟩
    refine ⟨k + 1, ?_⟩
    unfold pRun
    rw [hs]
    exact h
theorem pR.halt {g : Nat → Int} {n : Int} {c : pC} {r : Int ⊕ Int} (hs : pSt g n c = .inr r) : pR g n c r := by
  refine ⟨1, ?_⟩
  unfold pRun
  rw [hs]
/-- the same is said from both -/
def pE (g : Nat → Int) (n : Int) (c c' : pC) : Prop := ∀ r, pR g n c r ↔ pR g n c' r
theorem pE.refl {g : Nat → Int} {n : Int} {c : pC} : pE g n c c := fun _ => Iff.rfl
theorem pE.trans {g : Nat → Int} {n : Int} {a b c : pC} (h : pE g n a b) (h' : pE g n b c) : pE g n a c := fun r => (h r).trans (h' r)
theorem pE.st {g : Nat → Int} {n : Int} {c c' : pC} (hs : pSt g n c = .inl c') : pE g n c c' := fun _ => pR.step hs
/-- a sign that begins one -/
theorem pE.opn {g : Nat → Int} {n : Int} {S : List Int} {p : Nat} {t : Int} (hc : g p = 33 ∨ g p = 40) (hS : S.length < 6) : pE g n (true, S, p, t) (true, g p :: S, p + 1, t) := pE.st (by
  unfold pSt
  rw [if_pos rfl, if_pos hc, if_neg (by show ¬ 6 ≤ S.length; omega)])
theorem pR.deep {g : Nat → Int} {n : Int} {S : List Int} {p : Nat} {t : Int} (hc : g p = 33 ∨ g p = 40) (hS : 6 ≤ S.length) : pR g n (true, S, p, t) (.inl (p : Int)) := pR.halt (by
  unfold pSt
  rw [if_pos rfl, if_pos hc, if_pos hS])
theorem pE.cm {g : Nat → Int} {n : Int} {S : List Int} {p : Nat} {t : Int} {s : Nat × Int} (hc : ¬ (g p = 33 ∨ g p = 40)) (hs : pCm g (p, t) = .inr s) : pE g n (true, S, p, t) (false, S, s) := pE.st (by
  unfold pSt
  rw [if_pos rfl, if_neg hc]
  show (match pCm g (p, t) with | .inl e => _ | .inr s => _) = _
  rw [hs])
theorem pR.cm {g : Nat → Int} {n : Int} {S : List Int} {p : Nat} {t e : Int} (hc : ¬ (g p = 33 ∨ g p = 40)) (hs : pCm g (p, t) = .inl e) : pR g n (true, S, p, t) (.inl e) := pR.halt (by
  unfold pSt
  rw [if_pos rfl, if_neg hc]
  show (match pCm g (p, t) with | .inl e => _ | .inr s => _) = _
  rw [hs])
theorem pE.neg {g : Nat → Int} {n : Int} {S : List Int} {s : Nat × Int} : pE g n (false, 33 :: S, s) (false, S, s) := pE.st (by
  unfold pSt
  rw [if_neg Bool.false_ne_true, if_pos (show (33 :: S : List Int).head? = some 33 from rfl)]
  rfl)
theorem pE.close {g : Nat → Int} {n : Int} {S : List Int} {p : Nat} {t : Int} (hc : g p = 41) : pE g n (false, 40 :: S, p, t) (false, S, p + 1, t) := pE.st (by
  unfold pSt
  rw [if_neg Bool.false_ne_true, if_neg (show ¬ (40 :: S : List Int).head? = some 33 by simp), if_pos ⟨hc, by simp⟩]
  rfl)
theorem pE.bin {g : Nat → Int} {n : Int} {S : List Int} {p : Nat} {t : Int} (hS : S.head? ≠ some 33) (hc : g p = 38 ∨ g p = 124) : pE g n (false, S, p, t) (true, S, p + 1, t) := pE.st (by
  unfold pSt
  rw [if_neg Bool.false_ne_true, if_neg hS, if_neg (fun q => by have h1 : g p = 41 := q.1; omega), if_pos hc])
theorem pR.last {g : Nat → Int} {n : Int} {S : List Int} {p : Nat} {t : Int} (hS : S.head? ≠ some 33) (h1 : ¬ (g p = 41 ∧ S ≠ [])) (h2 : ¬ (g p = 38 ∨ g p = 124)) : pR g n (false, S, p, t) (if S = [] ∧ (p : Int) = n then .inr t else .inl (p : Int)) := pR.halt (by
  unfold pSt
  rw [if_neg Bool.false_ne_true, if_neg hS, if_neg h1, if_neg h2])
