/-! ===== steps, till something is said ===== -/
section GR
variable {σ ρ : Type}
def gRun (st : σ → σ ⊕ ρ) : Nat → σ → Option ρ
  | 0, _ => none
  | k + 1, c => match st c with
    | .inl c' => gRun st k c'
    | .inr r => some r
def gR (st : σ → σ ⊕ ρ) (c : σ) (r : ρ) : Prop := ∃ k, gRun st k c = some r
theorem gRun.up {st : σ → σ ⊕ ρ} : ∀ (k : Nat) {c : σ} {r : ρ}, gRun st k c = some r → ∀ j, gRun st (k + j) c = some r
  | 0, c, r, h, j => by cases h
  | k + 1, c, r, h, j => by
    rw [show k + 1 + j = (k + j) + 1 by omega]
    unfold gRun at h ⊢
    cases hs : st c with
    | inl c' =>
      rw [hs] at h
      exact gRun.up k h j
    | inr q =>
      rw [hs] at h
      exact h
theorem gR.det {st : σ → σ ⊕ ρ} {c : σ} {r r' : ρ} (h : gR st c r) (h' : gR st c r') : r = r' := by
  obtain ⟨k, h⟩ := h
  obtain ⟨k', h'⟩ := h'
  have h1 := gRun.up k h k'
  have h2 := gRun.up k' h' k
  rw [show k' + k = k + k' by omega, h1] at h2
  injection h2
theorem gR.step {st : σ → σ ⊕ ρ} {c c' : σ} (hs : st c = .inl c') {r : ρ} : gR st c r ↔ gR st c' r := by
  constructor
  · rintro ⟨k, h⟩
    cases k with
    | zero => cases h
    | succ k =>
      unfold gRun at h
      rw [hs] at h
      exact ⟨k, h⟩
  · rintro ⟨k, h⟩
    refine ⟨k + 1, ?_⟩
    unfold gRun
    rw [hs]
    exact h
/-- the same is said from both -/
def gEq (st : σ → σ ⊕ ρ) (c c' : σ) : Prop := ∀ r, gR st c r ↔ gR st c' r
theorem gEq.refl {st : σ → σ ⊕ ρ} {c : σ} : gEq st c c := fun _ => Iff.rfl
theorem gEq.go {st : σ → σ ⊕ ρ} {c c1 c2 : σ} (h : gEq st c c1) (hs : st c1 = .inl c2) : gEq st c c2 := fun r => (h r).trans (gR.step hs)
theorem gEq.fin {st : σ → σ ⊕ ρ} {c c1 : σ} {r : ρ} (h : gEq st c c1) (hs : st c1 = .inr r) : gR st c r := (h r).mpr ⟨1, by
  unfold gRun
  rw [hs]⟩
end GR
/-! ===== acts: what is read ===== -/
abbrev aT : Type := Int × Int × Int × Int
def pAc (g : Nat → Int) (p : Nat) : Option (Nat × aT) :=
  if g p = 104 then pB (pRd g (p + 1) (-9999) 9999 44) fun q x => pB (pRd g q (-9999) 9999 44) fun q2 y => pB (pRd g q2 (-9999) 9999 59) fun q3 z => some (q3, 104, x, y, z)
  else if g p = 120 ∨ g p = 100 ∨ g p = 110 then pB (pRd g (p + 1) (-9999) 9999 59) fun q x => some (q, g p, x, 0, 0)
  else none
theorem pAc.h {g : Nat → Int} {p : Nat} (h : g p = 104) : pAc g p = pB (pRd g (p + 1) (-9999) 9999 44) fun q x => pB (pRd g q (-9999) 9999 44) fun q2 y => pB (pRd g q2 (-9999) 9999 59) fun q3 z => some (q3, 104, x, y, z) := if_pos h
theorem pAc.o {g : Nat → Int} {p : Nat} {L : Int} (h : g p = L) (q : L = 120 ∨ L = 100 ∨ L = 110) : pAc g p = pB (pRd g (p + 1) (-9999) 9999 59) fun q x => some (q, L, x, 0, 0) := by
  subst h
  unfold pAc
  rw [if_neg (by omega), if_pos q]
theorem pAc.no {g : Nat → Int} {p : Nat} (h : g p ≠ 104 ∧ g p ≠ 120 ∧ g p ≠ 100 ∧ g p ≠ 110) : pAc g p = none := by
  unfold pAc
  rw [if_neg h.1, if_neg (fun z => by omega)]
def uA (L : Nat → aT) (i : Nat) (A : aT) : Nat → aT := fun j => if j = i then A else L j
theorem uA.s {L : Nat → aT} {i : Nat} {A : aT} : uA L i A i = A := if_pos rfl
theorem uA.o {L : Nat → aT} {i j : Nat} {A : aT} (h : j ≠ i) : uA L i A j = L j := if_neg h
abbrev aC : Type := Nat × Nat × (Nat → aT)
abbrev aZ : Nat → aT := fun _ => (0, 0, 0, 0)
def aSt (g : Nat → Int) (n : Int) (c : aC) : aC ⊕ Option (Nat × (Nat → aT)) := if n ≤ (c.1 : Int) then .inr (some c.2) else if c.2.1 = 20 then .inr none else match pAc g c.1 with
  | none => .inr none
  | some r => .inl (r.1, c.2.1 + 1, uA c.2.2 c.2.1 r.2)
theorem aSt.go {g : Nat → Int} {n : Int} {p k q : Nat} {L : Nat → aT} {A : aT} (hp : (p : Int) < n) (hk : k ≠ 20) (e : pAc g p = some (q, A)) : aSt g n (p, k, L) = .inl (q, k + 1, uA L k A) := by
  unfold aSt
  rw [if_neg (show ¬ n ≤ (((p, k, L) : aC).1 : Int) by show ¬ n ≤ (p : Int); omega), if_neg hk]
  show (match pAc g p with | none => _ | some r => _) = _
  rw [e]
theorem aSt.no {g : Nat → Int} {n : Int} {p k : Nat} {L : Nat → aT} (hp : (p : Int) < n) (e : pAc g p = none) : aSt g n (p, k, L) = .inr none := by
  unfold aSt
  rw [if_neg (show ¬ n ≤ (((p, k, L) : aC).1 : Int) by show ¬ n ≤ (p : Int); omega)]
  show (if k = 20 then _ else match pAc g p with | none => _ | some r => _) = _
  rw [e]
  split <;> rfl
theorem aSt.full {g : Nat → Int} {n : Int} {p k : Nat} {L : Nat → aT} (hp : (p : Int) < n) (hk : k = 20) : aSt g n (p, k, L) = .inr none := by
  unfold aSt
  rw [if_neg (show ¬ n ≤ (((p, k, L) : aC).1 : Int) by show ¬ n ≤ (p : Int); omega), if_pos hk]
theorem aSt.end {g : Nat → Int} {n : Int} {p k : Nat} {L : Nat → aT} (hp : n ≤ (p : Int)) : aSt g n (p, k, L) = .inr (some (k, L)) := by
  unfold aSt
  rw [if_pos (show n ≤ (((p, k, L) : aC).1 : Int) from hp)]
/-! ===== acts: what is done ===== -/
def aDo (A : aT) (F : Nat → Int) : Option (Nat → Int) :=
  if A.1 = 104 then (if 0 ≤ A.2.1 ∧ A.2.1 < F 0 ∧ -9999 ≤ A.2.2.1 ∧ A.2.2.1 ≤ 9999 ∧ 0 ≤ A.2.2.2 ∧ A.2.2.2 ≤ 999 ∧ F 1 < 60 then some (pHit F A.2.1 A.2.2.1 A.2.2.2 (-2)) else none)
  else if A.1 = 120 then (if 0 ≤ A.2.1 ∧ A.2.1 < F 1 ∧ 0 ≤ F (32 + 4 * A.2.1.toNat) then some (uS F (32 + 4 * A.2.1.toNat) (-1)) else none)
  else if A.1 = 100 then (if 0 ≤ A.2.1 ∧ A.2.1 < F 0 then some (uS F (15 + 2 * A.2.1.toNat) (1 - F (15 + 2 * A.2.1.toNat))) else none)
  else if A.1 = 110 then (if 2 ≤ A.2.1 ∧ A.2.1 ≤ 8 then some (uS F 8 A.2.1) else none)
  else none
section AD
variable {F : Nat → Int} {L x y z : Int}
theorem aDo.hy (h : L = 104) (q : 0 ≤ x ∧ x < F 0 ∧ -9999 ≤ y ∧ y ≤ 9999 ∧ 0 ≤ z ∧ z ≤ 999 ∧ F 1 < 60) : aDo (L, x, y, z) F = some (pHit F x y z (-2)) := by
  unfold aDo
  rw [if_pos (show ((L, x, y, z) : aT).1 = 104 from h)]
  exact if_pos q
theorem aDo.hn (h : L = 104) (q : x < 0 ∨ F 0 ≤ x ∨ y < -9999 ∨ 9999 < y ∨ z < 0 ∨ 999 < z ∨ 60 ≤ F 1) : aDo (L, x, y, z) F = none := by
  unfold aDo
  rw [if_pos (show ((L, x, y, z) : aT).1 = 104 from h)]
  refine if_neg (fun w => ?_)
  have w : 0 ≤ x ∧ x < F 0 ∧ -9999 ≤ y ∧ y ≤ 9999 ∧ 0 ≤ z ∧ z ≤ 999 ∧ F 1 < 60 := w
  omega
theorem aDo.xy (h : L = 120) (q : 0 ≤ x ∧ x < F 1 ∧ 0 ≤ F (32 + 4 * x.toNat)) : aDo (L, x, y, z) F = some (uS F (32 + 4 * x.toNat) (-1)) := by
  unfold aDo
  rw [if_neg (show ¬ ((L, x, y, z) : aT).1 = 104 by show ¬ L = 104; omega), if_pos (show ((L, x, y, z) : aT).1 = 120 from h)]
  exact if_pos q
theorem aDo.xn (h : L = 120) (q : x < 0 ∨ F 1 ≤ x ∨ F (32 + 4 * x.toNat) < 0) : aDo (L, x, y, z) F = none := by
  unfold aDo
  rw [if_neg (show ¬ ((L, x, y, z) : aT).1 = 104 by show ¬ L = 104; omega), if_pos (show ((L, x, y, z) : aT).1 = 120 from h)]
  refine if_neg (fun w => ?_)
  have w : 0 ≤ x ∧ x < F 1 ∧ 0 ≤ F (32 + 4 * x.toNat) := w
  omega
theorem aDo.dy (h : L = 100) (q : 0 ≤ x ∧ x < F 0) : aDo (L, x, y, z) F = some (uS F (15 + 2 * x.toNat) (1 - F (15 + 2 * x.toNat))) := by
  unfold aDo
  rw [if_neg (show ¬ ((L, x, y, z) : aT).1 = 104 by show ¬ L = 104; omega), if_neg (show ¬ ((L, x, y, z) : aT).1 = 120 by show ¬ L = 120; omega), if_pos (show ((L, x, y, z) : aT).1 = 100 from h)]
  exact if_pos q
theorem aDo.dn (h : L = 100) (q : x < 0 ∨ F 0 ≤ x) : aDo (L, x, y, z) F = none := by
  unfold aDo
  rw [if_neg (show ¬ ((L, x, y, z) : aT).1 = 104 by show ¬ L = 104; omega), if_neg (show ¬ ((L, x, y, z) : aT).1 = 120 by show ¬ L = 120; omega), if_pos (show ((L, x, y, z) : aT).1 = 100 from h)]
  refine if_neg (fun w => ?_)
  have w : 0 ≤ x ∧ x < F 0 := w
  omega
theorem aDo.ny (h : L = 110) (q : 2 ≤ x ∧ x ≤ 8) : aDo (L, x, y, z) F = some (uS F 8 x) := by
  unfold aDo
  rw [if_neg (show ¬ ((L, x, y, z) : aT).1 = 104 by show ¬ L = 104; omega), if_neg (show ¬ ((L, x, y, z) : aT).1 = 120 by show ¬ L = 120; omega), if_neg (show ¬ ((L, x, y, z) : aT).1 = 100 by show ¬ L = 100; omega), if_pos (show ((L, x, y, z) : aT).1 = 110 from h)]
  exact if_pos q
theorem aDo.nn (h : L = 110) (q : x < 2 ∨ 8 < x) : aDo (L, x, y, z) F = none := by
  unfold aDo
  rw [if_neg (show ¬ ((L, x, y, z) : aT).1 = 104 by show ¬ L = 104; omega), if_neg (show ¬ ((L, x, y, z) : aT).1 = 120 by show ¬ L = 120; omega), if_neg (show ¬ ((L, x, y, z) : aT).1 = 100 by show ¬ L = 100; omega), if_pos (show ((L, x, y, z) : aT).1 = 110 from h)]
  refine if_neg (fun w => ?_)
  have w : 2 ≤ x ∧ x ≤ 8 := w
  omega
theorem aDo.no (h : L ≠ 104 ∧ L ≠ 120 ∧ L ≠ 100 ∧ L ≠ 110) : aDo (L, x, y, z) F = none := by
  unfold aDo
  rw [if_neg (show ¬ ((L, x, y, z) : aT).1 = 104 from h.1), if_neg (show ¬ ((L, x, y, z) : aT).1 = 120 from h.2.1), if_neg (show ¬ ((L, x, y, z) : aT).1 = 100 from h.2.2.1), if_neg (show ¬ ((L, x, y, z) : aT).1 = 110 from h.2.2.2)]
end AD
theorem zWF.al {F : Nat → Int} {i : Nat} {x : Int} (q : zWF F) (hi : i < 8) (h : x = 0 ∨ x = 1) : zWF (uS F (15 + 2 * i) x) := by
  obtain ⟨a, b, c, d, e⟩ := q
  have e0 : ∀ j : Nat, j < 15 ∨ 30 ≤ j → uS F (15 + 2 * i) x j = F j := fun j hj => uS.o (by omega)
  unfold zWF
  rw [e0 0 (by omega), e0 1 (by omega), e0 2 (by omega), e0 5 (by omega), e0 6 (by omega), e0 7 (by omega), e0 8 (by omega), e0 9 (by omega), e0 10 (by omega), e0 11 (by omega), e0 12 (by omega), e0 13 (by omega)]
  refine ⟨a, fun l hl => ?_, fun l hl => ?_, d, e⟩
  · have z := b l hl
    rw [uS.o (show 14 + 2 * l ≠ 15 + 2 * i by omega)]
    by_cases w : l = i
    · subst w
      rw [uS.s]
      exact ⟨z.1, z.2.1, h⟩
    · rw [uS.o (by omega)]
      exact z
  · rw [e0 _ (by omega), e0 _ (by omega), e0 _ (by omega)]
    exact c l hl
theorem zWF.nd {F : Nat → Int} {x : Int} (q : zWF F) (h : 2 ≤ x ∧ x ≤ 8) : zWF (uS F 8 x) := by
  have y := q.2.2.2.1
  have z := q.2.2.2.2
  have e : ∀ j, j ≠ 8 → uS F 8 x j = F j := fun j hj => uS.o hj
  refine q.of (fun j hj => e j (by omega)) ?_ ?_
  · rw [uS.s, e 5 (by omega), e 6 (by omega), e 7 (by omega)]
    exact ⟨y.1, y.2.1, y.2.2.1, y.2.2.2.1, y.2.2.2.2.1, y.2.2.2.2.2.1, h⟩
  · rw [e 9 (by omega), e 10 (by omega), e 11 (by omega), e 12 (by omega), e 13 (by omega)]
    exact z
theorem aDo.wf {F G : Nat → Int} {A : aT} (q : zWF F) (h : aDo A F = some G) : zWF G := by
  have a := q.1
  unfold aDo at h
  split at h
  · split at h
    · rename_i w
      rw [← Option.some.inj h]
      exact q.hit w.1 w.2.1 w.2.2.1 w.2.2.2.1 (by omega) w.2.2.2.2.2.1 w.2.2.2.2.2.2
    · cases h
  · split at h
    · split at h
      · rename_i w
        rw [← Option.some.inj h]
        exact q.time (by omega) (by omega) (by omega)
      · cases h
    · split at h
      · split at h
        · rename_i w
          rw [← Option.some.inj h]
          exact q.al (by omega) (by have z := (q.2.1 A.2.1.toNat (by omega)).2.2; omega)
        · cases h
      · split at h
        · split at h
          · rename_i w
            rw [← Option.some.inj h]
            exact q.nd w
          · cases h
        · cases h
/-- an act stands among those read -/
def zAt (M : zM) (i : Nat) (A : aT) : Prop := (zI M 159 i).toInt = A.1 ∧ (zI M 160 (4 * i)).toInt = A.2.1 ∧ (A.1 = 104 → (zI M 160 (4 * i + 1)).toInt = A.2.2.1 ∧ (zI M 160 (4 * i + 2)).toInt = A.2.2.2)
def zAl (M : zM) (k : Nat) (L : Nat → aT) : Prop := ∀ i, i < k → zAt M i (L i)
theorem zAl.fr {M M' : zM} {k : Nat} {L : Nat → aT} (h : zAl M k L) (e : zEq [(159, 160, none)] M M') : zAl M' k L := fun i hi => by
  have z := h i hi
  unfold zAt
  rw [e 159 i rfl, e 160 _ rfl, e 160 _ rfl, e 160 _ rfl]
  exact z
theorem zAl.z {M : zM} {L : Nat → aT} : zAl M 0 L := fun i hi => absurd hi (by omega)
theorem zAl.up {M N : zM} {k : Nat} {L : Nat → aT} {A : aT} (h : zAl M k L) (a : zAt N k A) (e1 : ∀ j : Nat, (j : Int) < (k : Int) → zI N 159 j = zI M 159 j) (e2 : ∀ j : Nat, (j : Int) < 4 * (k : Int) → zI N 160 j = zI M 160 j) : zAl N (k + 1) (uA L k A) := fun i hi => by
  by_cases w : i = k
  · subst w
    rw [uA.s]
    exact a
  · have z := h i (by omega)
    rw [uA.o w]
    unfold zAt
    rw [e1 i (by omega), e2 _ (by omega), e2 (4 * i + 1) (by omega), e2 (4 * i + 2) (by omega)]
    exact z
/-- acts one behind the other -/
abbrev dCf : Type := Nat × (Nat → Int) × (Nat → Nat → Int) × Int
def dSt (L : Nat → aT) (k : Nat) (c : dCf) : dCf ⊕ (Int × Int × (Nat → Int) × (Nat → Nat → Int) × Int) := if c.1 = k then .inr ((k : Int), -1, c.2) else match aDo (L c.1) c.2.1 with
  | none => .inr ((c.1 : Int), (c.1 : Int), c.2)
  | some G => .inl (c.1 + 1, G, pushH c.2.1 c.2.2.1, nP c.2.2.2)
theorem dSt.end {L : Nat → aT} {k i : Nat} {F : Nat → Int} {H : Nat → Nat → Int} {n : Int} (h : i = k) : dSt L k (i, F, H, n) = .inr ((k : Int), -1, F, H, n) := if_pos h
theorem dSt.no {L : Nat → aT} {k i : Nat} {F : Nat → Int} {H : Nat → Nat → Int} {n : Int} (h : i ≠ k) (e : aDo (L i) F = none) : dSt L k (i, F, H, n) = .inr ((i : Int), (i : Int), F, H, n) := by
  unfold dSt
  rw [if_neg (show ¬ ((i, F, H, n) : dCf).1 = k from h)]
  show (match aDo (L i) F with | none => _ | some G => _) = _
  rw [e]
theorem dSt.go {L : Nat → aT} {k i : Nat} {F G : Nat → Int} {H : Nat → Nat → Int} {n : Int} (h : i ≠ k) (e : aDo (L i) F = some G) : dSt L k (i, F, H, n) = .inl (i + 1, G, pushH F H, nP n) := by
  unfold dSt
  rw [if_neg (show ¬ ((i, F, H, n) : dCf).1 = k from h)]
  show (match aDo (L i) F with | none => _ | some G => _) = _
  rw [e]
theorem pct.nn {P : Nat → Bool} : ∀ n : Nat, 0 ≤ pct P n
  | 0 => Int.le_refl 0
  | n + 1 => by
    have z := pct.nn (P := P) n
    show 0 ≤ pct P n + (if P n = true then 1 else 0)
    split <;> omega
