theorem pDg.z {g : Nat → Int} {k p : Nat} (h : ¬ (48 ≤ g p ∧ g p ≤ 57)) : pDg g k p = p := by
  cases k with
  | zero => rfl
  | succ k => exact pDg.n h
/-! ===== the model's reading of a trigger along the automaton ===== -/
def zTm (M : zM) (g : Nat → Int) (n : Int) : Prop := zsy (zI M 339) (zI M 336 5).toInt = g ∧ (zI M 336 5).toInt = n
theorem zTm.mk {M M' : zM} {g : Nat → Int} {n : Int} (h : zTm M g n) (e1 : ∀ j, zI M' 339 j = zI M 339 j) (e2 : zI M' 336 5 = zI M 336 5) : zTm M' g n := by
  obtain ⟨h2, h3⟩ := h
  refine ⟨?_, by rw [e2]; exact h3⟩
  rw [e2, show zI M' 339 = zI M 339 from funext e1]
  exact h2
theorem zTm.rg {M : zM} {g : Nat → Int} {n : Int} (h : zTm M g n) (p : Nat) : -1 ≤ g p ∧ g p ≤ 255 ∧ (g p < 0 ∨ (p : Int) < n) := by
  rw [← h.1, ← h.2]
  exact zsy.rg
theorem zhere.tr {M : zM} {g : Nat → Int} {n : Int} {p : Nat} (h : zTm M g n) (hp : (zI M 336 6).toInt = (p : Int)) : (zhere M).toInt = g p := by
  rw [← h.1]
  unfold zhere zsy
  by_cases q : (p : Int) < (zI M 336 5).toInt
  · rw [if_pos (by omega), if_pos q, show (zI M 336 6).toInt.toNat = p by omega]
  · rw [if_neg (by omega), if_neg q]
    decide
def zocm (N : zM) (v n : Int) (o : pO) : Prop := (v = 0 ∧ o = .inl (zI N 336 7).toInt) ∨ (v ≠ 0 ∧ (zI N 336 7).toInt = -1 ∧ ∃ (p : Nat) (t : Int), o = .inr (p, t) ∧ (zI N 336 6).toInt = (p : Int) ∧ (zI N 336 13).toInt = t ∧ (p : Int) ≤ n)
/-- what waits without & and |, the latest first -/
def zwl (f : Nat → Int32) : Nat → List Int
  | 0 => []
  | k + 1 => if (f k).toInt = 38 ∨ (f k).toInt = 124 then zwl f k else (f k).toInt :: zwl f k
theorem zwl.b {f : Nat → Int32} {k : Nat} (h : (f k).toInt = 38 ∨ (f k).toInt = 124) : zwl f (k + 1) = zwl f k := if_pos h
theorem zwl.n {f : Nat → Int32} {k : Nat} (h : (f k).toInt ≠ 38 ∧ (f k).toInt ≠ 124) : zwl f (k + 1) = (f k).toInt :: zwl f k := if_neg (fun q => q.elim h.1 h.2)
theorem zwl.cg {f f' : Nat → Int32} : ∀ k : Nat, (∀ i, i < k → f' i = f i) → zwl f' k = zwl f k
  | 0, _ => rfl
  | k + 1, e => by
    have h := zwl.cg k (fun i hi => e i (by omega))
    show (if (f' k).toInt = 38 ∨ (f' k).toInt = 124 then zwl f' k else (f' k).toInt :: zwl f' k) = (if (f k).toInt = 38 ∨ (f k).toInt = 124 then zwl f k else (f k).toInt :: zwl f k)
    rw [e k (by omega), h]
theorem zwl.len {f : Nat → Int32} : ∀ k : Nat, ((zwl f k).length : Int) = znest f k
  | 0 => rfl
  | k + 1 => by
    have h := zwl.len (f := f) k
    by_cases q : (f k).toInt = 38 ∨ (f k).toInt = 124
    · rw [zwl.b q, znest.b q]
      exact h
    · have q' : (f k).toInt ≠ 38 ∧ (f k).toInt ≠ 124 := ⟨fun z => q (Or.inl z), fun z => q (Or.inr z)⟩
      rw [zwl.n q', znest.n q', List.length_cons]
      omega
def zwf (f : Nat → Int32) (k : Nat) : Prop := ∀ i, i < k → (f i).toInt = 33 ∨ (f i).toInt = 40 ∨ (((f i).toInt = 38 ∨ (f i).toInt = 124) ∧ ∀ i', i' + 1 = i → (f i').toInt ≠ 33)
theorem zwf.cg {f f' : Nat → Int32} {k : Nat} (h : zwf f k) (e : ∀ i, i < k → f' i = f i) : zwf f' k := by
  intro i hi
  rw [e i hi]
  rcases h i hi with q | q | ⟨q, q'⟩
  · exact Or.inl q
  · exact Or.inr (Or.inl q)
  · exact Or.inr (Or.inr ⟨q, fun i' hi' => by rw [e i' (by omega)]; exact q' i' hi'⟩)
theorem zwf.le {f : Nat → Int32} {k k' : Nat} (h : zwf f k) (hk : k' ≤ k) : zwf f k' := fun i hi => h i (by omega)
theorem zwl.hd {f : Nat → Int32} : ∀ k : Nat, zwf f k → (∀ i, i + 1 = k → (f i).toInt ≠ 33) → (zwl f k).head? ≠ some 33
  | 0, _, _ => by
    show (none : Option Int) ≠ some 33
    decide
  | k + 1, h, ht => by
    by_cases q : (f k).toInt = 38 ∨ (f k).toInt = 124
    · rw [zwl.b q]
      refine zwl.hd k (h.le (by omega)) ?_
      rcases h k (by omega) with z | z | ⟨_, z⟩
      · omega
      · omega
      · exact z
    · rw [zwl.n ⟨fun z => q (Or.inl z), fun z => q (Or.inr z)⟩]
      show some (f k).toInt ≠ some 33
      intro z
      exact ht k rfl (Option.some.inj z)
abbrev dX : zW := [(336, 336, some 6), (336, 336, some 12), (336, 336, some 13), (341, 341, none)]
/-- along the automaton: 1 ahead of a test, 2 behind it, 3 behind all its !, 0 where nothing goes on -/
def zXm (M : zM) (k : Int) (g : Nat → Int) (n : Int) (c : pC) : Prop := ∃ p : Nat, (zI M 336 6).toInt = (p : Int) ∧ (p : Int) ≤ n ∧ zwf (zI M 341) (zI M 336 12).toInt.toNat ∧ pE g n c (decide (k = 1), zwl (zI M 341) (zI M 336 12).toInt.toNat, p, (zI M 336 13).toInt) ∧ (k ≠ 1 → k ≠ 2 → (zwl (zI M 341) (zI M 336 12).toInt.toNat).head? ≠ some 33) ∧ (k = 0 → ¬ (g p = 41 ∧ zwl (zI M 341) (zI M 336 12).toInt.toNat ≠ []) ∧ ¬ (g p = 38 ∨ g p = 124))
theorem zXm.fr {M M' : zM} {k : Int} {g : Nat → Int} {n : Int} {c : pC} (h : zXm M k g n c) (e : zEq dX M M') : zXm M' k g n c := by
  unfold zXm
  rw [e 336 6 rfl, e 336 12 rfl, e 336 13 rfl, show zI M' 341 = zI M 341 from funext fun j => e 341 j rfl]
  exact h
theorem zXm.cast {M : zM} {a b : Int} {g : Nat → Int} {n : Int} {c : pC} (h : zXm M a g n c) (e : a = b) : zXm M b g n c := e ▸ h
theorem zXm.zero {M : zM} {g : Nat → Int} {n : Int} (ha : (zI M 336 6).toInt = 0) (hw : (zI M 336 12).toInt = 0) (ht : (zI M 336 13).toInt = 0) (hn : 0 ≤ n) : zXm M 1 g n (true, [], 0, 0) := by
  refine ⟨0, by omega, by omega, ?_, ?_, fun q => absurd rfl q, fun q => absurd q (by decide)⟩
  · rw [hw]
    exact fun i hi => absurd hi (Nat.not_lt_zero i)
  · rw [hw, ht]
    exact pE.refl
theorem zXm.push {M M' : zM} {g : Nat → Int} {n : Int} {c : pC} {w p : Nat} (h : zXm M 1 g n c) (hN : zGn M) (h6 : (zI M 336 14).toInt < 6) (hw : (zI M 336 12).toInt = (w : Int)) (hp : (zI M 336 6).toInt = (p : Int)) (hc : g p = 33 ∨ g p = 40) (e : ∀ j, j ≠ w → zI M' 341 j = zI M 341 j) (ev : (zI M' 341 w).toInt = g p) (ew : (zI M' 336 12).toInt = (w : Int) + 1) (ea : (zI M' 336 6).toInt = (p : Int) + 1) (et : (zI M' 336 13).toInt = (zI M 336 13).toInt) (hn : (p : Int) + 1 ≤ n) : zXm M' 1 g n c := by
  obtain ⟨q, q1, q2, q3, q4, _, _⟩ := h
  have eq : q = p := by omega
  subst eq
  have hN : znest (zI M 341) (zI M 336 12).toInt.toNat = (zI M 336 14).toInt := hN
  rw [show (zI M 336 12).toInt.toNat = w by omega] at q3 q4 hN
  have hl := zwl.len (f := zI M 341) w
  have e1 : zwl (zI M' 341) (w + 1) = g q :: zwl (zI M 341) w := by
    rw [zwl.n (by omega), ev, zwl.cg w (fun i hi => e i (by omega))]
  refine ⟨q + 1, by omega, by omega, ?_, ?_, fun z => absurd rfl z, fun z => absurd z (by decide)⟩
  · rw [show (zI M' 336 12).toInt.toNat = w + 1 by omega]
    intro i hi
    by_cases z : i = w
    · subst z
      rw [ev]
      omega
    · exact (q3.cg (fun j hj => e j (by omega))) i (by omega)
  · rw [show (zI M' 336 12).toInt.toNat = w + 1 by omega, e1, et]
    exact q4.trans (pE.opn hc (by omega))
theorem zXm.cm {M M' : zM} {g : Nat → Int} {n : Int} {c : pC} {p p' : Nat} {t' : Int} (h : zXm M 1 g n c) (hp : (zI M 336 6).toInt = (p : Int)) (hc : ¬ (g p = 33 ∨ g p = 40)) (q : pCm g (p, (zI M 336 13).toInt) = .inr (p', t')) (e : ∀ j, zI M' 341 j = zI M 341 j) (ew : zI M' 336 12 = zI M 336 12) (ea : (zI M' 336 6).toInt = (p' : Int)) (et : (zI M' 336 13).toInt = t') (hn : (p' : Int) ≤ n) : zXm M' 2 g n c := by
  obtain ⟨r, q1, q2, q3, q4, _, _⟩ := h
  have eq : r = p := by omega
  subst eq
  refine ⟨p', ea, hn, ?_, ?_, fun _ z => absurd rfl z, fun z => absurd z (by decide)⟩
  · rw [ew]
    exact q3.cg (fun j _ => e j)
  · rw [ew, et, show zI M' 341 = zI M 341 from funext e]
    exact q4.trans (pE.cm hc q)
theorem zXm.cmf {M : zM} {g : Nat → Int} {n e : Int} {c : pC} {p : Nat} (h : zXm M 1 g n c) (hp : (zI M 336 6).toInt = (p : Int)) (hc : ¬ (g p = 33 ∨ g p = 40)) (q : pCm g (p, (zI M 336 13).toInt) = .inl e) : pR g n c (.inl e) := by
  obtain ⟨r, q1, q2, q3, q4, _, _⟩ := h
  have eq : r = p := by omega
  subst eq
  exact pR.of q4 (pR.cm hc q)
theorem zXm.deep {M : zM} {g : Nat → Int} {n : Int} {c : pC} {p : Nat} (h : zXm M 1 g n c) (hN : zGn M) (h6 : 6 ≤ (zI M 336 14).toInt) (hp : (zI M 336 6).toInt = (p : Int)) (hc : g p = 33 ∨ g p = 40) : pR g n c (.inl (p : Int)) := by
  obtain ⟨r, q1, q2, q3, q4, _, _⟩ := h
  have eq : r = p := by omega
  subst eq
  have hN : znest (zI M 341) (zI M 336 12).toInt.toNat = (zI M 336 14).toInt := hN
  have hl := zwl.len (f := zI M 341) (zI M 336 12).toInt.toNat
  exact pR.of q4 (pR.deep hc (by omega))
theorem zXm.neg {M M' : zM} {g : Nat → Int} {n : Int} {c : pC} {w : Nat} (h : zXm M 2 g n c) (hw : (zI M 336 12).toInt = (w : Int) + 1) (ht : (zI M 341 w).toInt = 33) (e : ∀ j, zI M' 341 j = zI M 341 j) (ew : (zI M' 336 12).toInt = (w : Int)) (ea : zI M' 336 6 = zI M 336 6) (et : zI M' 336 13 = zI M 336 13) : zXm M' 2 g n c := by
  obtain ⟨p, q1, q2, q3, q4, _, _⟩ := h
  rw [show (zI M 336 12).toInt.toNat = w + 1 by omega] at q3 q4
  rw [zwl.n (by omega), ht] at q4
  refine ⟨p, by rw [ea]; exact q1, q2, ?_, ?_, fun _ z => absurd rfl z, fun z => absurd z (by decide)⟩
  · rw [show (zI M' 336 12).toInt.toNat = w by omega]
    exact (q3.le (by omega)).cg (fun j _ => e j)
  · rw [show (zI M' 336 12).toInt.toNat = w by omega, et, show zI M' 341 = zI M 341 from funext e]
    exact q4.trans pE.neg
theorem zXm.done {M : zM} {g : Nat → Int} {n : Int} {c : pC} (h : zXm M 2 g n c) (ht : ∀ w : Nat, (w : Int) + 1 = (zI M 336 12).toInt → (zI M 341 w).toInt ≠ 33) : zXm M 3 g n c := by
  obtain ⟨p, q1, q2, q3, q4, _, _⟩ := h
  exact ⟨p, q1, q2, q3, q4, fun _ _ => zwl.hd _ q3 (fun i hi => ht i (by omega)), fun z => absurd z (by decide)⟩
theorem zXm.popb {M M' : zM} {k : Int} {g : Nat → Int} {n : Int} {c : pC} {w : Nat} (h : zXm M k g n c) (hw : (zI M 336 12).toInt = (w : Int) + 1) (ht : (zI M 341 w).toInt = 38 ∨ (zI M 341 w).toInt = 124) (e : ∀ j, zI M' 341 j = zI M 341 j) (ew : (zI M' 336 12).toInt = (w : Int)) (ea : zI M' 336 6 = zI M 336 6) (et : zI M' 336 13 = zI M 336 13) : zXm M' k g n c := by
  unfold zXm at h ⊢
  rw [show (zI M 336 12).toInt.toNat = w + 1 by omega, zwl.b ht] at h
  rw [show (zI M' 336 12).toInt.toNat = w by omega, ea, et, show zI M' 341 = zI M 341 from funext e]
  obtain ⟨p, q1, q2, q3, q4⟩ := h
  exact ⟨p, q1, q2, q3.le (by omega), q4⟩
theorem zXm.close {M M' : zM} {g : Nat → Int} {n : Int} {c : pC} {w p : Nat} (h : zXm M 3 g n c) (hw : (zI M 336 12).toInt = (w : Int) + 1) (ht : (zI M 341 w).toInt ≠ 38 ∧ (zI M 341 w).toInt ≠ 124) (e : ∀ j, zI M' 341 j = zI M 341 j) (ew : (zI M' 336 12).toInt = (w : Int)) (hp : (zI M 336 6).toInt = (p : Int)) (hc : g p = 41) (ea : (zI M' 336 6).toInt = (p : Int) + 1) (et : (zI M' 336 13).toInt = (zI M 336 13).toInt) (hn : (p : Int) + 1 ≤ n) : zXm M' 2 g n c := by
  obtain ⟨r, q1, q2, q3, q4, q5, _⟩ := h
  have eq : r = p := by omega
  subst eq
  rw [show (zI M 336 12).toInt.toNat = w + 1 by omega] at q3 q4 q5
  have h5 := q5 (by decide) (by decide)
  rw [zwl.n ht] at q4 h5
  have h33 : (zI M 341 w).toInt ≠ 33 := fun z => h5 (by show some (zI M 341 w).toInt = some 33; rw [z])
  have h40 : (zI M 341 w).toInt = 40 := by
    rcases q3 w (by omega) with z | z | ⟨z, _⟩ <;> omega
  rw [h40] at q4
  refine ⟨r + 1, by omega, by omega, ?_, ?_, fun _ z => absurd rfl z, fun z => absurd z (by decide)⟩
  · rw [show (zI M' 336 12).toInt.toNat = w by omega]
    exact (q3.le (by omega)).cg (fun j _ => e j)
  · rw [show (zI M' 336 12).toInt.toNat = w by omega, et, show zI M' 341 = zI M 341 from funext e]
    exact q4.trans (pE.close hc)
theorem zXm.bin {M M' : zM} {g : Nat → Int} {n : Int} {c : pC} {w p : Nat} (h : zXm M 3 g n c) (hw : (zI M 336 12).toInt = (w : Int)) (hp : (zI M 336 6).toInt = (p : Int)) (hc : g p = 38 ∨ g p = 124) (e : ∀ j, j ≠ w → zI M' 341 j = zI M 341 j) (ev : (zI M' 341 w).toInt = g p) (ew : (zI M' 336 12).toInt = (w : Int) + 1) (ea : (zI M' 336 6).toInt = (p : Int) + 1) (et : (zI M' 336 13).toInt = (zI M 336 13).toInt) (hn : (p : Int) + 1 ≤ n) : zXm M' 1 g n c := by
  obtain ⟨r, q1, q2, q3, q4, q5, _⟩ := h
  have eq : r = p := by omega
  subst eq
  rw [show (zI M 336 12).toInt.toNat = w by omega] at q3 q4 q5
  have h5 := q5 (by decide) (by decide)
  have e1 : zwl (zI M' 341) (w + 1) = zwl (zI M 341) w := by
    rw [zwl.b (by omega), zwl.cg w (fun i hi => e i (by omega))]
  refine ⟨r + 1, by omega, by omega, ?_, ?_, fun z => absurd rfl z, fun z => absurd z (by decide)⟩
  · rw [show (zI M' 336 12).toInt.toNat = w + 1 by omega]
    intro i hi
    by_cases z : i = w
    · subst z
      refine Or.inr (Or.inr ⟨by omega, fun i' hi' z' => ?_⟩)
      rw [e i' (by omega)] at z'
      apply h5
      rw [show i = i' + 1 by omega, zwl.n (by omega)]
      show some (zI M 341 i').toInt = some 33
      rw [z']
    · exact (q3.cg (fun j hj => e j (by omega))) i (by omega)
  · rw [show (zI M' 336 12).toInt.toNat = w + 1 by omega, e1, et]
    exact q4.trans (pE.bin h5 hc)
theorem zXm.stop {M : zM} {g : Nat → Int} {n : Int} {c : pC} {p : Nat} (h : zXm M 3 g n c) (hN : zGn M) (hp : (zI M 336 6).toInt = (p : Int)) (h1 : g p ≠ 41 ∨ (zI M 336 14).toInt ≤ 0) (h2 : ¬ (g p = 38 ∨ g p = 124)) : zXm M 0 g n c := by
  obtain ⟨r, q1, q2, q3, q4, q5, _⟩ := h
  have eq : r = p := by omega
  subst eq
  have hN : znest (zI M 341) (zI M 336 12).toInt.toNat = (zI M 336 14).toInt := hN
  have hl := zwl.len (f := zI M 341) (zI M 336 12).toInt.toNat
  refine ⟨r, q1, q2, q3, q4, fun _ _ => q5 (by decide) (by decide), fun _ => ⟨fun z => ?_, h2⟩⟩
  rcases h1 with h1 | h1
  · exact h1 z.1
  · exact z.2 (List.eq_nil_of_length_eq_zero (by omega))
theorem zXm.end {M : zM} {g : Nat → Int} {n : Int} {c : pC} {p : Nat} (h : zXm M 0 g n c) (hN : zGn M) (hp : (zI M 336 6).toInt = (p : Int)) : pR g n c (if (zI M 336 14).toInt = 0 ∧ (p : Int) = n then .inr (zI M 336 13).toInt else .inl (p : Int)) := by
  obtain ⟨r, q1, q2, q3, q4, q5, q6⟩ := h
  have eq : r = p := by omega
  subst eq
  have hN : znest (zI M 341) (zI M 336 12).toInt.toNat = (zI M 336 14).toInt := hN
  have hl := zwl.len (f := zI M 341) (zI M 336 12).toInt.toNat
  have q7 := q6 rfl
  have z := pR.of q4 (pR.last (g := g) (n := n) (t := (zI M 336 13).toInt) (q5 (by decide) (by decide)) q7.1 q7.2)
  by_cases y : (zI M 336 14).toInt = 0 ∧ (r : Int) = n
  · rw [if_pos ⟨List.eq_nil_of_length_eq_zero (by omega), y.2⟩] at z
    rw [if_pos y]
    exact z
  · rw [if_neg (fun x => y ⟨by rw [x.1] at hl; have : (([] : List Int).length : Int) = 0 := rfl; omega, x.2⟩)] at z
    rw [if_neg y]
    exact z
/-- how a test, a condition came out -/
def zo6 (N : zM) (v n : Int) (g : Nat → Int) (c : pC) : Prop := (v = 0 ∧ pR g n c (.inl (zI N 336 7).toInt)) ∨ (v ≠ 0 ∧ (zI N 336 7).toInt = -1 ∧ zXm N 3 g n c ∧ ∀ p : Nat, (zI N 336 6).toInt = (p : Int) → g p ≠ 41 ∨ (zI N 336 14).toInt ≤ 0)
def zo5 (N : zM) (v n : Int) (g : Nat → Int) (c : pC) : Prop := (v = 0 ∧ pR g n c (.inl (zI N 336 7).toInt)) ∨ (v ≠ 0 ∧ (zI N 336 7).toInt = -1 ∧ pR g n c (.inr (zI N 336 13).toInt))
theorem zo6.f {N : zM} {v n e : Int} {g : Nat → Int} {c : pC} (hv : v = 0) (he : (zI N 336 7).toInt = e) (h : pR g n c (.inl e)) : zo6 N v n g c := Or.inl ⟨hv, by rw [he]; exact h⟩
theorem zo5.f {N : zM} {v n e : Int} {g : Nat → Int} {c : pC} (hv : v = 0) (he : (zI N 336 7).toInt = e) (h : pR g n c (.inl e)) : zo5 N v n g c := Or.inl ⟨hv, by rw [he]; exact h⟩
theorem zocm.f {N : zM} {v n e : Int} {o : pO} (hv : v = 0) (he : (zI N 336 7).toInt = e) (h : o = .inl e) : zocm N v n o := Or.inl ⟨hv, by rw [he]; exact h⟩
theorem zo5.y {M N : zM} {v n : Int} {g : Nat → Int} {c : pC} {p : Nat} (h : zXm M 0 g n c) (hN : zGn M) (hp : (zI M 336 6).toInt = (p : Int)) (h1 : (zI M 336 14).toInt = 0) (h2 : (p : Int) = n) (hv : v ≠ 0) (et : (zI N 336 13).toInt = (zI M 336 13).toInt) (h7 : (zI N 336 7).toInt = -1) : zo5 N v n g c := by
  have z := h.end hN hp
  rw [if_pos ⟨h1, h2⟩] at z
  rw [← et] at z
  exact Or.inr ⟨hv, h7, z⟩
theorem zo5.n {M N : zM} {v n : Int} {g : Nat → Int} {c : pC} {p : Nat} (h : zXm M 0 g n c) (hN : zGn M) (hp : (zI M 336 6).toInt = (p : Int)) (h1 : (zI M 336 14).toInt ≠ 0 ∨ (p : Int) ≠ n) (hv : v = 0) (h7 : (zI N 336 7).toInt = (p : Int)) : zo5 N v n g c := by
  have z := h.end hN hp
  rw [if_neg (by omega)] at z
  exact zo5.f hv h7 z
theorem zTg5.my {N : zM} {f : Nat → Int32} {v n r e : Int} (h : zo5 N v n (zsy f n) (true, [], 0, 0)) (hn : 0 < n) (hv : v ≠ 0) (hr : r = (zI N 336 13).toInt) (he : e = -1) : zTg5 f n r e := by
  rcases h with ⟨h1, _⟩ | ⟨_, _, h2⟩
  · exact absurd h1 hv
  · exact Or.inr ⟨hn, Or.inr ⟨by rw [hr]; exact h2, he⟩⟩
theorem zTg5.mn {N : zM} {f : Nat → Int32} {v n r e : Int} (h : zo5 N v n (zsy f n) (true, [], 0, 0)) (hn : 0 < n) (hv : v = 0) (hr : r = -1) (he : e = (zI N 336 7).toInt) : zTg5 f n r e := by
  rcases h with ⟨_, h2⟩ | ⟨h1, _⟩
  · exact Or.inr ⟨hn, Or.inl ⟨by rw [he]; exact h2, hr⟩⟩
  · exact absurd hv h1
