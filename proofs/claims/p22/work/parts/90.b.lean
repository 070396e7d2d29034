/-! ===== the whole state on both sides ===== -/
abbrev zEw : Type := Int × zWt
abbrev zQ : Type := (Nat → Int) × (Nat → Nat → Int) × Int × (Nat → Nat → Int) × (Nat → Int) × Int × zEw
theorem zSm_n {k : Nat} (h : k < 336) : zSm k = false := by
  cases hz : zSm k with
  | false => rfl
  | true =>
    unfold zSm at hz
    rw [Bool.and_eq_true, Nat.ble_eq, Nat.ble_eq] at hz
    omega
theorem zSc_y {k : Nat} (h : 6 ≤ k) (h2 : k ≤ 335) : zSc k = true := by
  unfold zSc
  rw [Nat.ble_eq_true_of_le h, Nat.ble_eq_true_of_le h2]
  rfl
/-- the class's half -/
def zHc (M : zM) (s : zQ) (f : Nat → Int32) : Prop := zSC M s.1 s.2.1 s.2.2.1 s.2.2.2.1 s.2.2.2.2.1 ∧ (zI M 155 1).toInt = s.2.2.2.2.2.1 ∧ zI M 156 = f ∧ (zI M 6 12).toInt = s.2.2.2.2.2.2.1 ∧ zWr M 6 10 335 s.2.2.2.2.2.2.2
/-- the model's -/
def zHm (M : zM) (s : zQ) (f : Nat → Int32) : Prop := zSM M s.1 s.2.1 s.2.2.1 s.2.2.2.1 s.2.2.2.2.1 ∧ (zI M 336 5).toInt = s.2.2.2.2.2.1 ∧ zI M 339 = f ∧ (zI M 336 48).toInt = s.2.2.2.2.2.2.1 ∧ zWr M 336 50 363 s.2.2.2.2.2.2.2
theorem zSM.fr {M M' : zM} {F : Nat → Int} {H : Nat → Nat → Int} {n : Int} {K : Nat → Nat → Int} {T : Nat → Int} (h : zSM M F H n K T) (e : ∀ j, zI M' 337 j = zI M 337 j) (e1 : zI M' 336 1 = zI M 336 1) (e8 : ∀ j, zI M' 338 j = zI M 338 j) : zSM M' F H n K T :=
  ⟨h.1.frA e, h.2.1.fr (fun j _ => e j) e1, h.2.2.fr (fun j _ => e j) e8⟩
theorem zHc.cell {M M' : zM} {s : zQ} {f : Nat → Int32} (h : zHc M s f) (e : ∀ k, k < 336 → 6 ≤ k → zI M' k = zI M k) : zHc M' s f := by
  obtain ⟨h1, h2, h3, h4, h5⟩ := h
  refine ⟨h1.fr (fun k j hk => ?_), ?_, (e 156 (by decide) (by decide)).trans h3, ?_, h5.fr (congrFun (e 6 (by decide) (by decide)) 10) (fun i => congrFun (e 335 (by decide) (by decide)) i)⟩
  · have q := zinR2 hk
    rw [e k (by omega) (by omega)]
  · rw [e 155 (by decide) (by decide)]
    exact h2
  · rw [e 6 (by decide) (by decide)]
    exact h4
theorem zHm.cell {M M' : zM} {s : zQ} {f : Nat → Int32} (h : zHm M s f) (e : ∀ k, (336 ≤ k ∧ k ≤ 339) ∨ k = 363 → zI M' k = zI M k) : zHm M' s f := by
  obtain ⟨h1, h2, h3, h4, h5⟩ := h
  refine ⟨h1.fr (fun j => congrFun (e 337 (by decide)) j) (congrFun (e 336 (by decide)) 1) (fun j => congrFun (e 338 (by decide)) j), ?_, (e 339 (by decide)).trans h3, ?_, h5.fr (congrFun (e 336 (by decide)) 50) (fun i => congrFun (e 363 (by decide)) i)⟩
  · rw [e 336 (by decide)]
    exact h2
  · rw [e 336 (by decide)]
    exact h4
/-- nothing of it is written -/
theorem zHc.fr {M M' : zM} {s : zQ} {f : Nat → Int32} (h : zHc M s f) (e : zEq [(6, 6, some 12), (6, 6, some 10), (335, 335, none), (7, 18, none), (31, 154, none), (155, 155, some 1), (156, 156, none)] M M') : zHc M' s f := by
  obtain ⟨h1, h2, h3, h4, h5⟩ := h
  refine ⟨h1.fr (fun k j hk => e k j ?_), ?_, (funext fun j => e 156 j rfl).trans h3, ?_, h5.fr (e 6 10 rfl) (fun i => e 335 i rfl)⟩
  · have q := zinR2 hk
    rcases q with q | q
    · exact zinW_r (lo := 7) (hi := 18) (by simp) q.1 q.2
    · exact zinW_r (lo := 31) (hi := 154) (by simp) q.1 q.2
  · rw [e 155 1 rfl]
    exact h2
  · rw [e 6 12 rfl]
    exact h4
theorem zHm.fr {M M' : zM} {s : zQ} {f : Nat → Int32} (h : zHm M s f) (e : zEq [(336, 336, some 1), (336, 336, some 5), (336, 336, some 48), (336, 336, some 50), (363, 363, none), (337, 337, none), (338, 338, none), (339, 339, none)] M M') : zHm M' s f := by
  obtain ⟨h1, h2, h3, h4, h5⟩ := h
  refine ⟨h1.fr (fun j => e 337 j rfl) (e 336 1 rfl) (fun j => e 338 j rfl), ?_, (funext fun j => e 339 j rfl).trans h3, ?_, h5.fr (e 336 50 rfl) (fun i => e 363 i rfl)⟩
  · rw [e 336 5 rfl]
    exact h2
  · rw [e 336 48 rfl]
    exact h4
/-- a deed: the tape and what ended stand -/
theorem zHc.mk {M M' : zM} {F F' : Nat → Int} {H H' : Nat → Nat → Int} {n n' : Int} {K K' : Nat → Nat → Int} {T T' : Nat → Int} {L : Int} {e : zEw} {f : Nat → Int32} (h : zHc M (F, H, n, K, T, L, e) f) (c : zSC M' F' H' n' K' T') (q : zEq [(6, 6, some 10), (335, 335, none), (6, 6, some 12), (155, 155, some 1), (156, 156, none)] M M') : zHc M' (F', H', n', K', T', L, e) f := by
  refine ⟨c, ?_, (funext fun j => q 156 j rfl).trans h.2.2.1, ?_, h.2.2.2.2.fr (q 6 10 rfl) (fun i => q 335 i rfl)⟩
  · rw [q 155 1 rfl]
    exact h.2.1
  · rw [q 6 12 rfl]
    exact h.2.2.2.1
theorem zHm.mk {M M' : zM} {F F' : Nat → Int} {H H' : Nat → Nat → Int} {n n' : Int} {K K' : Nat → Nat → Int} {T T' : Nat → Int} {L : Int} {e : zEw} {f : Nat → Int32} (h : zHm M (F, H, n, K, T, L, e) f) (c : zSM M' F' H' n' K' T') (q : zEq [(336, 336, some 5), (336, 336, some 48), (336, 336, some 50), (363, 363, none), (339, 339, none)] M M') : zHm M' (F', H', n', K', T', L, e) f := by
  refine ⟨c, ?_, (funext fun j => q 339 j rfl).trans h.2.2.1, ?_, h.2.2.2.2.fr (q 336 50 rfl) (fun i => q 363 i rfl)⟩
  · rw [q 336 5 rfl]
    exact h.2.1
  · rw [q 336 48 rfl]
    exact h.2.2.2.1
/-- the tape has another length -/
theorem zHc.mkL {M M' : zM} {F F' : Nat → Int} {H H' : Nat → Nat → Int} {n n' : Int} {K K' : Nat → Nat → Int} {T T' : Nat → Int} {L L' : Int} {e : zEw} {f : Nat → Int32} (h : zHc M (F, H, n, K, T, L, e) f) (c : zSC M' F' H' n' K' T') (hl : (zI M' 155 1).toInt = L') (q : zEq [(6, 6, some 10), (335, 335, none), (6, 6, some 12), (156, 156, none)] M M') : zHc M' (F', H', n', K', T', L', e) f := by
  refine ⟨c, hl, (funext fun j => q 156 j rfl).trans h.2.2.1, ?_, h.2.2.2.2.fr (q 6 10 rfl) (fun i => q 335 i rfl)⟩
  rw [q 6 12 rfl]
  exact h.2.2.2.1
theorem zHm.mkL {M M' : zM} {F F' : Nat → Int} {H H' : Nat → Nat → Int} {n n' : Int} {K K' : Nat → Nat → Int} {T T' : Nat → Int} {L L' : Int} {e : zEw} {f : Nat → Int32} (h : zHm M (F, H, n, K, T, L, e) f) (c : zSM M' F' H' n' K' T') (hl : (zI M' 336 5).toInt = L') (q : zEq [(336, 336, some 48), (336, 336, some 50), (363, 363, none), (339, 339, none)] M M') : zHm M' (F', H', n', K', T', L', e) f := by
  refine ⟨c, hl, (funext fun j => q 339 j rfl).trans h.2.2.1, ?_, h.2.2.2.2.fr (q 336 50 rfl) (fun i => q 363 i rfl)⟩
  rw [q 336 48 rfl]
  exact h.2.2.2.1
/-- acts: what ended, too -/
theorem zHc.mkE {M M' : zM} {F F' : Nat → Int} {H H' : Nat → Nat → Int} {n n' : Int} {K K' : Nat → Nat → Int} {T T' : Nat → Int} {L L' x : Int} {e : zEw} {f : Nat → Int32} (h : zHc M (F, H, n, K, T, L, e) f) (c : zSC M' F' H' n' K' T') (hl : (zI M' 155 1).toInt = L') (he : (zI M' 6 12).toInt = x) (q : zEq [(6, 6, some 10), (335, 335, none), (156, 156, none)] M M') : zHc M' (F', H', n', K', T', L', (x, e.2)) f :=
  ⟨c, hl, (funext fun j => q 156 j rfl).trans h.2.2.1, he, h.2.2.2.2.fr (q 6 10 rfl) (fun i => q 335 i rfl)⟩
theorem zHm.mkE {M M' : zM} {F F' : Nat → Int} {H H' : Nat → Nat → Int} {n n' : Int} {K K' : Nat → Nat → Int} {T T' : Nat → Int} {L L' x : Int} {e : zEw} {f : Nat → Int32} (h : zHm M (F, H, n, K, T, L, e) f) (c : zSM M' F' H' n' K' T') (hl : (zI M' 336 5).toInt = L') (he : (zI M' 336 48).toInt = x) (q : zEq [(336, 336, some 50), (363, 363, none), (339, 339, none)] M M') : zHm M' (F', H', n', K', T', L', (x, e.2)) f :=
  ⟨c, hl, (funext fun j => q 339 j rfl).trans h.2.2.1, he, h.2.2.2.2.fr (q 336 50 rfl) (fun i => q 363 i rfl)⟩
/-- the tape itself -/
theorem zHc.mkT {M M' : zM} {F : Nat → Int} {H : Nat → Nat → Int} {n : Int} {K : Nat → Nat → Int} {T : Nat → Int} {L L' : Int} {e : zEw} {f : Nat → Int32} (h : zHc M (F, H, n, K, T, L, e) f) (hl : (zI M' 155 1).toInt = L') (q : zEq [(6, 6, some 10), (335, 335, none), (6, 6, some 12), (7, 18, none), (31, 154, none)] M M') : zHc M' (F, H, n, K, T, L', e) (zI M' 156) := by
  refine ⟨h.1.fr (fun k j hk => q k j ?_), hl, rfl, ?_, h.2.2.2.2.fr (q 6 10 rfl) (fun i => q 335 i rfl)⟩
  · have y := zinR2 hk
    rcases y with y | y
    · exact zinW_r (lo := 7) (hi := 18) (by simp) y.1 y.2
    · exact zinW_r (lo := 31) (hi := 154) (by simp) y.1 y.2
  · rw [q 6 12 rfl]
    exact h.2.2.2.1
theorem zHm.mkT {M M' : zM} {F : Nat → Int} {H : Nat → Nat → Int} {n : Int} {K : Nat → Nat → Int} {T : Nat → Int} {L L' : Int} {e : zEw} {f : Nat → Int32} (h : zHm M (F, H, n, K, T, L, e) f) (hl : (zI M' 336 5).toInt = L') (q : zEq [(336, 336, some 1), (336, 336, some 48), (336, 336, some 50), (363, 363, none), (337, 337, none), (338, 338, none)] M M') : zHm M' (F, H, n, K, T, L', e) (zI M' 339) := by
  refine ⟨h.1.fr (fun j => q 337 j rfl) (q 336 1 rfl) (fun j => q 338 j rfl), hl, rfl, ?_, h.2.2.2.2.fr (q 336 50 rfl) (fun i => q 363 i rfl)⟩
  rw [q 336 48 rfl]
  exact h.2.2.2.1
/-- what is written -/
theorem zHc.mkW {M M' : zM} {F : Nat → Int} {H : Nat → Nat → Int} {n : Int} {K : Nat → Nat → Int} {T : Nat → Int} {L : Int} {e : zEw} {c : zWt} {f : Nat → Int32} (h : zHc M (F, H, n, K, T, L, e) f) (hw : zWr M' 6 10 335 c) (q : zEq [(6, 6, some 12), (7, 18, none), (31, 154, none), (155, 155, some 1), (156, 156, none)] M M') : zHc M' (F, H, n, K, T, L, (e.1, c)) f := by
  refine ⟨h.1.fr (fun k j hk => q k j ?_), ?_, (funext fun j => q 156 j rfl).trans h.2.2.1, ?_, hw⟩
  · have y := zinR2 hk
    rcases y with y | y
    · exact zinW_r (lo := 7) (hi := 18) (by simp) y.1 y.2
    · exact zinW_r (lo := 31) (hi := 154) (by simp) y.1 y.2
  · rw [q 155 1 rfl]
    exact h.2.1
  · rw [q 6 12 rfl]
    exact h.2.2.2.1
theorem zHm.mkW {M M' : zM} {F : Nat → Int} {H : Nat → Nat → Int} {n : Int} {K : Nat → Nat → Int} {T : Nat → Int} {L : Int} {e : zEw} {c : zWt} {f : Nat → Int32} (h : zHm M (F, H, n, K, T, L, e) f) (hw : zWr M' 336 50 363 c) (q : zEq [(336, 336, some 1), (336, 336, some 5), (336, 336, some 48), (337, 337, none), (338, 338, none), (339, 339, none)] M M') : zHm M' (F, H, n, K, T, L, (e.1, c)) f := by
  refine ⟨h.1.fr (fun j => q 337 j rfl) (q 336 1 rfl) (fun j => q 338 j rfl), ?_, (funext fun j => q 339 j rfl).trans h.2.2.1, ?_, hw⟩
  · rw [q 336 5 rfl]
    exact h.2.1
  · rw [q 336 48 rfl]
    exact h.2.2.2.1
/-- the trigger's text is not the model's -/
theorem zHm.tr {M : zM} {F G : Nat → Int} {H : Nat → Nat → Int} {n : Int} {K : Nat → Nat → Int} {T : Nat → Int} {L : Int} {e : zEw} {f : Nat → Int32} (h : zHm M (F, H, n, K, T, L, e) f) (q : ∀ j, j < 306 → G j = F j) : zHm M (G, H, n, K, T, L, e) f :=
  ⟨⟨h.1.1.eqv (fun j h1 _ _ => q j h1), h.1.2⟩, h.2⟩
theorem zHc.ta {M : zM} {F : Nat → Int} {H : Nat → Nat → Int} {n : Int} {K : Nat → Nat → Int} {T : Nat → Int} {L : Int} {e : zEw} {f : Nat → Int32} (h : zHc M (F, H, n, K, T, L, e) f) : zTa M (zsy f L) L := by
  refine ⟨?_, h.2.1⟩
  rw [h.2.1, h.2.2.1]
theorem zHm.tm {M : zM} {F : Nat → Int} {H : Nat → Nat → Int} {n : Int} {K : Nat → Nat → Int} {T : Nat → Int} {L : Int} {e : zEw} {f : Nat → Int32} (h : zHm M (F, H, n, K, T, L, e) f) : zTm M (zsy f L) L := by
  refine ⟨?_, h.2.1⟩
  rw [h.2.1, h.2.2.1]
/-! ===== good states ===== -/
def zGd (F : Nat → Int) (H : Nat → Nat → Int) (n : Int) (K : Nat → Nat → Int) (T : Nat → Int) : Prop := zWF F ∧ (∀ i : Nat, (i : Int) < n → zWF (H i)) ∧ (∀ k : Nat, k < 2 → T k = 1 → zWF (K k)) ∧ 0 ≤ n ∧ n ≤ 8
theorem zGd.push {F G : Nat → Int} {H : Nat → Nat → Int} {n : Int} {K : Nat → Nat → Int} {T : Nat → Int} (h : zGd F H n K T) (w : zWF G) : zGd G (pushH F H) (nP n) K T := by
  obtain ⟨h1, h2, h3, h4, h5⟩ := h
  have q := nP.e (n := n)
  refine ⟨w, fun i hi => ?_, h3, by omega, by omega⟩
  cases i with
  | zero => exact h1
  | succ i => exact h2 i (by omega)
theorem zGd.pop {F : Nat → Int} {H : Nat → Nat → Int} {n : Int} {K : Nat → Nat → Int} {T : Nat → Int} (h : zGd F H n K T) (h0 : 0 < n) : zGd (H 0) (popH H) (n - 1) K T := by
  obtain ⟨h1, h2, h3, h4, h5⟩ := h
  exact ⟨h2 0 (by omega), fun i hi => h2 (i + 1) (by omega), h3, by omega, by omega⟩
theorem zGd.keep {F : Nat → Int} {H : Nat → Nat → Int} {n : Int} {K : Nat → Nat → Int} {T : Nat → Int} {i : Nat} (h : zGd F H n K T) : zGd F H n (uK K i F) (uS T i 1) := by
  obtain ⟨h1, h2, h3, h4, h5⟩ := h
  refine ⟨h1, h2, fun k hk q => ?_, h4, h5⟩
  by_cases w : k = i
  · subst w
    rw [uK.s]
    exact h1
  · rw [uS.o w] at q
    rw [uK.o w]
    exact h3 k hk q
theorem zGd.rest {F : Nat → Int} {H : Nat → Nat → Int} {n : Int} {K : Nat → Nat → Int} {T : Nat → Int} {i : Nat} (h : zGd F H n K T) (hi : i < 2) (q : T i = 1) : zGd (K i) (pushH F H) (nP n) K T := h.push (h.2.2.1 i hi q)
theorem dSt.gd {L : Nat → aT} {k : Nat} {K : Nat → Nat → Int} {T : Nat → Int} : ∀ (m : Nat) {i : Nat} {F : Nat → Int} {H : Nat → Nat → Int} {n v e : Int} {F2 : Nat → Int} {H2 : Nat → Nat → Int} {n2 : Int}, gRun (dSt L k) m (i, F, H, n) = some (v, e, F2, H2, n2) → zGd F H n K T → zGd F2 H2 n2 K T
  | 0, i, F, H, n, v, e, F2, H2, n2, h, _ => by cases h
  | m + 1, i, F, H, n, v, e, F2, H2, n2, h, g => by
    unfold gRun at h
    by_cases w : i = k
    · rw [dSt.end w] at h
      have h : some (((k : Int), (-1 : Int), F, H, n) : Int × Int × (Nat → Int) × (Nat → Nat → Int) × Int) = some (v, e, F2, H2, n2) := h
      cases h
      exact g
    · cases ha : aDo (L i) F with
      | none =>
        rw [dSt.no w ha] at h
        have h : some (((i : Int), (i : Int), F, H, n) : Int × Int × (Nat → Int) × (Nat → Nat → Int) × Int) = some (v, e, F2, H2, n2) := h
        cases h
        exact g
      | some G =>
        rw [dSt.go w ha] at h
        exact dSt.gd m h (g.push (aDo.wf g.1 ha))
/-! ===== calls ===== -/
theorem zBo.cm {X : zX} {l : Launch} {d y : Nat} {as : List Value} {M : zM} {P : Option Value → zQ → (Nat → Int32) → Prop} (h : zBo M) (hc : zCall X l d 0 0 y as (zhide zSc M) (fun r M' => (∃ s f, P r s f ∧ zHm M' s f) ∧ zSk zMm M' ∧ zIv mLo mHi M' ∧ zPR M' ∧ zPC M' ∧ zPF M')) : zCall X l d 0 0 y as M (fun r M' => ((∃ s f, P r s f ∧ zHm M' s f) ∧ ∀ k, zSc k = true → zI M' k = zI M k) ∧ zBo M') := by
  refine zCall.mono (h.callmE (R := fun r M' => ∃ s f, P r s f ∧ zHm M' s f) hc) ?_
  rintro r M' ⟨⟨N, ⟨s, f, hp, hh⟩, e1, e2⟩, hB⟩
  refine ⟨⟨⟨s, f, hp, hh.cell (fun k h1 => (e1 k ?_).1)⟩, fun k hk => (e2 k hk).1⟩, hB⟩
  rcases (show k = 336 ∨ k = 337 ∨ k = 338 ∨ k = 339 ∨ k = 363 by omega) with q | q | q | q | q <;> subst q <;> rfl
theorem zHm.to {M M' : zM} {s : zQ} {f : Nat → Int32} (h : zHm M s f) (e : ∀ k, zSm k = true → zI M' k = zI M k) : zHm M' s f := h.cell (fun k h1 => e k (by
  rcases (show k = 336 ∨ k = 337 ∨ k = 338 ∨ k = 339 ∨ k = 363 by omega) with q | q | q | q | q <;> subst q <;> rfl))
theorem zHc.to {M M' : zM} {s : zQ} {f : Nat → Int32} (h : zHc M s f) (e : ∀ k, zSc k = true → zI M' k = zI M k) : zHc M' s f := h.cell (fun k h1 h2 => e k (zSc_y h2 (by omega)))
/-- both are alike -/
def zRl (M : zM) : Prop := ∃ (F : Nat → Int) (H : Nat → Nat → Int) (n : Int) (K : Nat → Nat → Int) (T : Nat → Int) (L : Int) (e : zEw) (f g : Nat → Int32), zHc M (F, H, n, K, T, L, e) f ∧ zHm M (F, H, n, K, T, L, e) g ∧ (∀ j : Nat, (j : Int) < L → g j = f j) ∧ zGd F H n K T ∧ 0 ≤ L
/-! ===== the start ===== -/
def zF0 (j : Nat) : Int := if j < 306 then (zI zMe 337 j).toInt else 0
theorem zF0v : zF0 0 = 0 ∧ zF0 1 = 0 ∧ zF0 2 = 0 ∧ zF0 5 = 1 ∧ zF0 6 = 10 ∧ zF0 7 = 10 ∧ zF0 8 = 3 ∧ zF0 9 = 20 ∧ zF0 10 = 0 ∧ zF0 11 = 999 ∧ zF0 12 = 100 ∧ zF0 13 = 50 ∧ zF0 1000 = 0 := by decide +kernel
theorem zF0c : (zI zMe 7 0).toInt = 0 ∧ (zI zMe 7 3).toInt = 0 ∧ (zI zMe 7 8).toInt = 0 ∧ (zI zMe 7 13).toInt = 0 ∧ (zI zMe 31 2).toInt = 0 ∧ (zI zMe 34 0).toInt = 0 ∧ (zI zMe 34 1).toInt = 0 ∧ (zI zMe 336 1).toInt = 0 ∧ (zI zMe 338 0).toInt = 0 ∧ (zI zMe 338 1).toInt = 0 ∧ (zI zMe 155 1).toInt = 0 ∧ (zI zMe 336 5).toInt = 0 ∧ (zI zMe 6 12).toInt = -1 ∧ (zI zMe 336 48).toInt = -1 ∧ (zI zMe 6 10).toInt = 0 ∧ (zI zMe 336 50).toInt = 0 := by decide +kernel
theorem zF0s : ((List.range 9).all fun i => decide ((zI zMe 17 i).toInt = zF0 (5 + i))) = true := by decide +kernel
theorem zWF0 : zWF zF0 := by
  obtain ⟨v0, v1, v2, v5, v6, v7, v8, v9, v10, v11, v12, v13, _⟩ := zF0v
  unfold zWF
  rw [v0, v1, v2, v5, v6, v7, v8, v9, v10, v11, v12, v13]
  exact ⟨by omega, fun l hl => absurd hl (by omega), fun l hl => absurd hl (by omega), by omega, by omega⟩
theorem zSo0 : zSo zMe 7 zF0 := by
  obtain ⟨v0, v1, v2, v5, v6, v7, v8, v9, v10, v11, v12, v13, v1000⟩ := zF0v
  obtain ⟨a0, a1, a2, a3, b0, c0, c1, d0, e0, e1, l0, l1, x0, x1, y0, y1⟩ := zF0c
  refine ⟨⟨a0.trans v0.symm, a1.trans v1.symm, a2.trans v2.symm, a3.trans v1000.symm⟩, fun l hl => ?_, fun l hl => ?_, fun l hl => ?_, fun i hi => ?_, fun j hj => ?_⟩
  · rw [v0] at hl
    omega
  · rw [v1] at hl
    omega
  · rw [v2] at hl
    omega
  · exact of_decide_eq_true (List.all_eq_true.mp zF0s i (List.mem_range.mpr hi))
  · rw [v1000] at hj
    omega
theorem zSC0 : zSC zMe zF0 (fun _ => zF0) 0 (fun _ => zF0) (fun _ => 0) := by
  obtain ⟨a0, a1, a2, a3, b0, c0, c1, d0, e0, e1, l0, l1, x0, x1, y0, y1⟩ := zF0c
  have hH : zHC zMe (fun _ => zF0) 0 := by
    refine ⟨b0, fun i hi => ?_⟩
    exfalso
    omega
  have hK : zKC zMe (fun _ => zF0) (fun _ => 0) := by
    intro k hk
    refine ⟨?_, fun q => absurd (show (0 : Int) = 1 from q) (by decide)⟩
    show (zI zMe 34 k).toInt = 0
    rcases (show k = 0 ∨ k = 1 by omega) with q | q
    · rw [q]
      exact c0
    · rw [q]
      exact c1
  exact ⟨zSo0, hH, hK⟩
theorem zSM0 : zSM zMe zF0 (fun _ => zF0) 0 (fun _ => zF0) (fun _ => 0) := by
  obtain ⟨a0, a1, a2, a3, b0, c0, c1, d0, e0, e1, l0, l1, x0, x1, y0, y1⟩ := zF0c
  have hR : zRw zMe 0 zF0 := by
    intro j h1 h2 h3
    rw [show 506 * 0 + j = j by omega]
    show (zI zMe 337 j).toInt = if j < 306 then (zI zMe 337 j).toInt else 0
    rw [if_pos h1]
  have hH : zHM zMe (fun _ => zF0) 0 := by
    refine ⟨d0, fun i hi => ?_⟩
    exfalso
    omega
  have hK : zKM zMe (fun _ => zF0) (fun _ => 0) := by
    intro k hk
    refine ⟨?_, fun q => absurd (show (0 : Int) = 1 from q) (by decide)⟩
    show (zI zMe 338 k).toInt = 0
    rcases (show k = 0 ∨ k = 1 by omega) with q | q
    · rw [q]
      exact e0
    · rw [q]
      exact e1
  exact ⟨hR, hH, hK⟩
theorem zGd0 : zGd zF0 (fun _ => zF0) 0 (fun _ => zF0) (fun _ => 0) := by
  refine ⟨zWF0, fun i hi => ?_, fun k hk q => absurd (show (0 : Int) = 1 from q) (by decide), Int.le_refl 0, by omega⟩
  exfalso
  omega
theorem zRl0 : zRl zMe := by
  obtain ⟨a0, a1, a2, a3, b0, c0, c1, d0, e0, e1, l0, l1, x0, x1, y0, y1⟩ := zF0c
  have hC : zHc zMe (zF0, (fun _ => zF0), 0, (fun _ => zF0), (fun _ => 0), 0, (-1, (0, fun _ => 0))) (zI zMe 156) := ⟨zSC0, l0, rfl, x0, zWr.zero y0⟩
  have hM : zHm zMe (zF0, (fun _ => zF0), 0, (fun _ => zF0), (fun _ => 0), 0, (-1, (0, fun _ => 0))) (zI zMe 339) := ⟨zSM0, l1, rfl, x1, zWr.zero y1⟩
  refine ⟨zF0, (fun _ => zF0), 0, (fun _ => zF0), (fun _ => 0), 0, (-1, (0, fun _ => 0)), zI zMe 156, zI zMe 339, hC, hM, fun j hj => ?_, zGd0, Int.le_refl 0⟩
  exfalso
  omega
