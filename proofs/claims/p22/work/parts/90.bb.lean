/-! ===== both halves with what is known of the tracks ===== -/
theorem zPicA.fr3 {M N : zM} {F : Nat → Int} (h : zPicA M F) (e3 : zI N 164 3 = zI M 164 3) (e4 : zI N 164 4 = zI M 164 4) (e5 : zI N 164 5 = zI M 164 5) (e2 : zI N 165 2 = zI M 165 2) (et : zTf M N) : zPicA N F := by
  obtain ⟨n, mm, τ, Λ, ⟨h1, h2, h3⟩, h4, h5, h6, h7, ⟨h8, h9, h10⟩, h11⟩ := h
  exact ⟨n, mm, τ, Λ, ⟨by rw [e2]; exact h1, h2, h3⟩, h4, h5, h6, fun i hi => (h7 i hi).tf et (by omega), ⟨by rw [e3]; exact h8, by rw [e4]; exact h9, by rw [e5]; exact h10⟩, h11⟩
/-- what the class knows, and how far its stamps have come -/
def zKc (M : zM) (F : Nat → Int) (B : Int) : Prop := zKnA M F ∧ zSp M 166 174 ∧ zSp M 242 250 ∧ (0 ≤ (zI M 166 10).toInt ∧ (zI M 166 10).toInt ≤ B) ∧ 0 ≤ (zI M 242 10).toInt ∧ (zI M 242 10).toInt ≤ B
theorem zKc.st {M M' : zM} {F F' : Nat → Int} {B B' : Int} (h : zKc M F B) (b : B ≤ B') (k : zKnA M' F') (e1 : zI M' 166 10 = zI M 166 10) (e2 : zI M' 242 10 = zI M 242 10) (s1 : ∀ j, zI M' 174 j = zI M 174 j) (s2 : ∀ j, zI M' 250 j = zI M 250 j) : zKc M' F' B' := by
  obtain ⟨_, h2, h3, ⟨h4, h5⟩, h6, h7⟩ := h
  refine ⟨k, h2.fr s1 e1, h3.fr s2 e2, ?_, ?_⟩
  · rw [e1]
    omega
  · rw [e2]
    omega
/-- nothing of it is written -/
theorem zKc.fr {M M' : zM} {F : Nat → Int} {B B' : Int} (h : zKc M F B) (b : B ≤ B') (e : zEq [(166, 166, some 10), (174, 174, none), (242, 242, some 10), (250, 250, none), (164, 164, some 0), (164, 164, some 3), (164, 164, some 4), (164, 164, some 5), (165, 165, some 2), (181, 240, none)] M M') : zKc M' F B' :=
  h.st b (fun q => (h.1 (by rw [← e 164 0 rfl]; exact q)).fr3 (e 164 3 rfl) (e 164 4 rfl) (e 164 5 rfl) (e 165 2 rfl) (zTf.eq (fun k j q1 q2 => e k j (zinW_r (lo := 181) (hi := 240) (by simp) q1 q2)))) (e 166 10 rfl) (e 242 10 rfl) (fun j => e 174 j rfl) (fun j => e 250 j rfl)
/-- it is forgotten -/
theorem zKc.fl {M M' : zM} {F F' : Nat → Int} {B B' : Int} (h : zKc M F B) (b : B ≤ B') (q : (zI M' 164 0).toInt = 0) (e : zEq [(166, 166, some 10), (174, 174, none), (242, 242, some 10), (250, 250, none)] M M') : zKc M' F' B' :=
  h.st b (fun z => absurd q z) (e 166 10 rfl) (e 242 10 rfl) (fun j => e 174 j rfl) (fun j => e 250 j rfl)
/-- it stays, in a call that might forget it -/
theorem zKc.sm {M M' : zM} {F : Nat → Int} {B B' : Int} (h : zKc M F B) (b : B ≤ B') (q : (zI M' 164 0).toInt = (zI M 164 0).toInt) (e : zEq [(166, 166, some 10), (174, 174, none), (242, 242, some 10), (250, 250, none), (164, 164, some 3), (164, 164, some 4), (164, 164, some 5), (165, 165, some 2), (181, 240, none)] M M') : zKc M' F B' :=
  h.st b (fun z => (h.1 (by rw [← q]; exact z)).fr3 (e 164 3 rfl) (e 164 4 rfl) (e 164 5 rfl) (e 165 2 rfl) (zTf.eq (fun k j q1 q2 => e k j (zinW_r (lo := 181) (hi := 240) (by simp) q1 q2)))) (e 166 10 rfl) (e 242 10 rfl) (fun j => e 174 j rfl) (fun j => e 250 j rfl)
/-- the call looks -/
theorem zKc.lk {M M' : zM} {F : Nat → Int} {B B' : Int} (h : zKc M F B) (b : B + 200000 ≤ B') (k : zKnA M' F) (s1 : zSp M' 166 174) (s2 : zSp M' 242 250) (a1 : (zI M' 166 10).toInt ≤ (zI M 166 10).toInt + 200000) (a2 : (zI M 166 10).toInt ≤ (zI M' 166 10).toInt) (a3 : (zI M' 242 10).toInt ≤ (zI M 242 10).toInt + 200000) (a4 : (zI M 242 10).toInt ≤ (zI M' 242 10).toInt) : zKc M' F B' := by
  obtain ⟨_, _, _, ⟨h4, h5⟩, h6, h7⟩ := h
  exact ⟨k, s1, s2, ⟨by omega, by omega⟩, by omega, by omega⟩
theorem zKc.cell {M M' : zM} {F : Nat → Int} {B : Int} (h : zKc M F B) (e : ∀ k, k < 336 → 6 ≤ k → zI M' k = zI M k) : zKc M' F B :=
  h.st (Int.le_refl _) (fun q => (h.1 (by rw [← congrFun (e 164 (by decide) (by decide)) 0]; exact q)).fr3 (congrFun (e 164 (by decide) (by decide)) 3) (congrFun (e 164 (by decide) (by decide)) 4) (congrFun (e 164 (by decide) (by decide)) 5) (congrFun (e 165 (by decide) (by decide)) 2) (zTf.eq (fun k j q1 q2 => congrFun (e k (by omega) (by omega)) j))) (congrFun (e 166 (by decide) (by decide)) 10) (congrFun (e 242 (by decide) (by decide)) 10) (fun j => congrFun (e 174 (by decide) (by decide)) j) (fun j => congrFun (e 250 (by decide) (by decide)) j)
theorem zKc.ag {M : zM} {F G : Nat → Int} {B : Int} (h : zKc M F B) (w : zWF F) (a : zAg F G) : zKc M G B := ⟨fun q => zPicA.cg a w (h.1 q), h.2⟩
theorem zKnB.fl {M' : zM} {F' : Nat → Int} (q : (zI M' 336 3).toInt = 0) : zKnB M' F' := fun z => absurd q z
theorem zKnB.sm {M M' : zM} {F : Nat → Int} (h : zKnB M F) (q : (zI M' 336 3).toInt = (zI M 336 3).toInt) (e : zEq [(336, 336, some 22), (345, 350, none)] M M') : zKnB M' F :=
  fun z => (h (by rw [← q]; exact z)).fr (e 336 22 rfl) (fun k j y => e k j (by have x := zinR' y; exact zinW_r (lo := 345) (hi := 350) (by simp) x.1 x.2))
theorem zKnB.ag {M : zM} {F G : Nat → Int} (h : zKnB M F) (w : zWF F) (a : zAg F G) : zKnB M G := fun q => zPicB.cg a w (h q)
theorem zSm_y {k : Nat} (h : 336 ≤ k) (h2 : k ≤ 363) : zSm k = true := by
  unfold zSm
  rw [Nat.ble_eq_true_of_le h, Nat.ble_eq_true_of_le h2]
  rfl
theorem zSc_n {k : Nat} (h : zSm k = true) : zSc k = false := by
  cases hz : zSc k with
  | false => rfl
  | true =>
    unfold zSm at h
    unfold zSc at hz
    rw [Bool.and_eq_true, Nat.ble_eq, Nat.ble_eq] at h hz
    omega
theorem zKnB.cell {M M' : zM} {F : Nat → Int} (h : zKnB M F) (e : ∀ k, zSm k = true → zI M' k = zI M k) : zKnB M' F := fun z => (h (by rw [← congrFun (e 336 rfl) 3]; exact z)).fr (congrFun (e 336 rfl) 22) (fun k j y => congrFun (e k (by
  have x := zinR' y
  exact zSm_y (by omega) (by omega))) j)
def zUc (M : zM) (s : zQ) (f : Nat → Int32) (B : Int) : Prop := zHc M s f ∧ zKc M s.1 B
def zUm (M : zM) (s : zQ) (f : Nat → Int32) : Prop := zHm M s f ∧ zKnB M s.1
theorem zUc.cell {M M' : zM} {s : zQ} {f : Nat → Int32} {B : Int} (h : zUc M s f B) (e : ∀ k, k < 336 → 6 ≤ k → zI M' k = zI M k) : zUc M' s f B := ⟨h.1.cell e, h.2.cell e⟩
theorem zUc.to {M M' : zM} {s : zQ} {f : Nat → Int32} {B : Int} (h : zUc M s f B) (e : ∀ k, zSc k = true → zI M' k = zI M k) : zUc M' s f B := h.cell (fun k h1 h2 => e k (zSc_y h2 (by omega)))
theorem zUm.to {M M' : zM} {s : zQ} {f : Nat → Int32} (h : zUm M s f) (e : ∀ k, zSm k = true → zI M' k = zI M k) : zUm M' s f := ⟨h.1.to e, h.2.cell e⟩
theorem zUm.ag {M : zM} {F G : Nat → Int} {H : Nat → Nat → Int} {n : Int} {K : Nat → Nat → Int} {T : Nat → Int} {L : Int} {e : zEw} {f : Nat → Int32} (h : zUm M (F, H, n, K, T, L, e) f) (w : zWF F) (q : zAg F G) : zUm M (G, H, n, K, T, L, e) f := ⟨h.1.tr q, h.2.ag w q⟩
/-! ===== calls ===== -/
theorem zBo.ccU {X : zX} {l : Launch} {d y : Nat} {as : List Value} {M : zM} {B : Int} {P : Option Value → zQ → (Nat → Int32) → Prop} (h : zBo M) (hc : zCall X l d 0 0 y as (zhide zSm M) (fun r M' => (∃ s f, P r s f ∧ zUc M' s f B) ∧ zSk zMc M' ∧ zIv cLo cHi M')) : zCall X l d 0 0 y as M (fun r M' => ((∃ s f, P r s f ∧ zUc M' s f B) ∧ ∀ k, zSm k = true → zI M' k = zI M k) ∧ zBo M') := by
  refine zCall.mono (h.callcE (R := fun r M' => ∃ s f, P r s f ∧ zUc M' s f B) hc) ?_
  rintro r M' ⟨⟨N, ⟨s, f, hp, hh⟩, e1, e2⟩, hB⟩
  exact ⟨⟨⟨s, f, hp, hh.cell (fun k h1 _ => (e1 k (zSm_n h1)).1)⟩, fun k hk => (e2 k hk).1⟩, hB⟩
theorem zBo.cmU {X : zX} {l : Launch} {d y : Nat} {as : List Value} {M : zM} {P : Option Value → zQ → (Nat → Int32) → Prop} (h : zBo M) (hc : zCall X l d 0 0 y as (zhide zSc M) (fun r M' => (∃ s f, P r s f ∧ zUm M' s f) ∧ zSk zMm M' ∧ zIv mLo mHi M' ∧ zPR M' ∧ zPC M' ∧ zPF M')) : zCall X l d 0 0 y as M (fun r M' => ((∃ s f, P r s f ∧ zUm M' s f) ∧ ∀ k, zSc k = true → zI M' k = zI M k) ∧ zBo M') := by
  refine zCall.mono (h.callmE (R := fun r M' => ∃ s f, P r s f ∧ zUm M' s f) hc) ?_
  rintro r M' ⟨⟨N, ⟨s, f, hp, hh⟩, e1, e2⟩, hB⟩
  exact ⟨⟨⟨s, f, hp, hh.to (fun k hk => (e1 k (zSc_n hk)).1)⟩, fun k hk => (e2 k hk).1⟩, hB⟩
/-- both are alike -/
def zRu (M : zM) (B : Int) : Prop := ∃ (F : Nat → Int) (H : Nat → Nat → Int) (n : Int) (K : Nat → Nat → Int) (T : Nat → Int) (L : Int) (e : zEw) (f g : Nat → Int32), zUc M (F, H, n, K, T, L, e) f B ∧ zUm M (F, H, n, K, T, L, e) g ∧ (∀ j : Nat, (j : Int) < L → g j = f j) ∧ zGd F H n K T ∧ 0 ≤ L
theorem zKc.le {M : zM} {F : Nat → Int} {B B' : Int} (h : zKc M F B) (b : B ≤ B') : zKc M F B' := h.st b h.1 rfl rfl (fun _ => rfl) (fun _ => rfl)
theorem zRu.le {M : zM} {B B' : Int} (h : zRu M B) (b : B ≤ B') : zRu M B' := by
  obtain ⟨F, H, n, K, T, L, e, f, g, h1, h2⟩ := h
  exact ⟨F, H, n, K, T, L, e, f, g, ⟨h1.1, h1.2.le b⟩, h2⟩
theorem zRu0 : zRu zMe 0 := by
  obtain ⟨F, H, n, K, T, L, e, f, g, h1, h2, h3⟩ := zRl0
  have q : (zI zMe 164 0).toInt = 0 ∧ (zI zMe 336 3).toInt = 0 ∧ (zI zMe 166 10).toInt = 0 ∧ (zI zMe 242 10).toInt = 0 := by decide +kernel
  have s1 : ((List.range 128).all fun i => decide ((zI zMe 174 i).toInt ≤ 0)) = true := by decide +kernel
  have s2 : ((List.range 128).all fun i => decide ((zI zMe 250 i).toInt ≤ 0)) = true := by decide +kernel
  refine ⟨F, H, n, K, T, L, e, f, g, ⟨h1, fun z => absurd q.1 z, fun s hs => ?_, fun s hs => ?_, ⟨by omega, by omega⟩, by omega, by omega⟩, ⟨h2, fun z => absurd q.2.1 z⟩, h3⟩
  · rw [q.2.2.1]
    exact of_decide_eq_true (List.all_eq_true.mp s1 s (List.mem_range.mpr hs))
  · rw [q.2.2.2]
    exact of_decide_eq_true (List.all_eq_true.mp s2 s (List.mem_range.mpr hs))
