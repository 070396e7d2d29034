/-! ===== the class's plane: its slots ===== -/
theorem zand127 {x : Int32} : (x &&& 127).toInt = x.toInt % 128 := by
  have h1 : (x &&& 127).toBitVec.toNat = x.toBitVec.toNat % 128 := by
    show (x.toBitVec &&& (127 : Int32).toBitVec).toNat = _
    rw [BitVec.toNat_and, show (127 : Int32).toBitVec.toNat = 2 ^ 7 - 1 by decide]
    exact Nat.and_two_pow_sub_one_eq_mod _ 7
  have e : ∀ y : Int32, y.toInt = if 2 * y.toBitVec.toNat < 2 ^ 32 then (y.toBitVec.toNat : Int) else (y.toBitVec.toNat : Int) - ((2 ^ 32 : Nat) : Int) := fun y => BitVec.toInt_eq_toNat_cond _
  rw [e, e, h1]
  split <;> split <;> omega
def hm (c : Int) : Nat := (c % 128).toNat
theorem hm.lt {c : Int} : hm c < 128 := by
  unfold hm
  omega
def zStm (M : zM) (p a s : Nat) : Prop := (zI M a s).toInt = (zI M p 10).toInt
def zstb (M : zM) (p a s : Nat) : Bool := decide ((zI M a s).toInt = (zI M p 10).toInt)
/-- cells stand in one of the slots from their own on, no empty one between -/
def zHt (M : zM) (p a b : Nat) : Prop := (∀ s d e : Nat, s < 128 → zStm M p a s → d < 128 → (hm (zI M b s).toInt + d) % 128 = s → e < d → zStm M p a ((hm (zI M b s).toInt + e) % 128)) ∧ ∀ s s' : Nat, s < 128 → s' < 128 → zStm M p a s → zStm M p a s' → (zI M b s).toInt = (zI M b s').toInt → s = s'
/-- the slots that were looked at -/
def zPb (M : zM) (p a b : Nat) (c : Int) (n : Nat) : Prop := ∀ e : Nat, e < n → zStm M p a ((hm c + e) % 128) ∧ (zI M b ((hm c + e) % 128)).toInt ≠ c
theorem zPb.zero {M : zM} {p a b : Nat} {c : Int} {n : Nat} (hn : n = 0) : zPb M p a b c n := fun e h => absurd h (by omega)
theorem zPb.more {M : zM} {p a b s : Nat} {c : Int} {n : Nat} (h : zPb M p a b c n) (hs : zStm M p a s) (hc : (zI M b s).toInt ≠ c) (es : s = (hm c + n) % 128) : zPb M p a b c (n + 1) := fun e he => by
  by_cases q : e = n
  · rw [q, ← es]
    exact ⟨hs, hc⟩
  · exact h e (by omega)
theorem zPb.no {M : zM} {p a b : Nat} {c : Int} {n : Nat} (h : zPb M p a b c n) (t : zHt M p a b) (hs : ¬ zStm M p a ((hm c + n) % 128)) : ∀ s, s < 128 → zStm M p a s → (zI M b s).toInt ≠ c := fun s h1 h2 q => by
  have hh := hm.lt (c := c)
  obtain ⟨d, d1, d2⟩ : ∃ d, d < 128 ∧ (hm c + d) % 128 = s := ⟨(s + 128 - hm c) % 128, by omega, by omega⟩
  by_cases e : d < n
  · have z := (h d e).2
    rw [d2] at z
    exact z q
  · by_cases e2 : d = n
    · subst e2
      rw [d2] at hs
      exact hs h2
    · have z := t.1 s d n h1 h2 d1 (by rw [q]; exact d2) (by omega)
      rw [q] at z
      exact hs z
theorem pct.all {P : Nat → Bool} : ∀ n : Nat, (∀ i, i < n → P i = true) → pct P n = (n : Int)
  | 0, _ => rfl
  | n + 1, h => by
    rw [pct.y (h n (by omega)), pct.all n (fun i hi => h i (by omega))]
    omega
theorem pct.add1 {P Q : Nat → Bool} {s : Nat} (e : ∀ i, i ≠ s → Q i = P i) : ∀ n : Nat, pct Q n ≤ pct P n + 1
  | 0 => by show (0 : Int) ≤ 0 + 1; decide
  | n + 1 => by
    have z := pct.add1 e n
    show pct Q n + (if Q n = true then 1 else 0) ≤ pct P n + (if P n = true then 1 else 0) + 1
    by_cases h : n = s
    · have w : pct Q n = pct P n := pct.cg n (fun i hi => e i (by omega))
      split <;> split <;> omega
    · rw [e n h]
      omega
theorem zPb.full {M : zM} {p a b : Nat} {c : Int} {n : Nat} (h : zPb M p a b c n) (hn : n = 128) : pct (zstb M p a) 128 = 128 := pct.all 128 fun s hs => by
  have hh := hm.lt (c := c)
  have z := (h ((s + 128 - hm c) % 128) (by omega)).1
  rw [show (hm c + (s + 128 - hm c) % 128) % 128 = s by omega] at z
  exact decide_eq_true z
/-- a cell more -/
theorem zHt.ins {M N : zM} {p a b s n : Nat} {c : Int} (t : zHt M p a b) (h : zPb M p a b c n) (hn : n < 128) (es : s = (hm c + n) % 128) (hs : ¬ zStm M p a s) (ep : zI N p 10 = zI M p 10) (a1 : (zI N a s).toInt = (zI M p 10).toInt) (ao : ∀ j, j ≠ s → zI N a j = zI M a j) (b1 : (zI N b s).toInt = c) (bo : ∀ j, j ≠ s → zI N b j = zI M b j) : zHt N p a b := by
  have st : ∀ j, zStm N p a j ↔ (j = s ∨ zStm M p a j) := fun j => by
    unfold zStm
    rw [ep]
    by_cases q : j = s
    · rw [q]
      exact ⟨fun _ => Or.inl rfl, fun _ => a1⟩
    · rw [ao j q]
      exact ⟨Or.inr, fun z => z.resolve_left q⟩
  have no := h.no t (by rw [← es]; exact hs)
  have hh := hm.lt (c := c)
  refine ⟨fun s' d e h1 h2 h3 h4 h5 => ?_, fun s1 s2 h1 h2 h3 h4 h5 => ?_⟩
  · by_cases q : s' = s
    · rw [q, b1] at h4 ⊢
      have dn : d = n := by omega
      exact (st _).mpr (Or.inr (h e (by omega)).1)
    · rw [bo s' q] at h4 ⊢
      exact (st _).mpr (Or.inr (t.1 s' d e h1 (((st s').mp h2).resolve_left q) h3 h4 h5))
  · by_cases q1 : s1 = s
    · by_cases q2 : s2 = s
      · omega
      · rw [q1, b1, bo s2 q2] at h5
        exact absurd h5.symm (no s2 h2 (((st s2).mp h4).resolve_left q2))
    · by_cases q2 : s2 = s
      · rw [q2, b1, bo s1 q1] at h5
        exact absurd h5 (no s1 h1 (((st s1).mp h3).resolve_left q1))
      · rw [bo s1 q1, bo s2 q2] at h5
        exact t.2 s1 s2 h1 h2 (((st s1).mp h3).resolve_left q1) (((st s2).mp h4).resolve_left q2) h5
theorem zstb.ins {M N : zM} {p a s : Nat} (ep : zI N p 10 = zI M p 10) (ao : ∀ j, j ≠ s → zI N a j = zI M a j) : pct (zstb N p a) 128 ≤ pct (zstb M p a) 128 + 1 := pct.add1 (s := s) (fun j q => by
  unfold zstb
  rw [ep, ao j q]) 128
theorem zHt.none {M : zM} {p a b : Nat} (h : ∀ s, s < 128 → ¬ zStm M p a s) : zHt M p a b := ⟨fun s d e h1 h2 => absurd h2 (h s h1), fun s s' h1 h2 h3 => absurd h3 (h s h1)⟩
theorem pct.fal : ∀ n : Nat, pct (fun _ => false) n = 0
  | 0 => rfl
  | n + 1 => (pct.n (P := fun _ => false) (n := n) rfl).trans (pct.fal n)
theorem zstb.none {M : zM} {p a : Nat} (h : ∀ s, s < 128 → ¬ zStm M p a s) : pct (zstb M p a) 128 = 0 := by
  rw [pct.cg (P := fun _ => false) (P' := zstb M p a) 128 (fun s hs => decide_eq_false (show ¬ ((zI M a s).toInt = (zI M p 10).toInt) from h s hs))]
  exact pct.fal 128
/-- the slot of a cell -/
def zSlot (M N : zM) (p a b c d : Nat) (x : Int) (s : Nat) : Prop := s < 128 ∧ zStm N p a s ∧ (zI N b s).toInt = x ∧ zHt N p a b ∧ pct (zstb N p a) 128 ≤ pct (zstb M p a) 128 + 1 ∧ zI N p 10 = zI M p 10 ∧ (∀ j, j ≠ s → zI N a j = zI M a j ∧ zI N b j = zI M b j ∧ zI N c j = zI M c j ∧ zI N d j = zI M d j) ∧ ((zStm M p a s ∧ zI N b s = zI M b s ∧ zI N c s = zI M c s ∧ zI N d s = zI M d s) ∨ (¬ zStm M p a s ∧ (∀ j, j < 128 → zStm M p a j → (zI M b j).toInt ≠ x) ∧ (zI N c s).toInt = 0 ∧ (zI N d s).toInt = 0))
theorem zSlot.old {M : zM} {p a b c d s : Nat} {x : Int} (t : zHt M p a b) (hs : s < 128) (h1 : zStm M p a s) (h2 : (zI M b s).toInt = x) : zSlot M M p a b c d x s := ⟨hs, h1, h2, t, by omega, rfl, fun _ _ => ⟨rfl, rfl, rfl, rfl⟩, Or.inl ⟨h1, rfl, rfl, rfl⟩⟩
theorem zSlot.new {M N : zM} {p a b c d s n : Nat} {x : Int} (t : zHt M p a b) (h : zPb M p a b x n) (hn : n < 128) (es : s = (hm x + n) % 128) (hs : ¬ zStm M p a s) (ep : zI N p 10 = zI M p 10) (a1 : (zI N a s).toInt = (zI M p 10).toInt) (ao : ∀ j, j ≠ s → zI N a j = zI M a j) (b1 : (zI N b s).toInt = x) (bo : ∀ j, j ≠ s → zI N b j = zI M b j) (c1 : (zI N c s).toInt = 0) (co : ∀ j, j ≠ s → zI N c j = zI M c j) (d1 : (zI N d s).toInt = 0) (eo : ∀ j, j ≠ s → zI N d j = zI M d j) : zSlot M N p a b c d x s :=
  ⟨by omega, by unfold zStm; rw [ep]; exact a1, b1, t.ins h hn es hs ep a1 ao b1 bo, zstb.ins ep ao, ep, fun j q => ⟨ao j q, bo j q, co j q, eo j q⟩, Or.inr ⟨hs, h.no t (by rw [← es]; exact hs), c1, d1⟩⟩
/-! ===== votes of the first voters ===== -/
def lpf (φ : Nat → Nat) : Nat → Nat → Bool
  | 0, _ => false
  | i + 1, h => lpf φ i h || decide (h = φ i)
theorem lpf.ex {φ : Nat → Nat} {h : Nat} : ∀ i : Nat, lpf φ i h = true → ∃ j, j < i ∧ h = φ j
  | 0, q => by cases q
  | i + 1, q => by
    have q : (lpf φ i h || decide (h = φ i)) = true := q
    rw [Bool.or_eq_true, decide_eq_true_eq] at q
    rcases q with q | q
    · obtain ⟨j, h1, h2⟩ := lpf.ex i q
      exact ⟨j, by omega, h2⟩
    · exact ⟨i, by omega, q⟩
theorem lpf.of {φ : Nat → Nat} {j : Nat} : ∀ i : Nat, j < i → lpf φ i (φ j) = true
  | 0, q => absurd q (by omega)
  | i + 1, q => by
    show (lpf φ i (φ j) || decide (φ j = φ i)) = true
    by_cases e : j = i
    · rw [e, decide_eq_true rfl, Bool.or_true]
    · rw [lpf.of i (by omega), Bool.true_or]
theorem zlr.add {F : Nat → Int} {P Q : Nat → Bool} {c : Bool} {n l h : Nat} (hh : h < n) (e : ∀ i, Q i = (P i || (decide (i = h) && c))) : zlr F Q n l = (zlr F P n l || (c && decide (F (30 + 4 * h) = (l : Int)))) := by
  rw [Bool.eq_iff_iff, Bool.or_eq_true, Bool.and_eq_true, decide_eq_true_eq]
  constructor
  · intro q
    obtain ⟨i, i1, i2, i3⟩ := zlr.ex n q
    rw [e, Bool.or_eq_true, Bool.and_eq_true, decide_eq_true_eq] at i2
    rcases i2 with i2 | ⟨i2, i4⟩
    · exact Or.inl (zlr.of n i1 i2 i3)
    · subst i2
      exact Or.inr ⟨i4, i3⟩
  · rintro (q | ⟨q1, q2⟩)
    · exact zlr.mono n (fun i _ hi => by rw [e, hi, Bool.true_or]) q
    · refine zlr.of n hh ?_ q2
      rw [e, q1, decide_eq_true rfl, Bool.and_true, Bool.or_true]
theorem vh.add {F : Nat → Int} {φ : Nat → Nat} {k t b : Int} {i : Nat} (h : Nat) : vh F (lpf φ (i + 1)) k t b h = (vh F (lpf φ i) k t b h || (decide (h = φ i) && decide (cel F k t (φ i) = b))) := by
  show ((lpf φ i h || decide (h = φ i)) && decide (cel F k t h = b)) = ((lpf φ i h && decide (cel F k t h = b)) || (decide (h = φ i) && decide (cel F k t (φ i) = b)))
  by_cases e : h = φ i
  · rw [← e, decide_eq_true rfl, Bool.or_true, Bool.true_and]
    cases lpf φ i h <;> cases decide (cel F k t h = b) <;> rfl
  · rw [decide_eq_false e, Bool.or_false, Bool.false_and, Bool.or_false]
theorem zlr.voter {F : Nat → Int} {φ : Nat → Nat} {k t b : Int} {i n l : Nat} (hh : φ i < n) : zlr F (vh F (lpf φ (i + 1)) k t b) n l = (zlr F (vh F (lpf φ i) k t b) n l || (decide (cel F k t (φ i) = b) && decide (F (30 + 4 * φ i) = (l : Int)))) := zlr.add hh vh.add
theorem pct.one {P Q : Nat → Bool} {l : Nat} (e : ∀ i, Q i = (P i || decide (l = i))) (hl : P l = false) : ∀ n : Nat, pct Q n = pct P n + (if l < n then 1 else 0)
  | 0 => by rw [if_neg (by omega)]; rfl
  | n + 1 => by
    show pct Q n + (if Q n = true then 1 else 0) = pct P n + (if P n = true then 1 else 0) + (if l < n + 1 then 1 else 0)
    rw [pct.one e hl n, e n]
    by_cases h : l = n
    · subst h
      rw [hl, decide_eq_true rfl, if_neg (show ¬ l < l by omega), if_pos (show l < l + 1 by omega)]
      rfl
    · rw [decide_eq_false h, Bool.or_false]
      by_cases q : l < n
      · rw [if_pos q, if_pos (show l < n + 1 by omega)]
        omega
      · rw [if_neg q, if_neg (show ¬ l < n + 1 by omega)]
        omega
theorem vot.cg {F : Nat → Int} {L L' : Nat → Bool} {k t b : Int} (e : ∀ h : Nat, (h : Int) < F 1 → L' h = L h) : vot F L' k t b = vot F L k t b := by
  have z : ∀ h, h < (F 1).toNat → vh F L' k t b h = vh F L k t b h := fun h hh => by
    unfold vh
    rw [e h (by omega)]
  refine pct.cg 8 (fun l _ => ?_)
  rw [Bool.eq_iff_iff]
  exact ⟨zlr.mono _ (fun i hi q => by rw [← z i hi]; exact q), zlr.mono _ (fun i hi q => by rw [z i hi]; exact q)⟩
/-- a voter for another cell, or of a layer that voted -/
theorem vot.same {F : Nat → Int} {φ : Nat → Nat} {k t b : Int} {i l : Nat} (hh : (φ i : Int) < F 1) (hl : F (30 + 4 * φ i) = (l : Int)) (h : cel F k t (φ i) ≠ b ∨ zlr F (vh F (lpf φ i) k t b) (F 1).toNat l = true) : ∀ m, zlr F (vh F (lpf φ (i + 1)) k t b) (F 1).toNat m = zlr F (vh F (lpf φ i) k t b) (F 1).toNat m := fun m => by
  rw [zlr.voter (by omega)]
  rcases h with h | h
  · rw [decide_eq_false h, Bool.false_and, Bool.or_false]
  · by_cases e : m = l
    · rw [e, h, Bool.true_or]
    · rw [decide_eq_false (show ¬ F (30 + 4 * φ i) = (m : Int) by omega), Bool.and_false, Bool.or_false]
theorem vot.grow {F : Nat → Int} {φ : Nat → Nat} {k t b : Int} {i l : Nat} (hh : (φ i : Int) < F 1) (hl : F (30 + 4 * φ i) = (l : Int)) (hc : cel F k t (φ i) = b) : ∀ m, zlr F (vh F (lpf φ (i + 1)) k t b) (F 1).toNat m = (zlr F (vh F (lpf φ i) k t b) (F 1).toNat m || decide (l = m)) := fun m => by
  rw [zlr.voter (by omega), decide_eq_true hc, Bool.true_and, hl]
  congr 1
  exact decide_eq_decide.mpr (by omega)
/-- the best cell of a shape -/
def zBx (F : Nat → Int) (L : Nat → Bool) (k t v b : Int) : Prop := (v = 0 ∧ ∀ b', vot F L k t b' ≤ 0) ∨ (1 ≤ v ∧ v = vot F L k t b ∧ ∀ b', 1 ≤ vot F L k t b' → vot F L k t b' < v ∨ (vot F L k t b' = v ∧ b ≤ b'))
/-- the slots after the first voters -/
def zTy (M : zM) (p a b c d : Nat) (F : Nat → Int) (φ : Nat → Nat) (i : Nat) (k t : Int) : Prop := zHt M p a b ∧ pct (zstb M p a) 128 ≤ (i : Int) ∧ (∀ s, s < 128 → zStm M p a s → zMk (zI M c s) (zlr F (vh F (lpf φ i) k t (zI M b s).toInt) (F 1).toNat) ∧ (zI M d s).toInt = vot F (lpf φ i) k t (zI M b s).toInt) ∧ ∀ j, j < i → ∃ s, s < 128 ∧ zStm M p a s ∧ (zI M b s).toInt = cel F k t (φ j)
theorem zTy.zero {M : zM} {p a b c d : Nat} {F : Nat → Int} {φ : Nat → Nat} {i : Nat} {k t : Int} (hi : i = 0) (h : ∀ s, s < 128 → ¬ zStm M p a s) : zTy M p a b c d F φ i k t :=
  ⟨zHt.none h, by rw [zstb.none h]; omega, fun s h1 h2 => absurd h2 (h s h1), fun j hj => absurd hj (by omega)⟩
theorem zBx.zero {F : Nat → Int} {φ : Nat → Nat} {i : Nat} {k t v b : Int} (hi : i = 0) (hv : v = 0) : zBx F (lpf φ i) k t v b := Or.inl ⟨hv, fun b' => by
  subst hi
  refine Int.le_of_not_gt fun q => ?_
  obtain ⟨h, _, h2, _⟩ := vot.ex (show 1 ≤ vot F (lpf φ 0) k t b' by omega)
  cases h2⟩
theorem zBx.same {F : Nat → Int} {L L' : Nat → Bool} {k t v b : Int} (h : zBx F L k t v b) (e : ∀ b', vot F L' k t b' = vot F L k t b') : zBx F L' k t v b := by
  rcases h with ⟨h1, h2⟩ | ⟨h1, h2, h3⟩
  · exact Or.inl ⟨h1, fun b' => by rw [e]; exact h2 b'⟩
  · exact Or.inr ⟨h1, by rw [e]; exact h2, fun b' q => by rw [e] at q ⊢; exact h3 b' q⟩
/-- votes of one cell grew, and it is the best now, or isn't -/
theorem zBx.up {F : Nat → Int} {L L' : Nat → Bool} {k t v b x y : Int} (h : zBx F L k t v b) (e : ∀ b', b' ≠ x → vot F L' k t b' = vot F L k t b') (ex : vot F L' k t x = vot F L k t x + 1) (hy : y = vot F L' k t x) (hq : v < y ∨ (y = v ∧ x < b)) : zBx F L' k t y x := by
  have r := vot.rg (F := F) (L := L) (k := k) (t := t) (b := x)
  refine Or.inr ⟨by omega, hy, fun b' q => ?_⟩
  by_cases w : b' = x
  · rw [w]
    exact Or.inr ⟨hy.symm, Int.le_refl _⟩
  · rw [e b' w] at q ⊢
    rcases h with ⟨h1, h2⟩ | ⟨h1, h2, h3⟩
    · have z := h2 b'
      omega
    · have z := h3 b' q
      omega
theorem zBx.keep {F : Nat → Int} {L L' : Nat → Bool} {k t v b x y : Int} (h : zBx F L k t v b) (e : ∀ b', b' ≠ x → vot F L' k t b' = vot F L k t b') (ex : vot F L' k t x = vot F L k t x + 1) (hy : y = vot F L' k t x) (hq : y < v ∨ (y = v ∧ b ≤ x)) : zBx F L' k t v b := by
  have r := vot.rg (F := F) (L := L) (k := k) (t := t) (b := x)
  rcases h with ⟨h1, h2⟩ | ⟨h1, h2, h3⟩
  · omega
  · have ne : b ≠ x := fun q => by
      subst q
      omega
    refine Or.inr ⟨h1, by rw [e b ne]; exact h2, fun b' q => ?_⟩
    by_cases w : b' = x
    · rw [w]
      omega
    · rw [e b' w] at q ⊢
      exact h3 b' q
theorem zmkT : ((List.range 256).all fun n => (List.range 8).all fun j => decide ((Int32.ofNat n &&& ((1 : Int32) <<< (Int32.ofNat j &&& 31))).toInt = 0) == !(n.testBit j)) = true := by decide +kernel
theorem zMk.has {m s v l : Int32} {S : Nat → Bool} {j : Nat} (h : zMk m S) (hl : l.toInt = (j : Int)) (hj : j < 8) (hs : (1 : Int32) <<< (l &&& 31) = s) (hv : m &&& s = v) : (v.toInt = 0 → S j = false) ∧ (v.toInt ≠ 0 → S j = true) := by
  obtain ⟨n, h1, h2, h3⟩ := h
  have el : l = Int32.ofNat j := by
    rw [← Int32.toInt_inj, hl, Int32.toInt_ofNat_of_lt (by omega)]
  subst h2
  subst hs
  subst hv
  subst el
  have z := List.all_eq_true.mp (List.all_eq_true.mp zmkT n (List.mem_range.mpr h1)) j (List.mem_range.mpr hj)
  rw [beq_iff_eq, h3 j hj] at z
  refine ⟨fun q => ?_, fun q => ?_⟩
  · rw [decide_eq_true q] at z
    cases e : S j with
    | false => rfl
    | true => rw [e] at z; cases z
  · rw [decide_eq_false q] at z
    cases e : S j with
    | true => rfl
    | false => rw [e] at z; cases z
/-- behind the look for a voter's slot -/
theorem zTy.slot {M N : zM} {p a b c d s : Nat} {F : Nat → Int} {φ : Nat → Nat} {i : Nat} {k t x : Int} (y : zTy M p a b c d F φ i k t) (z : zSlot M N p a b c d x s) : zHt N p a b ∧ pct (zstb N p a) 128 ≤ (i : Int) + 1 ∧ (∀ j, j < 128 → zStm N p a j → zMk (zI N c j) (zlr F (vh F (lpf φ i) k t (zI N b j).toInt) (F 1).toNat) ∧ (zI N d j).toInt = vot F (lpf φ i) k t (zI N b j).toInt) ∧ ∀ j, j < i → ∃ s, s < 128 ∧ zStm N p a s ∧ (zI N b s).toInt = cel F k t (φ j) := by
  obtain ⟨y1, y2, y3, y4⟩ := y
  obtain ⟨z1, z2, z3, z4, z5, z6, z7, z8⟩ := z
  have st : ∀ j, j ≠ s → (zStm N p a j ↔ zStm M p a j) := fun j q => by
    unfold zStm
    rw [(z7 j q).1, z6]
  refine ⟨z4, by omega, fun j h1 h2 => ?_, fun j hj => ?_⟩
  · by_cases q : j = s
    · subst q
      rcases z8 with ⟨w1, w2, w3, w4⟩ | ⟨w0, w1, w2, w3⟩
      · have v := y3 j h1 w1
        rw [w2, w3, w4]
        exact v
      · have nov : ∀ h, h < (F 1).toNat → vh F (lpf φ i) k t x h = false := fun h hh => by
          cases e : vh F (lpf φ i) k t x h with
          | false => rfl
          | true =>
            have e : (lpf φ i h && decide (cel F k t h = x)) = true := e
            rw [Bool.and_eq_true, decide_eq_true_eq] at e
            obtain ⟨m, m1, m2⟩ := lpf.ex i e.1
            obtain ⟨s', s1, s2, s3⟩ := y4 m m1
            exact absurd (by rw [s3, ← m2]; exact e.2) (w1 s' s1 s2)
        have nol : ∀ l, zlr F (vh F (lpf φ i) k t x) (F 1).toNat l = false := fun l => by
          cases e : zlr F (vh F (lpf φ i) k t x) (F 1).toNat l with
          | false => rfl
          | true =>
            obtain ⟨h, e1, e2, _⟩ := zlr.ex _ e
            rw [nov h e1] at e2
            cases e2
        rw [z3]
        refine ⟨zMk.zero w2 nol, ?_⟩
        rw [w3]
        show 0 = pct (zlr F (vh F (lpf φ i) k t x) (F 1).toNat) 8
        rw [pct.cg (P := fun _ => false) 8 (fun l _ => nol l)]
        decide
    · have w := z7 j q
      rw [w.2.1, w.2.2.1, w.2.2.2]
      exact y3 j h1 ((st j q).mp h2)
  · obtain ⟨s', s1, s2, s3⟩ := y4 j hj
    by_cases q : s' = s
    · subst q
      rcases z8 with ⟨w1, w2, w3, w4⟩ | ⟨w0, w1, w2, w3⟩
      · exact ⟨s', s1, z2, by rw [w2]; exact s3⟩
      · exact absurd s2 w0
    · exact ⟨s', s1, (st s' q).mpr s2, by rw [(z7 s' q).2.1]; exact s3⟩
/-- the voter adds nothing -/
theorem zTy.skip {M N : zM} {p a b c d s l : Nat} {F : Nat → Int} {φ : Nat → Nat} {i : Nat} {k t x : Int} (y : zTy M p a b c d F φ i k t) (z : zSlot M N p a b c d x s) (hx : x = cel F k t (φ i)) (hh : (φ i : Int) < F 1) (hl : F (30 + 4 * φ i) = (l : Int)) (hz : zlr F (vh F (lpf φ i) k t x) (F 1).toNat l = true) : zTy N p a b c d F φ (i + 1) k t ∧ ∀ b', vot F (lpf φ (i + 1)) k t b' = vot F (lpf φ i) k t b' := by
  have e : ∀ b' m, zlr F (vh F (lpf φ (i + 1)) k t b') (F 1).toNat m = zlr F (vh F (lpf φ i) k t b') (F 1).toNat m := fun b' m => by
    by_cases q : b' = x
    · subst q
      exact vot.same hh hl (Or.inr hz) m
    · exact vot.same hh hl (Or.inl (fun w => q (w.symm.trans hx.symm))) m
  have ev : ∀ b', vot F (lpf φ (i + 1)) k t b' = vot F (lpf φ i) k t b' := fun b' => pct.cg 8 (fun m _ => e b' m)
  obtain ⟨w1, w2, w3, w4⟩ := y.slot z
  refine ⟨⟨w1, w2, fun j h1 h2 => ?_, fun j hj => ?_⟩, ev⟩
  · have v := w3 j h1 h2
    rw [ev]
    exact ⟨v.1.cg (fun m => e _ m), v.2⟩
  · by_cases q : j = i
    · rw [q, ← hx]
      exact ⟨s, z.1, z.2.1, z.2.2.1⟩
    · exact w4 j (by omega)
/-- the voter's layer votes -/
theorem zTy.vote {M N N' : zM} {p a b c d s l : Nat} {F : Nat → Int} {φ : Nat → Nat} {i : Nat} {k t x : Int} (y : zTy M p a b c d F φ i k t) (z : zSlot M N p a b c d x s) (hx : x = cel F k t (φ i)) (hh : (φ i : Int) < F 1) (hl : F (30 + 4 * φ i) = (l : Int)) (h8 : l < 8) (hz : zlr F (vh F (lpf φ i) k t x) (F 1).toNat l = false) (ep : zI N' p 10 = zI N p 10) (ea : ∀ j, zI N' a j = zI N a j) (eb : ∀ j, zI N' b j = zI N b j) (ec : ∀ j, j ≠ s → zI N' c j = zI N c j) (ed : ∀ j, j ≠ s → zI N' d j = zI N d j) (hc : ∀ S, zMk (zI N c s) S → zMk (zI N' c s) (fun m => S m || decide (l = m))) (hd : (zI N' d s).toInt = (zI N d s).toInt + 1) : zTy N' p a b c d F φ (i + 1) k t ∧ (∀ b', b' ≠ x → vot F (lpf φ (i + 1)) k t b' = vot F (lpf φ i) k t b') ∧ vot F (lpf φ (i + 1)) k t x = vot F (lpf φ i) k t x + 1 ∧ (zI N' d s).toInt = vot F (lpf φ (i + 1)) k t x := by
  have e : ∀ b', b' ≠ x → ∀ m, zlr F (vh F (lpf φ (i + 1)) k t b') (F 1).toNat m = zlr F (vh F (lpf φ i) k t b') (F 1).toNat m := fun b' q m => vot.same hh hl (Or.inl (fun w => q (w.symm.trans hx.symm))) m
  have g : ∀ m, zlr F (vh F (lpf φ (i + 1)) k t x) (F 1).toNat m = (zlr F (vh F (lpf φ i) k t x) (F 1).toNat m || decide (l = m)) := fun m => vot.grow hh hl hx.symm m
  have ev : ∀ b', b' ≠ x → vot F (lpf φ (i + 1)) k t b' = vot F (lpf φ i) k t b' := fun b' q => pct.cg 8 (fun m _ => e b' q m)
  have gx : vot F (lpf φ (i + 1)) k t x = vot F (lpf φ i) k t x + 1 := by
    show pct (zlr F (vh F (lpf φ (i + 1)) k t x) (F 1).toNat) 8 = pct (zlr F (vh F (lpf φ i) k t x) (F 1).toNat) 8 + 1
    rw [pct.one g hz 8, if_pos h8]
  obtain ⟨w1, w2, w3, w4⟩ := y.slot z
  have st : ∀ j, zStm N' p a j ↔ zStm N p a j := fun j => by
    unfold zStm
    rw [ea, ep]
  have vs := w3 s z.1 z.2.1
  rw [z.2.2.1] at vs
  refine ⟨⟨⟨fun s' d' e' h1 h2 h3 h4 h5 => ?_, fun s1 s2 h1 h2 h3 h4 h5 => ?_⟩, ?_, fun j h1 h2 => ?_, fun j hj => ?_⟩, ev, gx, by rw [hd, vs.2, gx]⟩
  · rw [eb] at h4 ⊢
    exact (st _).mpr (w1.1 s' d' e' h1 ((st s').mp h2) h3 h4 h5)
  · rw [eb, eb] at h5
    exact w1.2 s1 s2 h1 h2 ((st s1).mp h3) ((st s2).mp h4) h5
  · rw [pct.cg (P := zstb N p a) 128 (fun j _ => by unfold zstb; rw [ea, ep])]
    omega
  · rw [eb]
    by_cases q : j = s
    · subst q
      rw [z.2.2.1]
      exact ⟨(hc _ vs.1).cg g, by rw [hd, vs.2, gx]⟩
    · have ne : (zI N b j).toInt ≠ x := fun w => q (w1.2 j s h1 z.1 ((st j).mp h2) z.2.1 (w.trans z.2.2.1.symm))
      have v := w3 j h1 ((st j).mp h2)
      rw [ec j q, ed j q, ev _ ne]
      exact ⟨v.1.cg (e _ ne), v.2⟩
  · by_cases q : j = i
    · rw [q, ← hx]
      exact ⟨s, z.1, (st s).mpr z.2.1, by rw [eb]; exact z.2.2.1⟩
    · obtain ⟨s', s1, s2, s3⟩ := w4 j (by omega)
      exact ⟨s', s1, (st s').mpr s2, by rw [eb]; exact s3⟩
/-! ===== what the plane knows ===== -/
def zPn (M : zM) (p u v : Nat) (F : Nat → Int) : Prop := (zI M p 5).toInt = F 7 ∧ (∀ (l j : Nat) (k : Int), (l : Int) < F 0 → -F 5 ≤ k → k ≤ F 5 → (j : Int) = (k + 3) * 8 + (l : Int) → (zI M u j).toInt = k * F (14 + 2 * l) * F (14 + 2 * l) / 10000) ∧ ∀ (l j : Nat) (t : Int), (l : Int) < F 0 → -F 6 ≤ t → t ≤ F 6 → (j : Int) = (t + 20) * 8 + (l : Int) → (zI M v j).toInt = t * F (14 + 2 * l) / 100
def zVt (M : zM) (p u v w : Nat) (F : Nat → Int) (L : Nat → Bool) (n : Nat) (φ : Nat → Nat) : Prop := (zI M p 6).toInt = (n : Int) ∧ n ≤ 60 ∧ (∀ j, j < n → (φ j : Int) < F 1 ∧ L (φ j) = true ∧ (zI M u j).toInt = (φ j : Int) ∧ (zI M v j).toInt = F (30 + 4 * φ j) ∧ (zI M w j).toInt = F (31 + 4 * φ j)) ∧ (∀ i j, i < j → j < n → φ i < φ j) ∧ ∀ h : Nat, (h : Int) < F 1 → L h = true → ∃ j, j < n ∧ φ j = h
theorem zVt.lp {M : zM} {p u v w : Nat} {F : Nat → Int} {L : Nat → Bool} {n : Nat} {φ : Nat → Nat} (x : zVt M p u v w F L n φ) : ∀ h : Nat, (h : Int) < F 1 → lpf φ n h = L h := fun h hh => by
  rw [Bool.eq_iff_iff]
  constructor
  · intro q
    obtain ⟨j, j1, j2⟩ := lpf.ex n q
    rw [j2]
    exact (x.2.2.1 j j1).2.1
  · intro q
    obtain ⟨j, j1, j2⟩ := x.2.2.2.2 h hh q
    rw [← j2]
    exact lpf.of n j1
def zSp (M : zM) (p a : Nat) : Prop := ∀ s, s < 128 → (zI M a s).toInt ≤ (zI M p 10).toInt
theorem zSp.fr {M N : zM} {p a : Nat} (h : zSp M p a) (e : ∀ j, zI N a j = zI M a j) (ep : zI N p 10 = zI M p 10) : zSp N p a := fun s hs => by
  rw [e, ep]
  exact h s hs
theorem zSp.slot {M N : zM} {p a b c d s : Nat} {x : Int} (h : zSp M p a) (z : zSlot M N p a b c d x s) : zSp N p a := fun j hj => by
  by_cases q : j = s
  · rw [q]
    exact Int.le_of_eq z.2.1
  · rw [(z.2.2.2.2.2.2.1 j q).1, z.2.2.2.2.2.1]
    exact h j hj
/-- a new stamp: all slots are empty -/
theorem zSp.no {M N : zM} {p a : Nat} (h : zSp M p a) (e : ∀ j, zI N a j = zI M a j) (ep : (zI N p 10).toInt = (zI M p 10).toInt + 1) : ∀ s, s < 128 → ¬ zStm N p a s := fun s hs q => by
  have z := h s hs
  unfold zStm at q
  rw [e] at q
  omega
theorem zSp.up {M N : zM} {p a : Nat} (h : zSp M p a) (e : ∀ j, zI N a j = zI M a j) (ep : (zI N p 10).toInt = (zI M p 10).toInt + 1) : zSp N p a := fun s hs => by
  have z := h s hs
  rw [e]
  omega
theorem zBx.cs {F : Nat → Int} {L : Nat → Bool} {k t v b v' b' : Int} (h : zBx F L k t v b) (e1 : v' = v) (e2 : b' = b) : zBx F L k t v' b' := by
  rw [e1, e2]
  exact h
theorem zBx.lp {F : Nat → Int} {L L' : Nat → Bool} {k t v b : Int} (h : zBx F L k t v b) (e : ∀ h : Nat, (h : Int) < F 1 → L h = L' h) : zBx F L' k t v b := h.same (fun b' => (vot.cg e).symm)
theorem zBx.rg {F : Nat → Int} {L : Nat → Bool} {k t v b : Int} (h : zBx F L k t v b) : 0 ≤ v ∧ v ≤ 8 := by
  have r := vot.rg (F := F) (L := L) (k := k) (t := t) (b := b)
  rcases h with ⟨h1, _⟩ | ⟨h1, h2, _⟩ <;> omega
/-- the tally's loop -/
def zTl (M : zM) (p a b c d : Nat) (F : Nat → Int) (φ : Nat → Nat) (i : Nat) (k t : Int) : Prop := zTy M p a b c d F φ i k t ∧ zBx F (lpf φ i) k t (zI M p 17).toInt (zI M p 18).toInt ∧ zSp M p a
theorem zTl.skip {M N : zM} {p a b c d s l : Nat} {F : Nat → Int} {φ : Nat → Nat} {i : Nat} {k t x : Int} (h : zTl M p a b c d F φ i k t) (z : zSlot M N p a b c d x s) (hx : x = cel F k t (φ i)) (hh : (φ i : Int) < F 1) (hl : F (30 + 4 * φ i) = (l : Int)) (hz : zlr F (vh F (lpf φ i) k t x) (F 1).toNat l = true) (e7 : zI N p 17 = zI M p 17) (e8 : zI N p 18 = zI M p 18) : zTl N p a b c d F φ (i + 1) k t := by
  have r := h.1.skip z hx hh hl hz
  exact ⟨r.1, by rw [e7, e8]; exact h.2.1.same r.2, h.2.2.slot z⟩
theorem zTl.mask {M N : zM} {p a b c d s : Nat} {F : Nat → Int} {φ : Nat → Nat} {i : Nat} {k t x : Int} (h : zTl M p a b c d F φ i k t) (z : zSlot M N p a b c d x s) : zMk (zI N c s) (zlr F (vh F (lpf φ i) k t x) (F 1).toNat) ∧ (zI N d s).toInt = vot F (lpf φ i) k t x := by
  have w := (h.1.slot z).2.2.1 s z.1 z.2.1
  rw [z.2.2.1] at w
  exact w
theorem zTl.vote {M N N' : zM} {p a b c d s l : Nat} {F : Nat → Int} {φ : Nat → Nat} {i : Nat} {k t x y v7 v8 : Int} (h : zTl M p a b c d F φ i k t) (z : zSlot M N p a b c d x s) (hx : x = cel F k t (φ i)) (hh : (φ i : Int) < F 1) (hl : F (30 + 4 * φ i) = (l : Int)) (h8 : l < 8) (hz : zlr F (vh F (lpf φ i) k t x) (F 1).toNat l = false) (ep : zI N' p 10 = zI N p 10) (ea : ∀ j, zI N' a j = zI N a j) (eb : ∀ j, zI N' b j = zI N b j) (ec : ∀ j, j ≠ s → zI N' c j = zI N c j) (ed : ∀ j, j ≠ s → zI N' d j = zI N d j) (hc : ∀ S, zMk (zI N c s) S → zMk (zI N' c s) (fun m => S m || decide (l = m))) (hd : (zI N' d s).toInt = y) (hy : y = (zI N d s).toInt + 1) (e7 : (zI N' p 17).toInt = v7) (e8 : (zI N' p 18).toInt = v8) (hq : (v7 = y ∧ v8 = x ∧ ((zI M p 17).toInt < y ∨ (y = (zI M p 17).toInt ∧ x < (zI M p 18).toInt))) ∨ (v7 = (zI M p 17).toInt ∧ v8 = (zI M p 18).toInt ∧ (y < (zI M p 17).toInt ∨ (y = (zI M p 17).toInt ∧ (zI M p 18).toInt ≤ x)))) : zTl N' p a b c d F φ (i + 1) k t := by
  have r := h.1.vote z hx hh hl h8 hz ep ea eb ec ed hc (by omega)
  refine ⟨r.1, ?_, (h.2.2.slot z).fr ea ep⟩
  have ry : y = vot F (lpf φ (i + 1)) k t x := by rw [← hd]; exact r.2.2.2
  rcases hq with ⟨q1, q2, q3⟩ | ⟨q1, q2, q3⟩
  · exact (h.2.1.up r.2.1 r.2.2.1 ry q3).cs (by omega) (by omega)
  · exact (h.2.1.keep r.2.1 r.2.2.1 ry q3).cs (by omega) (by omega)
