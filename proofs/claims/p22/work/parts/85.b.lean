/-! ===== tracks: the model's finder ===== -/
theorem vh.y {F : Nat → Int} {L : Nat → Bool} {k t b : Int} {h : Nat} (hL : L h = true) (hc : cel F k t h = b) : vh F L k t b h = true := by
  unfold vh
  rw [hL, decide_eq_true hc]
  rfl
theorem vh.n {F : Nat → Int} {L : Nat → Bool} {k t b : Int} {h : Nat} (hL : L h = false) : vh F L k t b h = false := by
  unfold vh
  rw [hL]
  rfl
theorem vh.o {F : Nat → Int} {L : Nat → Bool} {k t b : Int} {h : Nat} (hc : cel F k t h ≠ b) : vh F L k t b h = false := by
  unfold vh
  rw [decide_eq_false hc, Bool.and_false]
theorem vot.mk {F : Nat → Int} {L : Nat → Bool} {k t b V : Int} {m : Int32} {n : Nat} (hm : zMk m (zlr F (vh F L k t b) n)) (hn : F 1 = (n : Int)) (hv : zMk m (zlr F (vh F L k t b) n) → V = pct (zlr F (vh F L k t b) n) 8) : V = vot F L k t b := by
  unfold vot zVo
  rw [show (F 1).toNat = n by omega]
  exact hv hm
theorem vot.one {F : Nat → Int} {L : Nat → Bool} {k t b : Int} {n l : Nat} (hn : (n : Int) < F 1) (hL : L n = true) (hc : cel F k t n = b) (hl : F (30 + 4 * n) = (l : Int)) (h8 : l < 8) : 1 ≤ vot F L k t b :=
  pct.ge 8 h8 (zlr.of _ (by omega) (vh.y hL hc) hl)
theorem pct.lt {P : Nat → Bool} : ∀ n : Nat, pct P n ≤ (n : Int)
  | 0 => Int.le_refl _
  | n + 1 => by
    have z := pct.lt (P := P) n
    show pct P n + (if P n = true then 1 else 0) ≤ _
    split <;> omega
theorem vot.rg {F : Nat → Int} {L : Nat → Bool} {k t b : Int} : 0 ≤ vot F L k t b ∧ vot F L k t b ≤ 8 := ⟨pct.nn 8, pct.lt 8⟩
theorem pct.two {P : Nat → Bool} : ∀ n : Nat, 2 ≤ pct P n → ∃ i j, i < j ∧ j < n ∧ P i = true ∧ P j = true
  | 0, h => absurd h (by show ¬ (2 : Int) ≤ 0; decide)
  | n + 1, h => by
    cases hp : P n with
    | true =>
      rw [pct.y hp] at h
      obtain ⟨i, h1, h2⟩ := pct.pos (P := P) n (by omega)
      exact ⟨i, n, h1, by omega, h2, hp⟩
    | false =>
      rw [pct.n hp] at h
      obtain ⟨i, j, h1, h2, h3, h4⟩ := pct.two n h
      exact ⟨i, j, h1, by omega, h3, h4⟩
/-- the hits that are left -/
def zLf (M : zM) (F : Nat → Int) (L : Nat → Bool) : Prop := ∀ h : Nat, (h : Int) < F 1 → ((zI M 343 h).toInt ≠ 0 ↔ L h = true)
theorem zLf.y {M : zM} {F : Nat → Int} {L : Nat → Bool} (x : zLf M F L) {h : Nat} (h1 : (h : Int) < F 1) (h2 : (zI M 343 h).toInt ≠ 0) : L h = true := (x h h1).mp h2
theorem zLf.n {M : zM} {F : Nat → Int} {L : Nat → Bool} (x : zLf M F L) {h : Nat} (h1 : (h : Int) < F 1) (h2 : (zI M 343 h).toInt = 0) : L h = false := by
  cases e : L h with
  | false => rfl
  | true => exact absurd h2 ((x h h1).mpr e)
theorem zLf.fr {M M' : zM} {F : Nat → Int} {L : Nat → Bool} (x : zLf M F L) (e : ∀ j, zI M' 343 j = zI M 343 j) : zLf M' F L := fun h h1 => by
  rw [e]
  exact x h h1
/-- their cells are laid -/
def zCo (M : zM) (F : Nat → Int) (L : Nat → Bool) (k t : Int) : Prop := ∀ h : Nat, (h : Int) < F 1 → L h = true → (zI M 344 h).toInt = cel F k t h
theorem zCo.fr {M M' : zM} {F : Nat → Int} {L : Nat → Bool} {k t : Int} (x : zCo M F L k t) (e : ∀ j, zI M' 344 j = zI M 344 j) : zCo M' F L k t := fun h h1 h2 => by
  rw [e]
  exact x h h1 h2
theorem zcellE {M : zM} {F : Nat → Int} {a b : Int32} {h : Nat} (hr : zRw M 0 F) (hw : zWF F) (hh : (h : Int) < F 1) (a1 : -20 ≤ a.toInt) (a2 : a.toInt ≤ 20) (b1 : -3 ≤ b.toInt) (b2 : b.toInt ≤ 3) : (zcell M h a b).toInt = cel F b.toInt a.toInt h := by
  have f1 := hw.1
  have f3 := hw.2.2.2
  have w := hw.2.2.1 h hh
  obtain ⟨l, hl⟩ : ∃ l : Nat, F (30 + 4 * h) = (l : Int) := ⟨(F (30 + 4 * h)).toNat, by omega⟩
  have v := hw.2.1 l (by omega)
  have r7 := hr.at (j := 7) (by decide) (by decide) (by decide)
  have r0 := hr.at (j := 30 + 4 * h) (by omega) (by omega) (by omega)
  have r1 := hr.at (j := 31 + 4 * h) (by omega) (by omega) (by omega)
  have rx := hr.at (j := 14 + 2 * l) (by omega) (by omega) (by omega)
  have e := zliftE (M := M) (l := zI M 337 (30 + 4 * h)) (t := a) (k := b) (n := l) (F := F) (by omega) rfl rfl (by omega) (by omega) (by omega) (by omega) rx v.1 v.2.1
  have q := pLf.b (F := F) (l := l) (t := a.toInt) (k := b.toInt) v.1 v.2.1 (by omega) (by omega) (by omega) (by omega)
  have d : (zI M 337 (31 + 4 * h) - zlift M (zI M 337 (30 + 4 * h)) a b).toInt = F (31 + 4 * h) - pLf F l a.toInt b.toInt := by
    rw [Int32.toInt_sub, r1, e]
    unfold pLf
    exact Int.bmod_eq_of_le (by omega) (by omega)
  unfold zcell cel
  rw [show (F (30 + 4 * h)).toNat = l by omega]
  have g : -1000000000 ≤ F (31 + 4 * h) - pLf F l a.toInt b.toInt ∧ F (31 + 4 * h) - pLf F l a.toInt b.toInt ≤ 1000000000 := by
    unfold pLf
    omega
  exact zflrE (zi2l d) (zi2l r7) (by omega) g.1 g.2 (by omega)
theorem zCo.mk {M M' : zM} {F : Nat → Int} {L : Nat → Bool} {a b : Int32} (hr : zRw M 0 F) (hw : zWF F) (hl : zLf M F L) (hy : zLy M' a b) (e7 : ∀ j, zI M' 337 j = zI M 337 j) (e3 : ∀ j, zI M' 343 j = zI M 343 j) (a1 : -20 ≤ a.toInt) (a2 : a.toInt ≤ 20) (b1 : -3 ≤ b.toInt) (b2 : b.toInt ≤ 3) : zCo M' F L b.toInt a.toInt := fun h h1 h2 => by
  have r1 := hr.at (j := 1) (by decide) (by decide) (by decide)
  rw [hy h (by rw [e7]; omega) (by rw [e3]; exact (hl h h1).mpr h2), zcell.fr e7]
  exact zcellE hr hw h1 a1 a2 b1 b2
/-- two layers vote where votes are two -/
theorem vot.w {M : zM} {F : Nat → Int} {L : Nat → Bool} {k t : Int} {p : Int32} (x0 : zRw M 0 F) (x1 : zWF F) (x2 : zLf M F L) (x3 : zCo M F L k t) (q : 2 ≤ vot F L k t p.toInt) : zVw M p := by
  obtain ⟨l1, l2, h1, h2, h3, h4⟩ := pct.two 8 q
  obtain ⟨i, i1, i2, i3⟩ := zlr.ex _ h3
  obtain ⟨j, j1, j2, j3⟩ := zlr.ex _ h4
  have f1 := x1.1
  have i2 : (L i && decide (cel F k t i = p.toInt)) = true := i2
  have j2 : (L j && decide (cel F k t j = p.toInt)) = true := j2
  rw [Bool.and_eq_true, decide_eq_true_eq] at i2 j2
  have r1 := x0.at (j := 1) (by decide) (by decide) (by decide)
  have ri := x0.at (j := 30 + 4 * i) (by omega) (by omega) (by omega)
  have rj := x0.at (j := 30 + 4 * j) (by omega) (by omega) (by omega)
  exact ⟨i, j, by omega, by omega, (x2 i (by omega)).mpr i2.1, (x2 j (by omega)).mpr j2.1, by omega, Int32.toInt_inj.mp ((x3 i (by omega) i2.1).trans i2.2), Int32.toInt_inj.mp ((x3 j (by omega) j2.1).trans j2.2)⟩
/-- the best cell of those gone through -/
def zBz (F : Nat → Int) (L : Nat → Bool) (P : Int → Int → Int → Prop) (k t b v : Int) : Prop := (v = 0 ∧ ∀ k' t' b', P k' t' b' → vot F L k' t' b' ≤ 0) ∨ (1 ≤ v ∧ zIr F k t ∧ v = vot F L k t b ∧ ∀ k' t' b', P k' t' b' → 1 ≤ vot F L k' t' b' → ¬ zah (vot F L k' t' b') k' t' b' v k t b)
def zPq (P : Int → Int → Int → Prop) (k t : Int) (F : Nat → Int) (L : Nat → Bool) (n : Nat) (k' t' b' : Int) : Prop := P k' t' b' ∨ (k' = k ∧ t' = t ∧ ∃ h : Nat, h < n ∧ L h = true ∧ cel F k t h = b')
theorem zBz.cs {F : Nat → Int} {L : Nat → Bool} {P : Int → Int → Int → Prop} {k t b v k' t' b' v' : Int} (h : zBz F L P k t b v) (e1 : k' = k) (e2 : t' = t) (e3 : b' = b) (e4 : v' = v) : zBz F L P k' t' b' v' := by
  subst e1
  subst e2
  subst e3
  subst e4
  exact h
theorem zBz.mono {F : Nat → Int} {L : Nat → Bool} {P P' : Int → Int → Int → Prop} {k t b v : Int} (h : zBz F L P k t b v) (e : ∀ x y z, P' x y z → P x y z) : zBz F L P' k t b v := by
  rcases h with ⟨h1, h2⟩ | ⟨h1, h2, h3, h4⟩
  · exact Or.inl ⟨h1, fun x y z q => h2 x y z (e x y z q)⟩
  · exact Or.inr ⟨h1, h2, h3, fun x y z q => h4 x y z (e x y z q)⟩
theorem zBz.mono1 {F : Nat → Int} {L : Nat → Bool} {P P' : Int → Int → Int → Prop} {k t b v : Int} (h : zBz F L P k t b v) (e : ∀ x y z, P' x y z → 1 ≤ vot F L x y z → P x y z) : zBz F L P' k t b v := by
  rcases h with ⟨h1, h2⟩ | ⟨h1, h2, h3, h4⟩
  · refine Or.inl ⟨h1, fun x y z q => ?_⟩
    by_cases w : 1 ≤ vot F L x y z
    · exact h2 x y z (e x y z q w)
    · omega
  · exact Or.inr ⟨h1, h2, h3, fun x y z q w => h4 x y z (e x y z q w) w⟩
theorem zBz.rg {F : Nat → Int} {L : Nat → Bool} {P : Int → Int → Int → Prop} {k t b v : Int} (h : zBz F L P k t b v) (w : zWF F) : 0 ≤ v ∧ v ≤ 8 ∧ (0 < v → -3 ≤ k ∧ k ≤ 3 ∧ -20 ≤ t ∧ t ≤ 20) := by
  have f3 := w.2.2.2
  rcases h with ⟨h1, _⟩ | ⟨h1, h2, h3, _⟩
  · exact ⟨by omega, by omega, fun q => absurd q (by omega)⟩
  · have z := vot.rg (F := F) (L := L) (k := k) (t := t) (b := b)
    unfold zIr at h2
    exact ⟨by omega, by omega, fun _ => ⟨by omega, by omega, by omega, by omega⟩⟩
theorem zBz.s0 {F : Nat → Int} {L : Nat → Bool} {P : Int → Int → Int → Prop} {k0 t0 k t b v : Int} {n : Nat} (h : zBz F L P k t b v) (hn : n = 0) : zBz F L (zPq P k0 t0 F L n) k t b v := h.mono fun x y z q => by
  rcases q with q | ⟨_, _, i, hi, _⟩
  · exact q
  · omega
theorem zBz.s1 {F : Nat → Int} {L : Nat → Bool} {P : Int → Int → Int → Prop} {k0 t0 k t b v : Int} {n : Nat} (h : zBz F L (zPq P k0 t0 F L n) k t b v) (hL : L n = false) : zBz F L (zPq P k0 t0 F L (n + 1)) k t b v := h.mono fun x y z q => by
  rcases q with q | ⟨q1, q2, i, hi, q3, q4⟩
  · exact Or.inl q
  · by_cases e : i = n
    · rw [e, hL] at q3
      cases q3
    · exact Or.inr ⟨q1, q2, i, by omega, q3, q4⟩
theorem zBz.s2 {F : Nat → Int} {L : Nat → Bool} {P : Int → Int → Int → Prop} {k0 t0 k t b v : Int} {n j : Nat} (h : zBz F L (zPq P k0 t0 F L n) k t b v) (hj : j < n) (hL : L j = true) (hc : cel F k0 t0 j = cel F k0 t0 n) : zBz F L (zPq P k0 t0 F L (n + 1)) k t b v := h.mono fun x y z q => by
  rcases q with q | ⟨q1, q2, i, hi, q3, q4⟩
  · exact Or.inl q
  · by_cases e : i = n
    · rw [e] at q4
      exact Or.inr ⟨q1, q2, j, hj, hL, hc.trans q4⟩
    · exact Or.inr ⟨q1, q2, i, by omega, q3, q4⟩
theorem zBz.s3 {F : Nat → Int} {L : Nat → Bool} {P : Int → Int → Int → Prop} {k0 t0 k t b v c x : Int} {n : Nat} (h : zBz F L (zPq P k0 t0 F L n) k t b v) (hc : cel F k0 t0 n = c) (hx : x = vot F L k0 t0 c) (hv : 0 < v) (hz : ¬ zah x k0 t0 c v k t b) : zBz F L (zPq P k0 t0 F L (n + 1)) k t b v := by
  rcases h with ⟨h1, _⟩ | ⟨h1, h2, h3, h4⟩
  · omega
  · refine Or.inr ⟨h1, h2, h3, fun x' y z q w => ?_⟩
    rcases q with q | ⟨q1, q2, i, hi, q3, q4⟩
    · exact h4 _ _ _ (Or.inl q) w
    · by_cases e : i = n
      · subst e
        subst q1
        subst q2
        rw [hc] at q4
        subst q4
        rw [← hx]
        exact hz
      · exact h4 _ _ _ (Or.inr ⟨q1, q2, i, by omega, q3, q4⟩) w
theorem zBz.s4 {F : Nat → Int} {L : Nat → Bool} {P : Int → Int → Int → Prop} {k0 t0 k t b v c x : Int} {n : Nat} (h : zBz F L (zPq P k0 t0 F L n) k t b v) (hc : cel F k0 t0 n = c) (hx : x = vot F L k0 t0 c) (hi : zIr F k0 t0) (h1 : 1 ≤ x) (hz : v ≤ 0 ∨ zah x k0 t0 c v k t b) : zBz F L (zPq P k0 t0 F L (n + 1)) k0 t0 c x := by
  have old : ∀ k' t' b', zPq P k0 t0 F L n k' t' b' → 1 ≤ vot F L k' t' b' → ¬ zah (vot F L k' t' b') k' t' b' x k0 t0 c := fun k' t' b' q w z => by
    rcases h with ⟨a1, a2⟩ | ⟨a1, a2, a3, a4⟩
    · have y := a2 _ _ _ q
      omega
    · rcases hz with e | e
      · omega
      · exact a4 _ _ _ q w (z.trans e)
  refine Or.inr ⟨h1, hi, hx, fun x' y z q w => ?_⟩
  rcases q with q | ⟨q1, q2, i, hi', q3, q4⟩
  · exact old _ _ _ (Or.inl q) w
  · by_cases e : i = n
    · subst e
      subst q1
      subst q2
      rw [hc] at q4
      subst q4
      rw [← hx]
      exact zah.irr
    · exact old _ _ _ (Or.inr ⟨q1, q2, i, by omega, q3, q4⟩) w
theorem zBz.s6 {F : Nat → Int} {L : Nat → Bool} {P : Int → Int → Int → Prop} {k0 t0 k t b v : Int} {n : Nat} (h : zBz F L (zPq P k0 t0 F L n) k t b v) (hn : F 1 = (n : Int)) : zBz F L (fun x y z => P x y z ∨ (x = k0 ∧ y = t0)) k t b v := h.mono1 fun x y z q w => by
  rcases q with q | ⟨q1, q2⟩
  · exact Or.inl q
  · obtain ⟨i, i1, i2, i3⟩ := vot.ex w
    subst q1
    subst q2
    exact Or.inr ⟨rfl, rfl, i, by omega, i2, i3⟩
abbrev zBm (M : zM) (F : Nat → Int) (L : Nat → Bool) (P : Int → Int → Int → Prop) : Prop := zBz F L P (zI M 336 19).toInt (zI M 336 20).toInt (zI M 336 21).toInt (zI M 336 18).toInt
/-- shapes up to one -/
def zSe (F : Nat → Int) (k t : Int) (x y _z : Int) : Prop := zIr F x y ∧ (x < k ∨ (x = k ∧ y < t))
theorem zBz.e0 {F : Nat → Int} {L : Nat → Bool} {k t b v k0 t0 : Int} (hv : v = 0) (hk : k0 = -F 5) (ht : t0 = -F 6) : zBz F L (zSe F k0 t0) k t b v := Or.inl ⟨hv, fun x y z q => by
  unfold zSe zIr at q
  omega⟩
theorem zBz.e1 {F : Nat → Int} {L : Nat → Bool} {k t b v k0 t0 t1 : Int} (h : zBz F L (fun x y z => zSe F k0 t0 x y z ∨ (x = k0 ∧ y = t0)) k t b v) (h1 : t1 = t0 + 1) : zBz F L (zSe F k0 t1) k t b v := h.mono fun x y z q => by
  unfold zSe at q ⊢
  by_cases e : x = k0 ∧ y = t0
  · exact Or.inr e
  · exact Or.inl ⟨q.1, by omega⟩
theorem zBz.e2 {F : Nat → Int} {L : Nat → Bool} {k t b v k0 t0 k1 t1 : Int} (h : zBz F L (zSe F k0 t0) k t b v) (hk : k1 = k0 + 1) (h0 : F 6 < t0) (h1 : t1 ≤ -F 6) : zBz F L (zSe F k1 t1) k t b v := h.mono fun x y z q => by
  unfold zSe zIr at q ⊢
  exact ⟨q.1, by omega⟩
theorem zBz.e3 {F : Nat → Int} {L : Nat → Bool} {k t b v k0 t0 : Int} (h : zBz F L (zSe F k0 t0) k t b v) (hk : F 5 < k0) : zBz F L (fun x y _ => zIr F x y) k t b v := h.mono fun x y z q => by
  unfold zSe
  refine ⟨q, ?_⟩
  unfold zIr at q
  omega
theorem zBz.be {F : Nat → Int} {L : Nat → Bool} {k t b v : Int} (h : zBz F L (fun x y _ => zIr F x y) k t b v) (hv : 1 ≤ v) : zBe F L (k, t, b) v := by
  rcases h with ⟨h1, _⟩ | ⟨h1, h2, h3, h4⟩
  · omega
  · exact ⟨h2, h3, h1, fun x y z q w => h4 x y z q w⟩
theorem zBz.none {F : Nat → Int} {L : Nat → Bool} {k t b v need : Int} (h : zBz F L (fun x y _ => zIr F x y) k t b v) (hv : v < need ∨ v ≤ 0) (hn : 1 ≤ need) : ∀ k t b, zIr F k t → vot F L k t b < need := fun x y z q => by
  rcases h with ⟨h1, h2⟩ | ⟨h1, h2, h3, h4⟩
  · have w := h2 x y z q
    omega
  · by_cases e : vot F L x y z < 1
    · omega
    · have w := h4 x y z q (by omega)
      unfold zah at w
      omega
/-! ===== what is left at first ===== -/
def zL0 (F : Nat → Int) (a : Int) (h : Nat) : Bool := zctb F h && decide (F (30 + 4 * h) ≠ a)
theorem zL0.y {F : Nat → Int} {a : Int} {h : Nat} (h1 : zctb F h = true) (h2 : F (30 + 4 * h) ≠ a) : zL0 F a h = true := by
  unfold zL0
  rw [h1, decide_eq_true h2]
  rfl
theorem zL0.n {F : Nat → Int} {a : Int} {h : Nat} (h1 : zctb F h = false ∨ F (30 + 4 * h) = a) : zL0 F a h = false := by
  unfold zL0
  rcases h1 with h1 | h1
  · rw [h1]
    rfl
  · rw [decide_eq_false (show ¬ F (30 + 4 * h) ≠ a from fun q => q h1), Bool.and_false]
def zLz (M : zM) (F : Nat → Int) (a : Int) (n : Nat) : Prop := ∀ h : Nat, h < n → ((zI M 343 h).toInt ≠ 0 ↔ zL0 F a h = true) ∧ (zI M 350 h).toInt = -2
theorem zLz.put {M : zM} {F : Nat → Int} {a : Int} {n : Nat} {v w : Int32} (x : zLz M F a n) (hv : (v.toInt = 1 ∧ zctb F n = true ∧ F (30 + 4 * n) ≠ a) ∨ (v.toInt = 0 ∧ (zctb F n = false ∨ F (30 + 4 * n) = a))) (hw : w.toInt = -2) : zLz (zsI (zsI M 343 n v) 350 n w) F a (n + 1) := fun h h1 => by
  by_cases e : h = n
  · subst e
    refine ⟨?_, by rw [zIs]; exact hw⟩
    rw [zIo (by decide), zIs]
    rcases hv with ⟨q1, q2, q3⟩ | ⟨q1, q2⟩
    · exact ⟨fun _ => zL0.y q2 q3, fun _ => by omega⟩
    · exact ⟨fun z => absurd q1 z, fun z => by rw [zL0.n q2] at z; cases z⟩
  · have z := x h (by omega)
    refine ⟨?_, by rw [zIoj e, zIo (by decide)]; exact z.2⟩
    rw [zIo (by decide), zIoj e]
    exact z.1
theorem zLz.lf {M : zM} {F : Nat → Int} {a : Int} {n : Nat} (x : zLz M F a n) (hn : F 1 ≤ (n : Int)) : zLf M F (zL0 F a) := fun h h1 => (x h (by omega)).1
/-! ===== a track in the model's memory ===== -/
def zTs (M : zM) (F : Nat → Int) (i : Nat) (τ : zTkk) : Prop := (zI M 345 i).toInt = τ.1.1 ∧ (zI M 346 i).toInt = τ.1.2.1 ∧ (zI M 347 i).toInt = τ.1.2.2 ∧ (zI M 348 i).toInt = τ.2.1 ∧ ∀ l : Nat, (l : Int) < F 0 → (zI M 349 (8 * i + l)).toInt = τ.2.2 l
/-- whose a hit is -/
def zoH (F : Nat → Int) (τ : Nat → zTkk) : Nat → Nat → Int
  | 0, _ => -2
  | i + 1, h => if (τ i).2.2 (F (30 + 4 * h)).toNat = (h : Int) then (i : Int) else zoH F τ i h
def zTms (M : zM) (F : Nat → Int) (n : Nat) (τ : Nat → zTkk) : Prop := (∀ i, i < n → zTs M F i (τ i)) ∧ ∀ h : Nat, (h : Int) < F 1 → (zI M 350 h).toInt = zoH F τ n h
theorem zTms.fr {M M' : zM} {F : Nat → Int} {n : Nat} {τ : Nat → zTkk} (x : zTms M F n τ) (e : zEq [(345, 350, none)] M M') : zTms M' F n τ := by
  refine ⟨fun i hi => ?_, fun h hh => ?_⟩
  · obtain ⟨h1, h2, h3, h4, h5⟩ := x.1 i hi
    refine ⟨?_, ?_, ?_, ?_, fun l hl => ?_⟩
    · rw [e 345 i rfl]; exact h1
    · rw [e 346 i rfl]; exact h2
    · rw [e 347 i rfl]; exact h3
    · rw [e 348 i rfl]; exact h4
    · rw [e 349 _ rfl]; exact h5 l hl
  · rw [e 350 h rfl]
    exact x.2 h hh
theorem zTms.zero {M : zM} {F : Nat → Int} {a : Int} {n : Nat} {τ : Nat → zTkk} (x : zLz M F a n) (hn : F 1 ≤ (n : Int)) : zTms M F 0 τ := ⟨fun i hi => absurd hi (by omega), fun h hh => (x h (by omega)).2⟩
def uT (τ : Nat → zTkk) (i : Nat) (q : zTkk) (j : Nat) : zTkk := if j = i then q else τ j
theorem uT.s {τ : Nat → zTkk} {i : Nat} {q : zTkk} : uT τ i q i = q := if_pos rfl
theorem uT.o {τ : Nat → zTkk} {i j : Nat} {q : zTkk} (h : j ≠ i) : uT τ i q j = τ j := if_neg h
theorem zoH.cg {F : Nat → Int} {τ τ' : Nat → zTkk} {h : Nat} : ∀ n : Nat, (∀ i, i < n → τ' i = τ i) → zoH F τ' n h = zoH F τ n h
  | 0, _ => rfl
  | n + 1, e => by
    show (if (τ' n).2.2 (F (30 + 4 * h)).toNat = (h : Int) then (n : Int) else zoH F τ' n h) = (if (τ n).2.2 (F (30 + 4 * h)).toNat = (h : Int) then (n : Int) else zoH F τ n h)
    rw [e n (by omega), zoH.cg n (fun i hi => e i (by omega))]
/-! ===== the hits of a track ===== -/
theorem mid.mk {x y m q v : Int32} {A B : Int} (h1 : x * y = m) (h2 : q.toInt = y.toInt / 2) (h3 : v = m + q) (hx : x.toInt = A) (hy : y.toInt = B) (b1 : -150000000 ≤ A * B) (b2 : A * B ≤ 150000000) (b3 : 0 ≤ B) (b4 : B ≤ 999) : v.toInt = A * B + B / 2 := by
  subst h1
  subst h3
  rw [Int32.toInt_add, h2, zmulc hx hy (by omega) (by omega), hy]
  exact Int.bmod_eq_of_le (by omega) (by omega)
theorem zBe.b {F : Nat → Int} {L : Nat → Bool} {c : zCl} {v : Int} (h : zBe F L c v) (w : zWF F) : -150000000 ≤ c.2.2 * F 7 ∧ c.2.2 * F 7 ≤ 150000000 := by
  obtain ⟨h1, h2, h3, _⟩ := h
  rw [h2] at h3
  obtain ⟨i, i1, i2, i3⟩ := vot.ex h3
  have f1 := w.1
  have f3 := w.2.2.2
  have hw := w.2.2.1 i (by omega)
  obtain ⟨l, hl⟩ : ∃ l : Nat, F (30 + 4 * i) = (l : Int) := ⟨(F (30 + 4 * i)).toNat, by omega⟩
  have v1 := w.2.1 l (by omega)
  unfold zIr at h1
  have q := pLf.b (F := F) (l := l) (t := c.2.1) (k := c.1) v1.1 v1.2.1 (by omega) (by omega) (by omega) (by omega)
  unfold cel at i3
  rw [show (F (30 + 4 * i)).toNat = l by omega] at i3
  have g : -110000000 ≤ F (31 + 4 * i) - pLf F l c.2.1 c.1 ∧ F (31 + 4 * i) - pLf F l c.2.1 c.1 ≤ 110000000 := by
    unfold pLf
    omega
  have e := Int.emod_add_mul_ediv (F (31 + 4 * i) - pLf F l c.2.1 c.1) (F 7)
  have m1 := Int.emod_nonneg (F (31 + 4 * i) - pLf F l c.2.1 c.1) (show F 7 ≠ 0 by omega)
  have m2 := Int.emod_lt_of_pos (F (31 + 4 * i) - pLf F l c.2.1 c.1) (show 0 < F 7 by omega)
  rw [i3, Int.mul_comm] at e
  omega
theorem zcd.l {F : Nat → Int} {L : Nat → Bool} {k t b : Int} {l h : Nat} (q : F (30 + 4 * h) ≠ (l : Int)) : zcd F L k t b l h = false := by
  unfold zcd
  rw [decide_eq_false q, Bool.and_false]
theorem zcd.v {F : Nat → Int} {L : Nat → Bool} {k t b : Int} {l h : Nat} (q : vh F L k t b h = false) : zcd F L k t b l h = false := by
  unfold zcd
  rw [q, Bool.false_and]
theorem zcd.y {F : Nat → Int} {L : Nat → Bool} {k t b : Int} {l h : Nat} (hL : L h = true) (hc : cel F k t h = b) (q : F (30 + 4 * h) = (l : Int)) : zcd F L k t b l h = true := by
  unfold zcd
  rw [vh.y hL hc, decide_eq_true q]
  rfl
theorem zcd.o {F : Nat → Int} {L : Nat → Bool} {k t b : Int} {l h : Nat} (q : L h = true → cel F k t h ≠ b) : zcd F L k t b l h = false := by
  cases e : L h with
  | false => exact zcd.v (vh.n e)
  | true => exact zcd.v (vh.o (q e))
theorem zNr.l {F : Nat → Int} {L : Nat → Bool} {c : zCl} {l b : Nat} (h : zNr F L c l (b : Int)) : F (30 + 4 * b) = (l : Int) := by
  rcases h with ⟨h1, _⟩ | ⟨x, h1, h2, h3, _⟩
  · omega
  · obtain rfl : b = x := by omega
    unfold zcd at h3
    rw [Bool.and_eq_true, decide_eq_true_eq] at h3
    exact h3.2
/-- the nearest so far -/
def zNs (F : Nat → Int) (L : Nat → Bool) (c : zCl) (l n : Nat) (x d : Int) : Prop := (x = -2 ∧ ∀ h : Nat, h < n → zcd F L c.1 c.2.1 c.2.2 l h = false) ∨ ∃ h : Nat, h < n ∧ x = (h : Int) ∧ zcd F L c.1 c.2.1 c.2.2 l h = true ∧ d = aw F c.1 c.2.1 c.2.2 l h ∧ ∀ j : Nat, j < n → zcd F L c.1 c.2.1 c.2.2 l j = true → aw F c.1 c.2.1 c.2.2 l h < aw F c.1 c.2.1 c.2.2 l j ∨ (aw F c.1 c.2.1 c.2.2 l h = aw F c.1 c.2.1 c.2.2 l j ∧ h ≤ j)
theorem zNs.zero {F : Nat → Int} {L : Nat → Bool} {c : zCl} {l n : Nat} {x d : Int} (hn : n = 0) (hx : x = -2) : zNs F L c l n x d := Or.inl ⟨hx, fun h q => absurd q (by omega)⟩
theorem zNs.skip {F : Nat → Int} {L : Nat → Bool} {c : zCl} {l n : Nat} {x d : Int} (z : zNs F L c l n x d) (hc : zcd F L c.1 c.2.1 c.2.2 l n = false) : zNs F L c l (n + 1) x d := by
  rcases z with ⟨z1, z2⟩ | ⟨h, z1, z2, z3, z4, z5⟩
  · refine Or.inl ⟨z1, fun h q => ?_⟩
    by_cases e : h = n
    · rw [e]; exact hc
    · exact z2 h (by omega)
  · refine Or.inr ⟨h, by omega, z2, z3, z4, fun j q w => ?_⟩
    by_cases e : j = n
    · rw [e, hc] at w
      cases w
    · exact z5 j (by omega) w
theorem zNs.new {F : Nat → Int} {L : Nat → Bool} {c : zCl} {l n : Nat} {x d y e : Int} (z : zNs F L c l n x d) (hc : zcd F L c.1 c.2.1 c.2.2 l n = true) (hy : y = (n : Int)) (he : e = aw F c.1 c.2.1 c.2.2 l n) (hq : x = -2 ∨ e < d) : zNs F L c l (n + 1) y e := by
  refine Or.inr ⟨n, by omega, hy, hc, he, fun j q w => ?_⟩
  by_cases en : j = n
  · subst en
    exact Or.inr ⟨rfl, Nat.le_refl _⟩
  · rcases z with ⟨z1, z2⟩ | ⟨h, z1, z2, z3, z4, z5⟩
    · have y := z2 j (by omega)
      rw [w] at y
      cases y
    · have y := z5 j (by omega) w
      omega
theorem zNs.keep {F : Nat → Int} {L : Nat → Bool} {c : zCl} {l n : Nat} {x d e : Int} (z : zNs F L c l n x d) (he : e = aw F c.1 c.2.1 c.2.2 l n) (h1 : x ≠ -2) (h2 : d ≤ e) : zNs F L c l (n + 1) x d := by
  rcases z with ⟨z1, z2⟩ | ⟨h, z1, z2, z3, z4, z5⟩
  · exact absurd z1 h1
  · refine Or.inr ⟨h, by omega, z2, z3, z4, fun j q w => ?_⟩
    by_cases en : j = n
    · subst en
      omega
    · exact z5 j (by omega) w
theorem zNs.nr {F : Nat → Int} {L : Nat → Bool} {c : zCl} {l n : Nat} {x d : Int} (z : zNs F L c l n x d) (hn : F 1 = (n : Int)) : zNr F L c l x := by
  rcases z with ⟨z1, z2⟩ | ⟨h, z1, z2, z3, z4, z5⟩
  · exact Or.inl ⟨z1, fun h q => z2 h (by omega)⟩
  · exact Or.inr ⟨h, by omega, z2, z3, fun j q w => z5 j (by omega) w⟩
def zTn (F : Nat → Int) (M : zM) (i l h : Nat) : Prop := (F (30 + 4 * h)).toNat < l ∧ (zI M 349 (8 * i + (F (30 + 4 * h)).toNat)).toInt = (h : Int)
/-- the hits of the layers up to one are taken -/
def zTw (M Mn : zM) (F : Nat → Int) (L : Nat → Bool) (c : zCl) (i l : Nat) : Prop := (∀ j : Nat, j < l → zNr F L c j (zI Mn 349 (8 * i + j)).toInt) ∧ (∀ h : Nat, (h : Int) < F 1 → ((zI Mn 343 h).toInt ≠ 0 ↔ (L h = true ∧ ¬ zTn F Mn i l h)) ∧ (zTn F Mn i l h → (zI Mn 350 h).toInt = (i : Int)) ∧ (¬ zTn F Mn i l h → zI Mn 350 h = zI M 350 h)) ∧ ∀ j : Nat, j < 8 * i → zI Mn 349 j = zI M 349 j
theorem zTw.zero {M Mn : zM} {F : Nat → Int} {L : Nat → Bool} {c : zCl} {i l : Nat} (hl : l = 0) (x : zLf M F L) (e3 : ∀ j, zI Mn 343 j = zI M 343 j) (e9 : ∀ j, zI Mn 349 j = zI M 349 j) (e0 : ∀ j, zI Mn 350 j = zI M 350 j) : zTw M Mn F L c i l := by
  subst hl
  refine ⟨fun j q => absurd q (by omega), fun h hh => ?_, fun j _ => e9 j⟩
  have nt : ¬ zTn F Mn i 0 h := fun q => absurd q.1 (by omega)
  refine ⟨?_, fun q => absurd q nt, fun _ => e0 h⟩
  rw [e3]
  exact ⟨fun q => ⟨(x h hh).mp q, nt⟩, fun q => (x h hh).mpr q.1⟩
theorem zTw.lv {M Mn : zM} {F : Nat → Int} {L : Nat → Bool} {c : zCl} {i l h : Nat} (x : zTw M Mn F L c i l) (hh : (h : Int) < F 1) (hl : F (30 + 4 * h) = (l : Int)) : (zI Mn 343 h).toInt ≠ 0 ↔ L h = true := by
  have z := (x.2.1 h hh).1
  have nt : ¬ zTn F Mn i l h := fun q => absurd q.1 (by omega)
  exact ⟨fun q => (z.mp q).1, fun q => z.mpr ⟨q, nt⟩⟩
theorem zTw.c0 {M Mn : zM} {F : Nat → Int} {L : Nat → Bool} {c : zCl} {i l h : Nat} {k t b : Int} (x : zTw M Mn F L c i l) (hh : (h : Int) < F 1) (h0 : (zI Mn 343 h).toInt = 0) : zcd F L k t b l h = false := by
  by_cases hl : F (30 + 4 * h) = (l : Int)
  · refine zcd.v (vh.n ?_)
    cases e : L h with
    | false => rfl
    | true => exact absurd h0 ((x.lv hh hl).mpr e)
  · exact zcd.l hl
theorem zTw.miss {M Mn : zM} {F : Nat → Int} {L : Nat → Bool} {c : zCl} {i l : Nat} {v : Int32} (x : zTw M Mn F L c i l) (hn : zNr F L c l (-2)) (hv : v.toInt = -2) : zTw M (zsI Mn 349 (8 * i + l) v) F L c i (l + 1) := by
  have tn : ∀ h : Nat, zTn F (zsI Mn 349 (8 * i + l) v) i (l + 1) h ↔ zTn F Mn i l h := fun h => by
    unfold zTn
    by_cases e : (F (30 + 4 * h)).toNat = l
    · rw [e, zIs]
      omega
    · rw [zIoj (by omega)]
      omega
  refine ⟨fun j hj => ?_, fun h hh => ?_, fun j hj => by rw [zIoj (by omega)]; exact x.2.2 j hj⟩
  · by_cases e : j = l
    · subst e
      rw [zIs, hv]
      exact hn
    · rw [zIoj (by omega)]
      exact x.1 j (by omega)
  · rw [zIo (by decide), zIo (by decide), tn h]
    exact x.2.1 h hh
theorem zTw.hit {M Mn : zM} {F : Nat → Int} {L : Nat → Bool} {c : zCl} {i l b : Nat} {v w z : Int32} (x : zTw M Mn F L c i l) (hb : F (30 + 4 * b) = (l : Int)) (hn : zNr F L c l (b : Int)) (hv : v.toInt = (b : Int)) (hw : w.toInt = (i : Int)) (hz : z.toInt = 0) : zTw M (zsI (zsI (zsI Mn 349 (8 * i + l) v) 350 b w) 343 b z) F L c i (l + 1) := by
  have tb : ∀ h : Nat, h = b → ¬ zTn F Mn i l h := fun h e q => by
    subst e
    exact absurd q.1 (by omega)
  have tn : ∀ h : Nat, zTn F (zsI (zsI (zsI Mn 349 (8 * i + l) v) 350 b w) 343 b z) i (l + 1) h ↔ (h = b ∨ zTn F Mn i l h) := fun h => by
    unfold zTn
    rw [zIo (by decide), zIo (by decide)]
    by_cases e : (F (30 + 4 * h)).toNat = l
    · rw [e, zIs]
      omega
    · rw [zIoj (by omega)]
      have q : h ≠ b := fun q => by
        subst q
        omega
      omega
  refine ⟨fun j hj => ?_, fun h hh => ?_, fun j hj => by rw [zIo (by decide), zIo (by decide), zIoj (by omega)]; exact x.2.2 j hj⟩
  · rw [zIo (by decide), zIo (by decide)]
    by_cases e : j = l
    · subst e
      rw [zIs, hv]
      exact hn
    · rw [zIoj (by omega)]
      exact x.1 j (by omega)
  · have y := x.2.1 h hh
    by_cases e : h = b
    · subst e
      have t1 := (tn h).mpr (Or.inl rfl)
      rw [zIs, zIo (by decide), zIs]
      exact ⟨⟨fun q => absurd hz q, fun q => absurd t1 q.2⟩, fun _ => hw, fun q => absurd t1 q⟩
    · have t2 : zTn F (zsI (zsI (zsI Mn 349 (8 * i + l) v) 350 b w) 343 b z) i (l + 1) h ↔ zTn F Mn i l h := (tn h).trans ⟨fun q => q.resolve_left e, Or.inr⟩
      rw [zIoj e, zIo (by decide), zIo (by decide), zIo (by decide), zIoj e, zIo (by decide), t2]
      exact y
theorem zTw.fin {M Mn N : zM} {F : Nat → Int} {L : Nat → Bool} {c : zCl} {i l : Nat} {τ : Nat → zTkk} {v : Int} (x : zTw M Mn F L c i l) (w : zWF F) (hl : F 0 = (l : Int)) (hq : zBe F L c v) (h0 : zTms M F i τ) (e1 : zEq [(345, 348, none)] M Mn) (a1 : (zI N 345 i).toInt = c.1) (a2 : (zI N 346 i).toInt = c.2.1) (a3 : (zI N 347 i).toInt = c.2.2) (a4 : (zI N 348 i).toInt = v) (o : ∀ k j : Nat, j ≠ i → 345 ≤ k → k ≤ 348 → zI N k j = zI Mn k j) (o3 : ∀ j : Nat, zI N 343 j = zI Mn 343 j) (o9 : ∀ j : Nat, zI N 349 j = zI Mn 349 j) (o0 : ∀ j : Nat, zI N 350 j = zI Mn 350 j) : ∃ q : zTkk, zTq F L q ∧ zLf N F (zrmv F L q.2.2) ∧ zTms N F (i + 1) (uT τ i q) := by
  have f1 := w.1
  refine ⟨(c, v, fun j => if (j : Int) < F 0 then (zI Mn 349 (8 * i + j)).toInt else -2), ⟨hq, fun j => ⟨fun hj => ?_, fun hj => ?_⟩⟩, fun h hh => ?_, fun j hj => ?_, fun h hh => ?_⟩
  · show zNr F L c j (if (j : Int) < F 0 then (zI Mn 349 (8 * i + j)).toInt else -2)
    by_cases e : (j : Int) < F 0
    · rw [if_pos e]
      exact x.1 j (by omega)
    · rw [if_neg e]
      exact Or.inl ⟨rfl, fun h hh => zcd.l (by have z := w.2.2.1 h hh; omega)⟩
  · show (if (j : Int) < F 0 then (zI Mn 349 (8 * i + j)).toInt else -2) = -2
    rw [if_neg (by omega)]
  · have z := w.2.2.1 h hh
    have y := (x.2.1 h hh).1
    rw [o3, y]
    show (L h = true ∧ ¬ zTn F Mn i l h) ↔ (L h && decide ((if ((F (30 + 4 * h)).toNat : Int) < F 0 then (zI Mn 349 (8 * i + (F (30 + 4 * h)).toNat)).toInt else -2) ≠ (h : Int))) = true
    rw [Bool.and_eq_true, decide_eq_true_eq, if_pos (by omega)]
    unfold zTn
    exact ⟨fun q => ⟨q.1, fun r => q.2 ⟨by omega, r⟩⟩, fun q => ⟨q.1, fun r => q.2 r.2⟩⟩
  · by_cases e : j = i
    · subst e
      rw [uT.s]
      exact ⟨a1, a2, a3, a4, fun m hm => by rw [o9]; exact (if_pos hm).symm⟩
    · rw [uT.o e]
      obtain ⟨g1, g2, g3, g4, g5⟩ := h0.1 j (by omega)
      refine ⟨?_, ?_, ?_, ?_, fun m hm => ?_⟩
      · rw [o 345 j e (by omega) (by omega), e1 345 j rfl]; exact g1
      · rw [o 346 j e (by omega) (by omega), e1 346 j rfl]; exact g2
      · rw [o 347 j e (by omega) (by omega), e1 347 j rfl]; exact g3
      · rw [o 348 j e (by omega) (by omega), e1 348 j rfl]; exact g4
      · rw [o9, x.2.2 _ (by omega)]; exact g5 m hm
  · have z := w.2.2.1 h hh
    have y := (x.2.1 h hh).2
    rw [o0]
    show _ = (if (uT τ i _ i).2.2 (F (30 + 4 * h)).toNat = (h : Int) then (i : Int) else zoH F (uT τ i _) i h)
    rw [uT.s, zoH.cg (τ := τ) i (fun j hj => uT.o (by omega))]
    show _ = (if (if ((F (30 + 4 * h)).toNat : Int) < F 0 then (zI Mn 349 (8 * i + (F (30 + 4 * h)).toNat)).toInt else -2) = (h : Int) then (i : Int) else zoH F τ i h)
    rw [if_pos (show ((F (30 + 4 * h)).toNat : Int) < F 0 by omega)]
    by_cases e : (zI Mn 349 (8 * i + (F (30 + 4 * h)).toNat)).toInt = (h : Int)
    · rw [if_pos e]
      exact y.1 ⟨by omega, e⟩
    · rw [if_neg e, y.2 (fun q => e q.2)]
      exact h0.2 h hh
/-! ===== one behind the other ===== -/
theorem zSq.nil {F : Nat → Int} {L0 : Nat → Bool} {τ : Nat → zTkk} : zSq F L0 0 τ (fun _ => L0) := ⟨rfl, fun i h => absurd h (by omega)⟩
def uL (Λ : Nat → Nat → Bool) (i : Nat) (L : Nat → Bool) (j : Nat) : Nat → Bool := if j = i then L else Λ j
theorem uL.s {Λ : Nat → Nat → Bool} {i : Nat} {L : Nat → Bool} : uL Λ i L i = L := if_pos rfl
theorem uL.o {Λ : Nat → Nat → Bool} {i j : Nat} {L : Nat → Bool} (h : j ≠ i) : uL Λ i L j = Λ j := if_neg h
theorem zSq.more {F : Nat → Int} {L0 : Nat → Bool} {n : Nat} {τ : Nat → zTkk} {Λ : Nat → Nat → Bool} {q : zTkk} (h : zSq F L0 n τ Λ) (hq : zTq F (Λ n) q) : zSq F L0 (n + 1) (uT τ n q) (uL Λ (n + 1) (zrmv F (Λ n) q.2.2)) := by
  refine ⟨by rw [uL.o (by omega)]; exact h.1, fun i hi => ?_⟩
  by_cases e : i = n
  · subst e
    rw [uL.o (by omega), uL.s, uT.s]
    exact ⟨hq, rfl⟩
  · rw [uL.o (by omega), uL.o (by omega), uT.o e]
    exact h.2 i (by omega)
theorem zBz.e5 {F : Nat → Int} {L : Nat → Bool} {k t b v k0 t0 k1 t1 : Int} (h : zBz F L (zSe F k0 t0) k t b v) (hk : k1 = k0) (ht : t1 = t0) : zBz F L (zSe F k1 t1) k t b v := by
  rw [hk, ht]
  exact h
/-- the finder's loop -/
def zFq (M : zM) (F : Nat → Int) (b need e : Int) (n : Nat) (τ : Nat → zTkk) (Λ : Nat → Nat → Bool) : Prop := (zI M 336 22).toInt = (n : Int) ∧ n ≤ 20 ∧ zSq F (zL0 F b) n τ Λ ∧ (∀ i, i < n → need ≤ (τ i).2.1) ∧ zTms M F n τ ∧ zLf M F (Λ n) ∧ (e = 0 → ∀ x y z, zIr F x y → vot F (Λ n) x y z < need)
theorem zFq.start {M : zM} {F : Nat → Int} {b need e : Int} (h2 : (zI M 336 22).toInt = 0) (hl : zLf M F (zL0 F b)) (h0 : ∀ h : Nat, (h : Int) < F 1 → (zI M 350 h).toInt = -2) (he : e = 1) : ∃ n τ Λ, zFq M F b need e n τ Λ :=
  ⟨0, fun _ => ((0, 0, 0), 0, fun _ => 0), fun _ => zL0 F b, h2, by omega, zSq.nil, fun i hi => absurd hi (by omega), ⟨fun i hi => absurd hi (by omega), fun h hh => h0 h hh⟩, hl, fun q => absurd q (by omega)⟩
theorem zFq.stop {M M' : zM} {F : Nat → Int} {b need e e' : Int} {n : Nat} {τ : Nat → zTkk} {Λ : Nat → Nat → Bool} (x : zFq M F b need e n τ Λ) (h2 : (zI M' 336 22).toInt = (n : Int)) (hm : zTms M' F n τ) (hl : zLf M' F (Λ n)) (hv : ∀ x y z, zIr F x y → vot F (Λ n) x y z < need) : ∃ n τ Λ, zFq M' F b need e' n τ Λ :=
  ⟨n, τ, Λ, h2, x.2.1, x.2.2.1, x.2.2.2.1, hm, hl, fun _ => hv⟩
theorem zFq.more {M N : zM} {F : Nat → Int} {b need e e' v : Int} {c : zCl} {n : Nat} {τ : Nat → zTkk} {Λ : Nat → Nat → Bool} (x : zFq M F b need e n τ Λ) (h2 : (zI N 336 22).toInt = (n : Int) + 1) (hn : n < 20) (hb : zBe F (Λ n) c v) (hv : need ≤ v) (hq : ∃ q : zTkk, zTq F (Λ n) q ∧ zLf N F (zrmv F (Λ n) q.2.2) ∧ zTms N F (n + 1) (uT τ n q)) (he : e' = 1) : ∃ n τ Λ, zFq N F b need e' n τ Λ := by
  obtain ⟨q, q1, q2, q3⟩ := hq
  obtain ⟨x1, x2, x3, x4, x5, x6, x7⟩ := x
  refine ⟨n + 1, uT τ n q, uL Λ (n + 1) (zrmv F (Λ n) q.2.2), by omega, by omega, zSq.more x3 q1, fun i hi => ?_, q3, by rw [uL.s]; exact q2, fun z => absurd z (by omega)⟩
  by_cases e : i = n
  · subst e
    rw [uT.s, ← (hb.uni q1.1).2]
    exact hv
  · rw [uT.o e]
    exact x4 i (by omega)
def zFd (M : zM) (F : Nat → Int) (b need : Int) : Prop := ∃ (n : Nat) (τ : Nat → zTkk) (Λ : Nat → Nat → Bool), (zI M 336 22).toInt = (n : Int) ∧ n ≤ 20 ∧ zSq F (zL0 F b) n τ Λ ∧ (∀ i, i < n → need ≤ (τ i).2.1) ∧ zTms M F n τ ∧ zEn F need n Λ
theorem zFd.mk {M : zM} {F : Nat → Int} {b need e : Int} {n : Nat} {τ : Nat → zTkk} {Λ : Nat → Nat → Bool} (x : zFq M F b need e n τ Λ) (h : e = 0 ∨ 20 ≤ n) : zFd M F b need := by
  obtain ⟨x1, x2, x3, x4, x5, x6, x7⟩ := x
  refine ⟨n, τ, Λ, x1, x2, x3, x4, x5, ?_⟩
  rcases h with h | h
  · exact Or.inr (x7 h)
  · exact Or.inl (by omega)
