/-- the class's look at a sign -/
def zpk (M : zM) : Int32 := if (zI M 161 5).toInt = -1 ∧ (zI M 161 3).toInt < (zI M 161 2).toInt then zI M 163 (zI M 161 3).toInt.toNat &&& 255 else -1
theorem zsy.rg {f : Nat → Int32} {n : Int} {p : Nat} : -1 ≤ zsy f n p ∧ zsy f n p ≤ 255 ∧ (zsy f n p < 0 ∨ (p : Int) < n) := by
  unfold zsy
  split
  · rename_i q
    have h := zand (a := f p) (m := 255) (e := 255) (by decide) (by decide)
    exact ⟨by omega, h.2, Or.inr q⟩
  · exact ⟨by decide, by decide, Or.inl (by decide)⟩
theorem zpk.at {M M0 : zM} {p : Nat} (h1 : ∀ j, zI M 163 j = zI M0 163 j) (h2 : zI M 161 2 = zI M0 161 2) (hf : (zI M 161 5).toInt = -1) (hp : (zI M 161 3).toInt = (p : Int)) : (zpk M).toInt = zsy (zI M0 163) (zI M0 161 2).toInt p := by
  unfold zpk zsy
  by_cases q : (p : Int) < (zI M0 161 2).toInt
  · rw [if_pos ⟨hf, by rw [h2, hp]; exact q⟩, if_pos q, show (zI M 161 3).toInt.toNat = p by omega, h1]
  · rw [if_neg (fun z => q (by rw [← h2, ← hp]; exact z.2)), if_neg q]
    decide
theorem pDg.k1 {g : Nat → Int} {p : Nat} (h0 : 48 ≤ g p ∧ g p ≤ 57) (h1 : ¬ (48 ≤ g (1 + p) ∧ g (1 + p) ≤ 57)) : pDg g 4 p = 1 + p := by
  rw [pDg.y h0, show p + 1 = 1 + p by omega, pDg.n h1]
theorem pDg.k2 {g : Nat → Int} {p : Nat} (h0 : 48 ≤ g p ∧ g p ≤ 57) (h1 : 48 ≤ g (1 + p) ∧ g (1 + p) ≤ 57) (h2 : ¬ (48 ≤ g (2 + p) ∧ g (2 + p) ≤ 57)) : pDg g 4 p = 2 + p := by
  rw [pDg.y h0, show p + 1 = 1 + p by omega, pDg.y h1, show 1 + p + 1 = 2 + p by omega, pDg.n h2]
theorem pDg.k3 {g : Nat → Int} {p : Nat} (h0 : 48 ≤ g p ∧ g p ≤ 57) (h1 : 48 ≤ g (1 + p) ∧ g (1 + p) ≤ 57) (h2 : 48 ≤ g (2 + p) ∧ g (2 + p) ≤ 57) (h3 : ¬ (48 ≤ g (3 + p) ∧ g (3 + p) ≤ 57)) : pDg g 4 p = 3 + p := by
  rw [pDg.y h0, show p + 1 = 1 + p by omega, pDg.y h1, show 1 + p + 1 = 2 + p by omega, pDg.y h2, show 2 + p + 1 = 3 + p by omega, pDg.n h3]
theorem pDg.k4 {g : Nat → Int} {p : Nat} (h0 : 48 ≤ g p ∧ g p ≤ 57) (h1 : 48 ≤ g (1 + p) ∧ g (1 + p) ≤ 57) (h2 : 48 ≤ g (2 + p) ∧ g (2 + p) ≤ 57) (h3 : 48 ≤ g (3 + p) ∧ g (3 + p) ≤ 57) : pDg g 4 p = 4 + p := by
  rw [pDg.y h0, show p + 1 = 1 + p by omega, pDg.y h1, show 1 + p + 1 = 2 + p by omega, pDg.y h2, show 2 + p + 1 = 3 + p by omega, pDg.y h3, show 3 + p + 1 = 4 + p by omega]
  rfl
theorem pDg.ge {g : Nat → Int} : ∀ (k p : Nat), p ≤ pDg g k p
  | 0, p => Nat.le_refl p
  | k + 1, p => by
    show p ≤ (if 48 ≤ g p ∧ g p ≤ 57 then pDg g k (p + 1) else p)
    split
    · exact Nat.le_trans (Nat.le_succ p) (pDg.ge k (p + 1))
    · exact Nat.le_refl p
theorem pDg.gt {g : Nat → Int} {p : Nat} (h : 48 ≤ g p ∧ g p ≤ 57) : p < pDg g 4 p := by
  rw [pDg.y h]
  exact pDg.ge 3 (p + 1)
/-! ===== the class's reading of a trigger along the automaton ===== -/
/-- what lies outside stands as it stood -/
def zou6 (M : zM) : Prop := ∀ k j, k < 6 → zI M k j = zI zM0 k j
theorem zou6.fr {M M' : zM} (h : zou6 M) (e : ∀ k j, k < 6 → zI M' k j = zI M k j) : zou6 M' := fun k j hk => (e k j hk).trans (h k j hk)
theorem zGo.zou6 {X : zX} {l : Launch} {d kc ks y pc : Nat} {ls : List (Nat × Value)} {st : List Value} {M : zM} {Q : Option Value → zM → Prop} (h : zou6 M → zGo X l d kc ks y pc ls st M Q) : zGo X l d kc ks y pc ls st M Q := fun p e R s m args below meth c H locs cells slots Qw lsA hc => h (fun k j hk => congrFun (hc.2.2.2.1.2.2.2.2.2.1 k hk).2 j) p e R s m args below meth c H locs cells slots Qw lsA hc
theorem zRs {M : zM} {k : Nat} {r : Nat → Int32} : zI (zsR M k r) k = r := by
  show zr (zI M) k r k = r
  unfold zr
  rw [if_pos rfl]
/-- the reader's signs are g, n of them -/
def zTr (M : zM) (g : Nat → Int) (n : Int) : Prop := zou6 M ∧ zsy (zI M 163) (zI M 161 2).toInt = g ∧ (zI M 161 2).toInt = n
theorem zTr.fr {M M' : zM} {g : Nat → Int} {n : Int} (h : zTr M g n) (e5 : ∀ k j, k < 6 → zI M' k j = zI M k j) (e1 : ∀ j, zI M' 163 j = zI M 163 j) (e2 : zI M' 161 2 = zI M 161 2) : zTr M' g n := by
  obtain ⟨h1, h2, h3⟩ := h
  refine ⟨h1.fr e5, ?_, by rw [e2]; exact h3⟩
  rw [e2, show zI M' 163 = zI M 163 from funext e1]
  exact h2
theorem zTr.rg {M : zM} {g : Nat → Int} {n : Int} (h : zTr M g n) (p : Nat) : -1 ≤ g p ∧ g p ≤ 255 ∧ (g p < 0 ∨ (p : Int) < n) := by
  rw [← h.2.1, ← h.2.2]
  exact zsy.rg
theorem zpk.tr {M : zM} {g : Nat → Int} {n : Int} {p : Nat} (h : zTr M g n) (hf : (zI M 161 5).toInt = -1) (hp : (zI M 161 3).toInt = (p : Int)) : (zpk M).toInt = g p := by
  rw [← h.2.1]
  exact zpk.at (fun _ => rfl) rfl hf hp
theorem zpk.no {M : zM} (hf : (zI M 161 5).toInt ≠ -1) : (zpk M).toInt = -1 := by
  unfold zpk
  rw [if_neg (fun q => hf q.1)]
  decide
theorem zi2c {x v : Int32} {e : Int} (hx : x.toInt = e) (h0 : 0 ≤ e) (h1 : e ≤ 65535) (h : (x.toUInt32 % 65536).toInt32 = v) : v.toInt = e := by
  subst h
  have h2 := zfbC (v := x) ⟨by omega, by omega⟩
  unfold zfiB at h2
  rw [decide_eq_true_eq] at h2
  rw [show (x.toUInt32 % 65536).toInt32 = x from h2]
  exact hx
/-- the place of a letter among them -/
def zlx (c : Int) : Int := if c = 110 then 0 else if c = 104 then 1 else if c = 118 then 2 else if c = 103 then 3 else if c = 109 then 4 else if c = 108 then 5 else if c = 117 then 6 else if c = 111 then 7 else -1
theorem zlx.l {c : Int} : (zlx c = -1 ∧ ¬ zltr c) ∨ (0 ≤ zlx c ∧ zlx c ≤ 7 ∧ zltr c) := by
  unfold zlx
  repeat' split
  all_goals (first | (right; refine ⟨by decide, by decide, ?_⟩; unfold zltr; omega) | (left; refine ⟨by decide, ?_⟩; unfold zltr; omega))
/-- how a reading came out: a fault and none, or no fault, and where it stands -/
def zoc (N : zM) (n : Int) (o : pO) : Prop := (∃ e : Int, (zI N 161 5).toInt = e ∧ e ≠ -1 ∧ o = .inl e) ∨ ((zI N 161 5).toInt = -1 ∧ ∃ (p : Nat) (t : Int), o = .inr (p, t) ∧ (zI N 161 3).toInt = (p : Int) ∧ (zI N 161 4).toInt = t ∧ (p : Int) ≤ n)
theorem pTh.d {g : Nat → Int} {p : Nat} {t : Int} (ht : t < 30) (hd : 48 ≤ g p ∧ g p ≤ 57) (hn : ¬ (48 ≤ g (pDg g 4 p) ∧ g (pDg g 4 p) ≤ 57)) : pTh g (p, t) = .inr (pDg g 4 p, t + 1) := by
  unfold pTh
  rw [if_neg (show ¬ 30 ≤ ((p, t) : Nat × Int).2 by show ¬ 30 ≤ t; omega), if_pos hd, if_neg hn]
theorem pTh.d5 {g : Nat → Int} {p : Nat} {t : Int} (ht : t < 30) (hd : 48 ≤ g p ∧ g p ≤ 57) (hn : 48 ≤ g (pDg g 4 p) ∧ g (pDg g 4 p) ≤ 57) : pTh g (p, t) = .inl (pDg g 4 p : Int) := by
  unfold pTh
  rw [if_neg (show ¬ 30 ≤ ((p, t) : Nat × Int).2 by show ¬ 30 ≤ t; omega), if_pos hd, if_pos hn]
theorem pTh.l {g : Nat → Int} {p : Nat} {t : Int} (ht : t < 30) (hl : zltr (g p)) : pTh g (p, t) = .inr (p + 1, t + 1) := by
  unfold pTh
  rw [if_neg (show ¬ 30 ≤ ((p, t) : Nat × Int).2 by show ¬ 30 ≤ t; omega), if_neg (show ¬ (48 ≤ g p ∧ g p ≤ 57) by unfold zltr at hl; omega), if_pos hl]
theorem pTh.no {g : Nat → Int} {p : Nat} {t : Int} (h : 30 ≤ t ∨ (¬ (48 ≤ g p ∧ g p ≤ 57) ∧ ¬ zltr (g p))) : pTh g (p, t) = .inl (p : Int) := by
  unfold pTh
  split
  · rfl
  · rename_i q
    rcases h with h | h
    · exact absurd h q
    · rw [if_neg h.1, if_neg h.2]
theorem pTh.s {g : Nat → Int} {p p' : Nat} {t t' : Int} (h : pTh g (p, t) = .inr (p', t')) : t' = t + 1 ∧ t < 30 := by
  unfold pTh at h
  split at h
  · cases h
  · rename_i q
    have q1 : ¬ 30 ≤ t := q
    split at h
    · split at h
      · cases h
      · have e := congrArg Prod.snd (Sum.inr.inj h)
        exact ⟨e.symm, by omega⟩
    · split at h
      · have e := congrArg Prod.snd (Sum.inr.inj h)
        exact ⟨e.symm, by omega⟩
      · cases h
abbrev zjn (c : Int) : Prop := c = 42 ∨ c = 43 ∨ c = 45
theorem pMo.fuel {g : Nat → Int} : ∀ (k k' : Nat) (p : Nat) (t : Int), 30 - t < (k : Int) → 30 - t < (k' : Int) → 0 ≤ t → t ≤ 30 → pMo g k (p, t) = pMo g k' (p, t)
  | 0, k', p, t, h, _, _, h3 => absurd h (by omega)
  | k + 1, 0, p, t, _, h, _, h3 => absurd h (by omega)
  | k + 1, k' + 1, p, t, h, h', h2, h3 => by
    unfold pMo
    split
    · cases hs : pTh g (((p, t) : Nat × Int).1 + 1, ((p, t) : Nat × Int).2) with
      | inl e => rfl
      | inr s =>
        obtain ⟨p', t'⟩ := s
        have e := pTh.s hs
        exact pMo.fuel k k' p' t' (by omega) (by omega) (by omega) (by omega)
    · rfl
theorem pMo.y {g : Nat → Int} {p p' : Nat} {t t' : Int} (hj : zjn (g p)) (h0 : 0 ≤ t) (h : pTh g (p + 1, t) = .inr (p', t')) : pMo g 32 (p, t) = pMo g 32 (p', t') := by
  have e := pTh.s h
  have e2 : pMo g 32 (p, t) = pMo g 31 (p', t') := by
    show (if g p = 42 ∨ g p = 43 ∨ g p = 45 then (match pTh g (p + 1, t) with | .inl e => .inl e | .inr s' => pMo g 31 s') else (.inr (p, t) : pO)) = _
    rw [if_pos hj, h]
  rw [e2]
  exact pMo.fuel 31 32 p' t' (by omega) (by omega) (by omega) (by omega)
theorem pMo.f {g : Nat → Int} {p : Nat} {t e : Int} (hj : zjn (g p)) (h : pTh g (p + 1, t) = .inl e) : pMo g 32 (p, t) = .inl e := by
  show (if g p = 42 ∨ g p = 43 ∨ g p = 45 then (match pTh g (p + 1, t) with | .inl e => .inl e | .inr s' => pMo g 31 s') else (.inr (p, t) : pO)) = _
  rw [if_pos hj, h]
theorem pMo.n {g : Nat → Int} {p : Nat} {t : Int} (hj : ¬ zjn (g p)) : pMo g 32 (p, t) = .inr (p, t) := by
  show (if g p = 42 ∨ g p = 43 ∨ g p = 45 then (match pTh g (p + 1, t) with | .inl e => .inl e | .inr s' => pMo g 31 s') else (.inr (p, t) : pO)) = _
  rw [if_neg hj]
theorem pMo.lt {g : Nat → Int} : ∀ (k : Nat) {p p' : Nat} {t t' : Int}, pMo g k (p, t) = .inr (p', t') → t ≤ t'
  | 0, p, p', t, t', h => by cases h
  | k + 1, p, p', t, t', h => by
    have h : (if g p = 42 ∨ g p = 43 ∨ g p = 45 then (match pTh g (p + 1, t) with | .inl e => .inl e | .inr s' => pMo g k s') else (.inr (p, t) : pO)) = .inr (p', t') := h
    split at h
    · cases hs : pTh g (p + 1, t) with
      | inl e => rw [hs] at h; cases h
      | inr s =>
        obtain ⟨p2, t2⟩ := s
        rw [hs] at h
        have e := pTh.s hs
        have e2 := pMo.lt k h
        omega
    · have e := congrArg Prod.snd (Sum.inr.inj h)
      have e : t = t' := e
      omega
theorem pSu.f {g : Nat → Int} {p : Nat} {t e : Int} (h : pTh g (p, t) = .inl e) : pSu g (p, t) = .inl e := by
  unfold pSu
  rw [h]
theorem pSu.y {g : Nat → Int} {p p' : Nat} {t t' : Int} (h : pTh g (p, t) = .inr (p', t')) : pSu g (p, t) = pMo g 32 (p', t') := by
  unfold pSu
  rw [h]
theorem pSu.lt {g : Nat → Int} {p p' : Nat} {t t' : Int} (h : pSu g (p, t) = .inr (p', t')) : t < t' := by
  cases hs : pTh g (p, t) with
  | inl e => rw [pSu.f hs] at h; cases h
  | inr s =>
    obtain ⟨p2, t2⟩ := s
    rw [pSu.y hs] at h
    have e := pTh.s hs
    have e2 := pMo.lt 32 h
    omega
abbrev zcq (c : Int) : Prop := c = 60 ∨ c = 61 ∨ c = 62
theorem pCm.f {g : Nat → Int} {p : Nat} {t e : Int} (h : pSu g (p, t) = .inl e) : pCm g (p, t) = .inl e := by
  unfold pCm
  rw [h]
theorem pCm.n {g : Nat → Int} {p p' : Nat} {t t' : Int} (h : pSu g (p, t) = .inr (p', t')) (hc : ¬ zcq (g p')) : pCm g (p, t) = .inl (p' : Int) := by
  unfold pCm
  rw [h]
  exact if_neg hc
theorem pCm.y {g : Nat → Int} {p p' : Nat} {t t' : Int} (h : pSu g (p, t) = .inr (p', t')) (hc : zcq (g p')) : pCm g (p, t) = pSu g (p' + 1, t') := by
  unfold pCm
  rw [h]
  exact if_pos hc
theorem pCm.lt {g : Nat → Int} {p p' : Nat} {t t' : Int} (h : pCm g (p, t) = .inr (p', t')) : t < t' := by
  cases hs : pSu g (p, t) with
  | inl e => rw [pCm.f hs] at h; cases h
  | inr s =>
    obtain ⟨p2, t2⟩ := s
    by_cases hc : zcq (g p2)
    · rw [pCm.y hs hc] at h
      have e := pSu.lt hs
      have e2 := pSu.lt h
      omega
    · rw [pCm.n hs hc] at h
      cases h
/-- the loop of a sum: faulty and none, or it goes on from here as from the start -/
def zlo (N : zM) (n r : Int) (g : Nat → Int) (o : pO) : Prop := (∃ e : Int, (zI N 161 5).toInt = e ∧ e ≠ -1 ∧ o = .inl e) ∨ ((zI N 161 5).toInt = -1 ∧ ∃ (p : Nat) (t : Int), o = pMo g 32 (p, t) ∧ (zI N 161 3).toInt = (p : Int) ∧ (zI N 161 4).toInt = t ∧ (p : Int) ≤ n ∧ r + 1 ≤ t)
theorem zlo.of {N : zM} {n : Int} {g : Nat → Int} {p : Nat} {t : Int} (h : zoc N n (pTh g (p, t))) (h0 : 0 ≤ t) : zlo N n 0 g (pSu g (p, t)) := by
  rcases h with ⟨e0, h1, h0, h2⟩ | ⟨h1, p', t', h2, h3, h4, h5⟩
  · exact Or.inl ⟨e0, h1, h0, pSu.f h2⟩
  · have e := pTh.s h2
    exact Or.inr ⟨h1, p', t', pSu.y h2, h3, h4, h5, by omega⟩
theorem zlo.stp {N : zM} {n r r' : Int} {g : Nat → Int} {o : pO} {p : Nat} {t : Int} (hj : zjn (g p)) (h0 : 0 ≤ t) (e : o = pMo g 32 (p, t)) (q : zoc N n (pTh g (p + 1, t))) (hr : r + 1 ≤ t) (er : r' = r + 1) : zlo N n r' g o := by
  rcases q with ⟨e0, h1, hn, h2⟩ | ⟨h1, p', t', h2, h3, h4, h5⟩
  · exact Or.inl ⟨e0, h1, hn, e.trans (pMo.f hj h2)⟩
  · have e2 := pTh.s h2
    exact Or.inr ⟨h1, p', t', e.trans (pMo.y hj h0 h2), h3, h4, h5, by omega⟩
theorem zlo.x30 {N : zM} {n r : Int} {g : Nat → Int} {o : pO} (h : zlo N n r g o) (hr : 30 ≤ r) (hb : (zI N 161 4).toInt ≤ 30) : zoc N n o := by
  rcases h with h | ⟨h1, p, t, h2, h3, h4, h5, h6⟩
  · exact Or.inl h
  · omega
theorem zlo.xf {N : zM} {n r : Int} {g : Nat → Int} {o : pO} (h : zlo N n r g o) (hf : (zI N 161 5).toInt ≠ -1) : zoc N n o := by
  rcases h with h | ⟨h1, _⟩
  · exact Or.inl h
  · exact absurd h1 hf
/-- how a reading of the automaton came out -/
def zo (N : zM) (n : Int) (g : Nat → Int) (c : pC) (S : List Int) (t0 : Int) (E : Int → Prop) : Prop := (∃ e : Int, (zI N 161 5).toInt = e ∧ e ≠ -1 ∧ pR g n c (.inl e)) ∨ ((zI N 161 5).toInt = -1 ∧ ∃ (p : Nat) (t : Int), pE g n c (false, S, p, t) ∧ (zI N 161 3).toInt = (p : Int) ∧ (zI N 161 4).toInt = t ∧ (p : Int) ≤ n ∧ t0 < t ∧ E (g p))
abbrev zH0 (_ : List Int) : Prop := True
abbrev zH1 (S : List Int) : Prop := S.head? ≠ some 33
abbrev zE0 (_ : Int) : Prop := True
abbrev zE1 (c : Int) : Prop := c ≠ 38
abbrev zE2 (c : Int) : Prop := c ≠ 38 ∧ c ≠ 124
theorem pR.of {g : Nat → Int} {n : Int} {c c' : pC} {r : Int ⊕ Int} (h : pE g n c c') (q : pR g n c' r) : pR g n c r := (h r).mpr q
theorem zo.cm {N : zM} {n : Int} {g : Nat → Int} {S : List Int} {p : Nat} {t : Int} (hc : ¬ (g p = 33 ∨ g p = 40)) (h : zoc N n (pCm g (p, t))) : zo N n g (true, S, p, t) S t zE0 := by
  rcases h with ⟨e0, h1, h0, h2⟩ | ⟨h1, p', t', h2, h3, h4, h5⟩
  · exact Or.inl ⟨e0, h1, h0, pR.cm hc h2⟩
  · exact Or.inr ⟨h1, p', t', pE.cm hc h2, h3, h4, h5, pCm.lt h2, trivial⟩
theorem zo.deep {N : zM} {n : Int} {g : Nat → Int} {S : List Int} {p : Nat} {t : Int} {E : Int → Prop} (hf : (zI N 161 5).toInt = (p : Int)) (hc : g p = 33 ∨ g p = 40) (hS : 6 ≤ (S.length : Int)) : zo N n g (true, S, p, t) S t E := Or.inl ⟨_, hf, by omega, pR.deep hc (by omega)⟩
theorem zo.neg {N : zM} {n : Int} {g : Nat → Int} {S : List Int} {p : Nat} {t : Int} (hc : g p = 33) (hS : (S.length : Int) < 6) (h : zo N n g (true, 33 :: S, p + 1, t) (33 :: S) t zE0) : zo N n g (true, S, p, t) S t zE0 := by
  have e : pE g n (true, S, p, t) (true, 33 :: S, p + 1, t) := by
    have q := pE.opn (g := g) (n := n) (S := S) (p := p) (t := t) (Or.inl hc) (by omega)
    rw [hc] at q
    exact q
  rcases h with ⟨e0, h1, h0, h2⟩ | ⟨h1, p', t', h2, h3, h4, h5, h6, _⟩
  · exact Or.inl ⟨e0, h1, h0, pR.of e h2⟩
  · exact Or.inr ⟨h1, p', t', (e.trans h2).trans pE.neg, h3, h4, h5, h6, trivial⟩
theorem pE.par {g : Nat → Int} {n : Int} {S : List Int} {p : Nat} {t : Int} (hc : g p = 40) (hS : (S.length : Int) < 6) : pE g n (true, S, p, t) (true, 40 :: S, p + 1, t) := by
  have q := pE.opn (g := g) (n := n) (S := S) (p := p) (t := t) (Or.inr hc) (by omega)
  rw [hc] at q
  exact q
theorem zo.parf {N : zM} {n : Int} {g : Nat → Int} {S : List Int} {p : Nat} {t e : Int} {E : Int → Prop} (hf : (zI N 161 5).toInt = e) (he : e ≠ -1) (hc : g p = 40) (hS : (S.length : Int) < 6) (h : pR g n (true, 40 :: S, p + 1, t) (.inl e)) : zo N n g (true, S, p, t) S t E := Or.inl ⟨e, hf, he, pR.of (pE.par hc hS) h⟩
theorem zo.parn {N : zM} {n : Int} {g : Nat → Int} {S : List Int} {p p' : Nat} {t t' : Int} {E : Int → Prop} (hf : (zI N 161 5).toInt = (p' : Int)) (hc : g p = 40) (hS : (S.length : Int) < 6) (h : pE g n (true, 40 :: S, p + 1, t) (false, 40 :: S, p', t')) (he : zE2 (g p')) (hn : g p' ≠ 41) : zo N n g (true, S, p, t) S t E := by
  refine Or.inl ⟨_, hf, by omega, pR.of (pE.par hc hS) (pR.of h ?_)⟩
  have q := pR.last (g := g) (n := n) (S := 40 :: S) (p := p') (t := t') (by simp) (fun z => hn z.1) (fun z => z.elim he.1 he.2)
  rw [if_neg (fun z => by cases z.1)] at q
  exact q
theorem zo.pary {N : zM} {n : Int} {g : Nat → Int} {S : List Int} {p p' : Nat} {t t' : Int} (hf : (zI N 161 5).toInt = -1) (hc : g p = 40) (hS : (S.length : Int) < 6) (h : pE g n (true, 40 :: S, p + 1, t) (false, 40 :: S, p', t')) (hn : g p' = 41) (h3 : (zI N 161 3).toInt = ((p' + 1 : Nat) : Int)) (h4 : (zI N 161 4).toInt = t') (h5 : ((p' + 1 : Nat) : Int) ≤ n) (h6 : t < t') : zo N n g (true, S, p, t) S t zE0 := Or.inr ⟨hf, p' + 1, t', ((pE.par hc hS).trans h).trans (pE.close hn), h3, h4, h5, h6, trivial⟩
/-- the loops of & and |: r rounds -/
def zlp (N : zM) (n r : Int) (g : Nat → Int) (c : pC) (S : List Int) (t0 : Int) (E : Int → Prop) : Prop := (∃ e : Int, (zI N 161 5).toInt = e ∧ e ≠ -1 ∧ pR g n c (.inl e)) ∨ ((zI N 161 5).toInt = -1 ∧ ∃ (p : Nat) (t : Int), pE g n c (false, S, p, t) ∧ (zI N 161 3).toInt = (p : Int) ∧ (zI N 161 4).toInt = t ∧ (p : Int) ≤ n ∧ t0 < t ∧ r + 1 ≤ t ∧ E (g p))
theorem zo.lp {N : zM} {n : Int} {g : Nat → Int} {c : pC} {S : List Int} {t0 : Int} {E : Int → Prop} (h : zo N n g c S t0 E) (h0 : 0 ≤ t0) : zlp N n 0 g c S t0 E := by
  rcases h with h | ⟨h1, p, t, h2, h3, h4, h5, h6, h7⟩
  · exact Or.inl h
  · exact Or.inr ⟨h1, p, t, h2, h3, h4, h5, h6, by omega, h7⟩
theorem zlp.x30 {N : zM} {n r : Int} {g : Nat → Int} {c : pC} {S : List Int} {t0 : Int} {E E' : Int → Prop} (h : zlp N n r g c S t0 E) (hr : 30 ≤ r) (hb : (zI N 161 4).toInt ≤ 30) : zo N n g c S t0 E' := by
  rcases h with h | ⟨h1, p, t, h2, h3, h4, h5, h6, h7, h8⟩
  · exact Or.inl h
  · omega
theorem zlp.xf {N : zM} {n r : Int} {g : Nat → Int} {c : pC} {S : List Int} {t0 : Int} {E E' : Int → Prop} (h : zlp N n r g c S t0 E) (hf : (zI N 161 5).toInt ≠ -1) : zo N n g c S t0 E' := by
  rcases h with h | ⟨h1, _⟩
  · exact Or.inl h
  · exact absurd h1 hf
theorem zlp.stp {N : zM} {n r t2 : Int} {g : Nat → Int} {c : pC} {S : List Int} {t0 : Int} {E : Int → Prop} {p : Nat} {t : Int} (h : pE g n c (false, S, p, t)) (hS : S.head? ≠ some 33) (hc : g p = 38 ∨ g p = 124) (h6 : t0 < t) (h7 : r + 1 ≤ t) (q : zo N n g (true, S, p + 1, t) S t E) (e : t2 = r + 1) : zlp N n t2 g c S t0 E := by
  have e2 := h.trans (pE.bin hS hc)
  rcases q with ⟨e0, q1, q0, q2⟩ | ⟨q1, p', t', q2, q3, q4, q5, q6, q7⟩
  · exact Or.inl ⟨e0, q1, q0, pR.of e2 q2⟩
  · exact Or.inr ⟨q1, p', t', e2.trans q2, q3, q4, q5, by omega, by omega, q7⟩
/-- what a trigger's text of n signs answers: r, with the fault e -/
def zTg5 (f : Nat → Int32) (n r e : Int) : Prop := (n = 0 ∧ r = 0 ∧ e = -1) ∨ (0 < n ∧ ((pR (zsy f n) n (true, [], 0, 0) (.inl e) ∧ r = -1) ∨ (pR (zsy f n) n (true, [], 0, 0) (.inr r) ∧ e = -1)))
theorem zTg5.det {f f' : Nat → Int32} {n r r' e e' : Int} (h : zTg5 f n r e) (h' : zTg5 f' n r' e') (q : ∀ j : Nat, (j : Int) < n → f' j = f j) : r = r' ∧ e = e' := by
  rcases h with ⟨h1, h2, h3⟩ | ⟨h1, h2⟩ <;> rcases h' with ⟨k1, k2, k3⟩ | ⟨k1, k2⟩
  · omega
  · omega
  · omega
  · rw [zsy.cg q] at k2
    rcases h2 with ⟨h2, h3⟩ | ⟨h2, h3⟩ <;> rcases k2 with ⟨k2, k3⟩ | ⟨k2, k3⟩
    · have z := Sum.inl.inj (pR.det h2 k2)
      omega
    · cases pR.det h2 k2
    · cases pR.det h2 k2
    · have z := Sum.inr.inj (pR.det h2 k2)
      omega
/-- what a reading from the start came to -/
def zof (N : zM) (g : Nat → Int) (n : Int) : Prop := (∃ e : Int, (zI N 161 5).toInt = e ∧ e ≠ -1 ∧ pR g n (true, [], 0, 0) (.inl e)) ∨ ((zI N 161 5).toInt = -1 ∧ pR g n (true, [], 0, 0) (.inr (zI N 161 4).toInt))
theorem zof.f {N : zM} {g : Nat → Int} {n e : Int} (hf : (zI N 161 5).toInt = e) (he : e ≠ -1) (h : pR g n (true, [], 0, 0) (.inl e)) : zof N g n := Or.inl ⟨e, hf, he, h⟩
theorem pR.end {g : Nat → Int} {n : Int} {p : Nat} {t : Int} (h : pE g n (true, [], 0, 0) (false, [], p, t)) (he : zE2 (g p)) : pR g n (true, [], 0, 0) (if (p : Int) = n then .inr t else .inl (p : Int)) := by
  have q := pR.of h (pR.last (g := g) (n := n) (S := []) (p := p) (t := t) (by simp) (fun z => z.2 rfl) (fun z => z.elim he.1 he.2))
  by_cases c : (p : Int) = n
  · rw [if_pos ⟨rfl, c⟩] at q
    rw [if_pos c]
    exact q
  · rw [if_neg (fun z => c z.2)] at q
    rw [if_neg c]
    exact q
theorem zof.n {N : zM} {g : Nat → Int} {n : Int} {p : Nat} {t : Int} (hf : (zI N 161 5).toInt = (p : Int)) (h : pE g n (true, [], 0, 0) (false, [], p, t)) (he : zE2 (g p)) (hp : (p : Int) ≠ n) : zof N g n := by
  have q := pR.end h he
  rw [if_neg hp] at q
  exact Or.inl ⟨_, hf, by omega, q⟩
theorem zof.y {N : zM} {g : Nat → Int} {n : Int} {p : Nat} {t : Int} (hf : (zI N 161 5).toInt = -1) (h : pE g n (true, [], 0, 0) (false, [], p, t)) (he : zE2 (g p)) (hp : (p : Int) = n) (ht : (zI N 161 4).toInt = t) : zof N g n := by
  have q := pR.end h he
  rw [if_pos hp] at q
  rw [← ht] at q
  exact Or.inr ⟨hf, q⟩
theorem zTg5.y {N : zM} {f : Nat → Int32} {n r e : Int} (h : zof N (zsy f n) n) (hn : 0 < n) (hf : (zI N 161 5).toInt = -1) (hr : r = (zI N 161 4).toInt) (he : e = -1) : zTg5 f n r e := by
  rcases h with ⟨e0, h1, h0, _⟩ | ⟨_, h2⟩
  · exact absurd (h1.symm.trans hf) h0
  · exact Or.inr ⟨hn, Or.inr ⟨by rw [hr]; exact h2, he⟩⟩
theorem zTg5.n {N : zM} {f : Nat → Int32} {n r e : Int} (h : zof N (zsy f n) n) (hn : 0 < n) (hf : (zI N 161 5).toInt ≠ -1) (hr : r = -1) (he : e = (zI N 161 5).toInt) : zTg5 f n r e := by
  rcases h with ⟨e0, h1, h0, h2⟩ | ⟨h1, _⟩
  · exact Or.inr ⟨hn, Or.inl ⟨by rw [he, h1]; exact h2, hr⟩⟩
  · exact absurd h1 hf
theorem zou6.F {W : zW} {M M' : zM} (h : zou6 M) (f : zFr W M M') (hW : W.all (fun p => Nat.ble 6 p.1) = true) : zou6 M' := by
  refine h.fr fun k j hk => f k j ?_
  unfold zinW
  rw [Bool.eq_false_iff]
  intro q
  rw [List.any_eq_true] at q
  obtain ⟨p, hp, q⟩ := q
  have h1 := List.all_eq_true.mp hW p hp
  rw [Nat.ble_eq] at h1
  rw [Bool.and_eq_true, Nat.ble_eq] at q
  omega
theorem zou6.put {M : zM} {k j : Nat} {v : Int32} (h : zou6 M) (hk : 6 ≤ k) : zou6 (zsI M k j v) := h.fr fun k' j' hk' => zIo (by omega)
theorem zTr.mk {M M' : zM} {g : Nat → Int} {n : Int} (h : zTr M g n) (h6 : zou6 M') (e1 : ∀ j, zI M' 163 j = zI M 163 j) (e2 : zI M' 161 2 = zI M 161 2) : zTr M' g n := by
  obtain ⟨h1, h2, h3⟩ := h
  refine ⟨h6, ?_, by rw [e2]; exact h3⟩
  rw [e2, show zI M' 163 = zI M 163 from funext e1]
  exact h2
theorem zTr.new {M : zM} {f : Nat → Int32} {n : Int} (h6 : zou6 M) (hn : (zI M 161 2).toInt = n) (e : ∀ j : Nat, (j : Int) < n → zI M 163 j = f j) : zTr M (zsy f n) n := ⟨h6, by rw [hn]; exact zsy.cg e, hn⟩
theorem zcpy0 {f g : Nat → Int32} {s d c : Int32} (hs : s.toInt = 0) (hd : d.toInt = 0) {j : Nat} (hj : (j : Int) < c.toInt) : va_cpy f g s.toNatClampNeg d.toNatClampNeg c.toNatClampNeg j = f j := by
  have h1 : s.toNatClampNeg = 0 := by
    show s.toInt.toNat = 0
    omega
  have h2 : d.toNatClampNeg = 0 := by
    show d.toInt.toNat = 0
    omega
  have h3 : j < c.toNatClampNeg := by
    show j < c.toInt.toNat
    omega
  unfold va_cpy
  rw [if_pos ⟨by omega, by omega⟩, h1, h2]
  congr 1
  omega
theorem zi2b {x v : Int32} {e : Int} (hx : x.toInt = e) (h0 : 0 ≤ e) (h1 : e ≤ 255) (h : x.toInt8.toInt32 = v) : (e < 128 ∧ v.toInt = e) ∨ (128 ≤ e ∧ v.toInt < 0) := by
  subst h
  rw [Int8.toInt_toInt32, Int32.toInt_toInt8, hx, Int.bmod_def]
  split <;> omega
theorem pDg.j0 {g : Nat → Int} {p : Nat} (h0 : ¬ (48 ≤ g p ∧ g p ≤ 57)) : pDg g 4 p = p := pDg.n h0
theorem pDg.j1 {g : Nat → Int} {p : Nat} (h0 : 48 ≤ g p ∧ g p ≤ 57) (h1 : ¬ (48 ≤ g (p + 1) ∧ g (p + 1) ≤ 57)) : pDg g 4 p = p + 1 := by
  rw [pDg.y h0, pDg.n h1]
theorem pDg.j2 {g : Nat → Int} {p : Nat} (h0 : 48 ≤ g p ∧ g p ≤ 57) (h1 : 48 ≤ g (p + 1) ∧ g (p + 1) ≤ 57) (h2 : ¬ (48 ≤ g (p + 2) ∧ g (p + 2) ≤ 57)) : pDg g 4 p = p + 2 := by
  rw [pDg.y h0, pDg.y h1]
  exact pDg.n h2
theorem pDg.j3 {g : Nat → Int} {p : Nat} (h0 : 48 ≤ g p ∧ g p ≤ 57) (h1 : 48 ≤ g (p + 1) ∧ g (p + 1) ≤ 57) (h2 : 48 ≤ g (p + 2) ∧ g (p + 2) ≤ 57) (h3 : ¬ (48 ≤ g (p + 3) ∧ g (p + 3) ≤ 57)) : pDg g 4 p = p + 3 := by
  rw [pDg.y h0, pDg.y h1]
  exact (pDg.y h2).trans (pDg.n h3)
theorem pDg.j4 {g : Nat → Int} {p : Nat} (h0 : 48 ≤ g p ∧ g p ≤ 57) (h1 : 48 ≤ g (p + 1) ∧ g (p + 1) ≤ 57) (h2 : 48 ≤ g (p + 2) ∧ g (p + 2) ≤ 57) (h3 : 48 ≤ g (p + 3) ∧ g (p + 3) ≤ 57) : pDg g 4 p = p + 4 := by
  rw [pDg.y h0, pDg.y h1]
  exact (pDg.y h2).trans ((pDg.y h3).trans rfl)
theorem zH1.c {S : List Int} : zH1 (40 :: S) := by
  show (some 40 : Option Int) ≠ some 33
  decide
theorem zH1.n : zH1 [] := by
  show (none : Option Int) ≠ some 33
  decide
