/-! ===== reading a trigger ===== -/
def zhere (M : zM) : Int32 := if (zI M 336 6).toInt < (zI M 336 5).toInt then zI M 339 (zI M 336 6).toInt.toNat &&& 255 else -1
abbrev dH : zW := [(336, 336, some 5), (336, 336, some 6), (339, 339, none)]
theorem zhere.fr {M M' : zM} (e : zEq dH M M') : zhere M' = zhere M := by
  unfold zhere
  rw [e 336 6 rfl, e 336 5 rfl, e 339 _ rfl]
theorem zhere.rg {M : zM} : -1 ≤ (zhere M).toInt ∧ (zhere M).toInt ≤ 255 ∧ ((zhere M).toInt < 0 ∨ (zI M 336 6).toInt < (zI M 336 5).toInt) := by
  unfold zhere
  split
  · rename_i q
    have h := zand (a := zI M 339 (zI M 336 6).toInt.toNat) (m := 255) (e := 255) (by decide) (by decide)
    exact ⟨by omega, h.2, Or.inr q⟩
  · exact ⟨by decide, by decide, Or.inl (by decide)⟩
/-- how many of the first n that wait are no binary signs -/
def znest (g : Nat → Int32) : Nat → Int
  | 0 => 0
  | n + 1 => if (g n).toInt = 38 ∨ (g n).toInt = 124 then znest g n else znest g n + 1
theorem znest.nn (g : Nat → Int32) : ∀ n : Nat, 0 ≤ znest g n ∧ znest g n ≤ (n : Int)
  | 0 => ⟨Int.le_refl _, Int.le_refl _⟩
  | n + 1 => by
    have h := znest.nn g n
    show 0 ≤ (if (g n).toInt = 38 ∨ (g n).toInt = 124 then znest g n else znest g n + 1) ∧ (if (g n).toInt = 38 ∨ (g n).toInt = 124 then znest g n else znest g n + 1) ≤ ((n + 1 : Nat) : Int)
    split <;> omega
theorem znest.cg {g g' : Nat → Int32} : ∀ n : Nat, (∀ i, i < n → g' i = g i) → znest g' n = znest g n
  | 0, _ => rfl
  | n + 1, e => by
    have h := znest.cg n (fun i hi => e i (by omega))
    show (if (g' n).toInt = 38 ∨ (g' n).toInt = 124 then znest g' n else znest g' n + 1) = (if (g n).toInt = 38 ∨ (g n).toInt = 124 then znest g n else znest g n + 1)
    rw [e n (by omega), h]
theorem znest.b {g : Nat → Int32} {n : Nat} (h : (g n).toInt = 38 ∨ (g n).toInt = 124) : znest g (n + 1) = znest g n := if_pos h
theorem znest.n {g : Nat → Int32} {n : Nat} (h : (g n).toInt ≠ 38 ∧ (g n).toInt ≠ 124) : znest g (n + 1) = znest g n + 1 := if_neg (fun q => q.elim h.1 h.2)
abbrev dN : zW := [(336, 336, some 12), (336, 336, some 14), (341, 341, none)]
def zGn (M : zM) : Prop := znest (zI M 341) (zI M 336 12).toInt.toNat = (zI M 336 14).toInt
theorem zGn.fr {M M' : zM} (h : zGn M) (e : zEq dN M M') : zGn M' := by
  unfold zGn
  rw [e 336 12 rfl, e 336 14 rfl, znest.cg _ (fun i _ => e 341 i rfl)]
  exact h
theorem zGn.le {M : zM} (h : zGn M) : 0 ≤ (zI M 336 14).toInt ∧ (zI M 336 14).toInt ≤ max (zI M 336 12).toInt 0 := by
  have q := znest.nn (zI M 341) (zI M 336 12).toInt.toNat
  rw [show znest (zI M 341) (zI M 336 12).toInt.toNat = (zI M 336 14).toInt from h] at q
  omega
theorem zGn.top {M : zM} {n : Nat} (h : zGn M) (hn : (zI M 336 12).toInt = (n : Int) + 1) (ht : (zI M 341 n).toInt ≠ 38 ∧ (zI M 341 n).toInt ≠ 124) : znest (zI M 341) n = (zI M 336 14).toInt - 1 := by
  have q : znest (zI M 341) (zI M 336 12).toInt.toNat = (zI M 336 14).toInt := h
  rw [show (zI M 336 12).toInt.toNat = n + 1 by omega, znest.n ht] at q
  omega
theorem zGn.bin {M : zM} {n : Nat} (h : zGn M) (hn : (zI M 336 12).toInt = (n : Int) + 1) (ht : (zI M 341 n).toInt = 38 ∨ (zI M 341 n).toInt = 124) : znest (zI M 341) n = (zI M 336 14).toInt := by
  have q : znest (zI M 341) (zI M 336 12).toInt.toNat = (zI M 336 14).toInt := h
  rw [show (zI M 336 12).toInt.toNat = n + 1 by omega, znest.b ht] at q
  exact q
theorem zGn.pop {M M' : zM} {n : Nat} (h : zGn M) (hn : (zI M 336 12).toInt = (n : Int) + 1) (ht : (zI M 341 n).toInt ≠ 38 ∧ (zI M 341 n).toInt ≠ 124) (e : ∀ j, zI M' 341 j = zI M 341 j) (hw : (zI M' 336 12).toInt = (n : Int)) (hq : (zI M' 336 14).toInt = (zI M 336 14).toInt - 1) : zGn M' := by
  unfold zGn
  rw [show (zI M' 336 12).toInt.toNat = n by omega, znest.cg n (fun i _ => e i), h.top hn ht, hq]
theorem zGn.popb {M M' : zM} {n : Nat} (h : zGn M) (hn : (zI M 336 12).toInt = (n : Int) + 1) (ht : (zI M 341 n).toInt = 38 ∨ (zI M 341 n).toInt = 124) (e : ∀ j, zI M' 341 j = zI M 341 j) (hw : (zI M' 336 12).toInt = (n : Int)) (hq : (zI M' 336 14).toInt = (zI M 336 14).toInt) : zGn M' := by
  unfold zGn
  rw [show (zI M' 336 12).toInt.toNat = n by omega, znest.cg n (fun i _ => e i), h.bin hn ht, hq]
theorem zGn.push {M M' : zM} {n : Nat} (h : zGn M) (hn : (zI M 336 12).toInt = (n : Int)) (e : ∀ j, j ≠ n → zI M' 341 j = zI M 341 j) (hv : (zI M' 341 n).toInt ≠ 38 ∧ (zI M' 341 n).toInt ≠ 124) (hw : (zI M' 336 12).toInt = (n : Int) + 1) (hq : (zI M' 336 14).toInt = (zI M 336 14).toInt + 1) : zGn M' := by
  have q : znest (zI M 341) (zI M 336 12).toInt.toNat = (zI M 336 14).toInt := h
  rw [show (zI M 336 12).toInt.toNat = n by omega] at q
  unfold zGn
  rw [show (zI M' 336 12).toInt.toNat = n + 1 by omega, znest.n hv, znest.cg n (fun i hi => e i (by omega)), q, hq]
theorem zGn.pushb {M M' : zM} {n : Nat} (h : zGn M) (hn : (zI M 336 12).toInt = (n : Int)) (e : ∀ j, j ≠ n → zI M' 341 j = zI M 341 j) (hv : (zI M' 341 n).toInt = 38 ∨ (zI M' 341 n).toInt = 124) (hw : (zI M' 336 12).toInt = (n : Int) + 1) (hq : (zI M' 336 14).toInt = (zI M 336 14).toInt) : zGn M' := by
  have q : znest (zI M 341) (zI M 336 12).toInt.toNat = (zI M 336 14).toInt := h
  rw [show (zI M 336 12).toInt.toNat = n by omega] at q
  unfold zGn
  rw [show (zI M' 336 12).toInt.toNat = n + 1 by omega, znest.b hv, znest.cg n (fun i hi => e i (by omega)), q, hq]
/-- the codes so far can be done, and leave a pile of h -/
abbrev dG : zW := [(336, 336, some 11), (340, 340, none)]
def zGh (M : zM) (h : Int) : Prop := zCd (zI M 340) (zI M 336 11).toInt ∧ zhp (zI M 340) (zI M 336 11).toInt.toNat = h
theorem zGh.fr {M M' : zM} {h : Int} (g : zGh M h) (e : zEq dG M M') : zGh M' h := by
  unfold zGh
  rw [e 336 11 rfl, zhp.cg _ (fun i _ => e 340 i rfl)]
  exact ⟨g.1.cg (fun i _ => e 340 i rfl), g.2⟩
theorem zGh.cast {M : zM} {a b : Int} (g : zGh M a) (e : a = b) : zGh M b := e ▸ g
theorem zGh.put {M : zM} {h h' : Int} {n : Nat} {v c : Int32} (g : zGh M h) (hn : (zI M 336 11).toInt = (n : Int)) (hc : c.toInt = (n : Int) + 1) (hv : (v.toInt < 20000 ∧ h ≤ 58 ∧ h' = h + 1) ∨ (v.toInt = 20033 ∧ 1 ≤ h ∧ h' = h) ∨ (20000 ≤ v.toInt ∧ v.toInt ≠ 20033 ∧ 2 ≤ h ∧ h' = h - 1)) : zGh (zsI (zsI M 340 n v) 336 11 c) h' := by
  obtain ⟨g1, g2⟩ := g
  have ec : zI (zsI (zsI M 340 n v) 336 11 c) 336 11 = c := zIs
  have en : zI (zsI (zsI M 340 n v) 336 11 c) 340 n = v := (zIo (by decide)).trans zIs
  have eo : ∀ i, i ≠ n → zI (zsI (zsI M 340 n v) 336 11 c) 340 i = zI M 340 i := fun i hi => (zIo (by decide)).trans (zIoj hi)
  have ez : zhp (zI (zsI (zsI M 340 n v) 336 11 c) 340) n = h := by
    rw [zhp.cg n (fun i hi => eo i (by omega)), ← g2]
    congr 1
    omega
  have es : zhp (zI (zsI (zsI M 340 n v) 336 11 c) 340) (n + 1) = h' := by
    show (if (zI (zsI (zsI M 340 n v) 336 11 c) 340 n).toInt < 20000 then zhp (zI (zsI (zsI M 340 n v) 336 11 c) 340) n + 1 else if (zI (zsI (zsI M 340 n v) 336 11 c) 340 n).toInt = 20033 then zhp (zI (zsI (zsI M 340 n v) 336 11 c) 340) n else zhp (zI (zsI (zsI M 340 n v) 336 11 c) 340) n - 1) = h'
    rw [en, ez]
    split
    · omega
    · split <;> omega
  refine ⟨fun k hk => ?_, ?_⟩
  · rw [ec, hc] at hk
    by_cases e : k = n
    · subst e
      rw [en, ez]
      split
      · omega
      · split <;> omega
    · rw [eo k e, zhp.cg k (fun i hi => eo i (by omega))]
      exact g1 k (by omega)
  · rw [ec, show c.toInt.toNat = n + 1 by omega]
    exact es
theorem zGh.zero {M : zM} {v : Int32} (hv : v.toInt = 0) : zGh (zsI M 336 11 v) 0 := by
  unfold zGh
  rw [zIs, hv]
  exact ⟨fun k hk => absurd hk (by omega), rfl⟩
theorem zGn.zero {M : zM} (hw : (zI M 336 12).toInt = 0) (hn : (zI M 336 14).toInt = 0) : zGn M := by
  unfold zGn
  rw [hw, hn]
  rfl
theorem zrow00 {M : zM} {p : Nat} : zrow M 0 p = zI M 337 p := by
  unfold zrow
  rw [show 506 * 0 + p = p by omega]
theorem zPC.of {M Mx : zM} {c : Int} (h : ∀ i : Nat, (i : Int) < c → zI M 337 (306 + i) = zI Mx 340 i) (hc : (zI M 337 4).toInt = c) (hz : zCd (zI Mx 340) c) : zPC M := by
  unfold zPC
  rw [zrow00, hc]
  exact hz.cg (fun i hi => by rw [zrow00]; exact h i hi)
theorem zPC.at {M : zM} {n : Nat} (h : zPC M) (hn : (n : Int) < (zI M 337 4).toInt) : ((zI M 337 (306 + n)).toInt < 20000 ∧ zhp (fun i => zrow M 0 (306 + i)) n ≤ 58 ∧ zhp (fun i => zrow M 0 (306 + i)) (n + 1) = zhp (fun i => zrow M 0 (306 + i)) n + 1) ∨ ((zI M 337 (306 + n)).toInt = 20033 ∧ 1 ≤ zhp (fun i => zrow M 0 (306 + i)) n ∧ zhp (fun i => zrow M 0 (306 + i)) (n + 1) = zhp (fun i => zrow M 0 (306 + i)) n) ∨ (20000 ≤ (zI M 337 (306 + n)).toInt ∧ (zI M 337 (306 + n)).toInt ≠ 20033 ∧ 2 ≤ zhp (fun i => zrow M 0 (306 + i)) n ∧ zhp (fun i => zrow M 0 (306 + i)) (n + 1) = zhp (fun i => zrow M 0 (306 + i)) n - 1) := by
  have h1 := h n (by rw [zrow00]; exact hn)
  have e : zhp (fun i => zrow M 0 (306 + i)) (n + 1) = if (zrow M 0 (306 + n)).toInt < 20000 then zhp (fun i => zrow M 0 (306 + i)) n + 1 else if (zrow M 0 (306 + n)).toInt = 20033 then zhp (fun i => zrow M 0 (306 + i)) n else zhp (fun i => zrow M 0 (306 + i)) n - 1 := rfl
  rw [e]
  simp only [zrow00 (M := M) (p := 306 + n)] at h1 ⊢
  by_cases c1 : (zI M 337 (306 + n)).toInt < 20000
  · rw [if_pos c1] at h1
    rw [if_pos c1]
    exact Or.inl ⟨c1, h1, rfl⟩
  · rw [if_neg c1] at h1
    rw [if_neg c1]
    by_cases c2 : (zI M 337 (306 + n)).toInt = 20033
    · rw [if_pos c2] at h1
      rw [if_pos c2]
      exact Or.inr (Or.inl ⟨c2, h1, rfl⟩)
    · rw [if_neg c2] at h1
      rw [if_neg c2]
      exact Or.inr (Or.inr ⟨by omega, c2, h1, rfl⟩)
theorem ib336_11 {M : zM} (h : zIv mLo mHi M) : 0 ≤ (zI M 336 11).toInt ∧ (zI M 336 11).toInt ≤ 200 := h 336 11
theorem ib336_12 {M : zM} (h : zIv mLo mHi M) : 0 ≤ (zI M 336 12).toInt ∧ (zI M 336 12).toInt ≤ 40 := h 336 12
theorem ib336_13 {M : zM} (h : zIv mLo mHi M) : 0 ≤ (zI M 336 13).toInt ∧ (zI M 336 13).toInt ≤ 30 := h 336 13
theorem ib336_14 {M : zM} (h : zIv mLo mHi M) : 0 ≤ (zI M 336 14).toInt ∧ (zI M 336 14).toInt ≤ 6 := h 336 14
theorem ibA4 {M : zM} (h : zIv mLo mHi M) : 0 ≤ (zI M 337 4).toInt ∧ (zI M 337 4).toInt ≤ 200 := by
  have q := h 337 4
  rw [(mA (show 4 < 506 by decide)).1, (mA (show 4 < 506 by decide)).2] at q
  exact q
