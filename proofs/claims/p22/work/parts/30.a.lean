/-! ===== the model: bounds of its ints, rows of its row of numbers, what a call keeps ===== -/
def aLo (p : Nat) : Int := if p < 14 then (if p = 3 then -2147483648 else if p = 7 then 1 else if p = 8 then 2 else if p = 12 then 1 else 0) else if p < 30 then (if p % 2 = 0 then 0 else -2147483648) else if p < 270 then (if p % 4 = 2 then 0 else -2147483648) else -2147483648
def aHi (p : Nat) : Int := if p < 14 then (if p = 0 then 8 else if p = 1 then 60 else if p = 2 then 12 else if p = 3 then 2147483647 else if p = 4 then 200 else if p = 5 then 3 else if p = 6 then 20 else if p = 7 then 500 else if p = 8 then 8 else if p ≤ 11 then 999 else 9999) else if p < 30 then (if p % 2 = 0 then 999 else 2147483647) else if p < 270 then (if p % 4 = 2 then 7 else 2147483647) else 2147483647
theorem aX {p : Nat} (h1 : 14 ≤ p) (h2 : p < 30) (h3 : p % 2 = 0) : aLo p = 0 ∧ aHi p = 999 := by
  unfold aLo aHi
  rw [if_neg (by omega), if_pos h2, if_pos h3, if_neg (by omega), if_pos h2, if_pos h3]
  exact ⟨rfl, rfl⟩
theorem aL {p : Nat} (h1 : 30 ≤ p) (h2 : p < 270) (h3 : p % 4 = 2) : aLo p = 0 ∧ aHi p = 7 := by
  unfold aLo aHi
  rw [if_neg (by omega), if_neg (by omega), if_pos h2, if_pos h3, if_neg (by omega), if_neg (by omega), if_pos h2, if_pos h3]
  exact ⟨rfl, rfl⟩
theorem aN {p : Nat} (h : p = 3 ∨ (14 ≤ p ∧ p < 30 ∧ p % 2 = 1) ∨ (30 ≤ p ∧ p < 270 ∧ p % 4 ≠ 2) ∨ 270 ≤ p) : aLo p = -2147483648 ∧ aHi p = 2147483647 := by
  unfold aLo aHi
  constructor
  · split
    · split
      · rfl
      · omega
    · split
      · split
        · omega
        · rfl
      · split
        · split
          · omega
          · rfl
        · rfl
  · split
    · split
      · omega
      · split
        · omega
        · split
          · omega
          · split
            · rfl
            · omega
    · split
      · split
        · omega
        · rfl
      · split
        · split
          · omega
          · rfl
        · rfl
/-- a row of the row of numbers -/
def zrow (M : zM) (r : Nat) : Nat → Int32 := fun p => zI M 337 (506 * r + p)
/-- the height of the pile ahead of a code -/
def zhp (g : Nat → Int32) : Nat → Int
  | 0 => 0
  | n + 1 => if (g n).toInt < 20000 then zhp g n + 1 else if (g n).toInt = 20033 then zhp g n else zhp g n - 1
def zCd (g : Nat → Int32) (n : Int) : Prop := ∀ k : Nat, (k : Int) < n → (if (g k).toInt < 20000 then zhp g k ≤ 58 else if (g k).toInt = 20033 then 1 ≤ zhp g k else 2 ≤ zhp g k)
def zRg (f : Nat → Int32) : Prop := (∀ a b : Nat, a < b → (b : Int) < (f 0).toInt → (f (14 + 2 * a)).toInt < (f (14 + 2 * b)).toInt) ∧ (∀ h : Nat, (h : Int) < (f 1).toInt → (f (30 + 4 * h)).toInt < (f 0).toInt)
def zRk (f : Nat → Int32) : Prop := (∀ p, p < 506 → aLo p ≤ (f p).toInt ∧ (f p).toInt ≤ aHi p) ∧ zRg f ∧ zCd (fun i => f (306 + i)) (f 4).toInt
/-- cells that may be looked at -/
def zEq (D : zW) (M M' : zM) : Prop := ∀ k j, zinW D k j = true → zI M' k j = zI M k j
def zdis (D W : zW) : Bool := D.all (fun p => W.all (fun q => Nat.blt p.2.1 q.1 || (Nat.blt q.2.1 p.1 || (match p.2.2, q.2.2 with
  | some i, some i' => !(Nat.beq i i')
  | _, _ => false))))
theorem zdis_in {D W : zW} {k j : Nat} (h : zdis D W = true) (hk : zinW D k j = true) : zinW W k j = false := by
  cases hz : zinW W k j with
  | false => rfl
  | true =>
    exfalso
    unfold zinW at hk hz
    rw [List.any_eq_true] at hk hz
    obtain ⟨p, hp, hk⟩ := hk
    obtain ⟨q, hq, hz⟩ := hz
    unfold zdis at h
    have h1 := List.all_eq_true.mp (List.all_eq_true.mp h p hp) q hq
    rw [Bool.and_eq_true, Bool.and_eq_true, Nat.ble_eq, Nat.ble_eq] at hk hz
    rw [Bool.or_eq_true, Bool.or_eq_true] at h1
    rcases h1 with h1 | h1 | h1
    · have := Nat.le_of_ble_eq_true h1
      omega
    · have := Nat.le_of_ble_eq_true h1
      omega
    · have h2 := hk.2.2
      have h3 := hz.2.2
      cases hpi : p.2.2 with
      | none => rw [hpi] at h1; cases h1
      | some i =>
        cases hqi : q.2.2 with
        | none => rw [hpi, hqi] at h1; cases h1
        | some i' =>
          rw [hpi] at h1 h2
          rw [hqi] at h1 h3
          have e1 : i = j := Nat.eq_of_beq_eq_true h2
          have e2 : i' = j := Nat.eq_of_beq_eq_true h3
          rw [e1, e2] at h1
          simp at h1
theorem zFr.eq {W D : zW} {M M' : zM} (h : zFr W M M') (hd : zdis D W = true) : zEq D M M' := fun k j hk => h k j (zdis_in hd hk)
theorem zEq.put {D : zW} {M : zM} {k j : Nat} {v : Int32} (hd : zinW D k j = false) : zEq D M (zsI M k j v) := by
  intro k' j' h'
  by_cases hk : k' = k
  · by_cases hj : j' = j
    · subst hk
      subst hj
      rw [hd] at h'
      cases h'
    · rw [zIoj hj]
  · rw [zIo hk]
theorem zEq.J {D : zW} {M : zM} {k j : Nat} {v : Int64} : zEq D M (zsJ M k j v) := fun _ _ _ => rfl
abbrev dR : zW := [(337, 338, none), (336, 336, some 1)]
/-- rows that may come back are good, and the row of now -/
def zPR (M : zM) : Prop := zRg (zrow M 0) ∧ (∀ k : Nat, k < 2 → (zI M 338 k).toInt ≠ 0 → zRk (zrow M (1 + k))) ∧ ∀ d : Nat, (d : Int) < (zI M 336 1).toInt → zRk (zrow M (3 + d))
theorem zrowE {M M' : zM} {r : Nat} (e : ∀ j, zI M' 337 j = zI M 337 j) : zrow M' r = zrow M r := funext fun p => e (506 * r + p)
theorem zPR.fr {M M' : zM} (h : zPR M) (e : zEq dR M M') : zPR M' := by
  have e7 : ∀ j, zI M' 337 j = zI M 337 j := fun j => e 337 j rfl
  refine ⟨by rw [zrowE e7]; exact h.1, fun k hk q => ?_, fun d q => ?_⟩
  · rw [zrowE e7]
    rw [e 338 k rfl] at q
    exact h.2.1 k hk q
  · rw [zrowE e7]
    rw [e 336 1 rfl] at q
    exact h.2.2 d q
/-- the row ahead is good -/
abbrev dA : zW := [(337, 337, none)]
def zPA (M : zM) : Prop := zRk (zrow M 11)
theorem zPA.fr {M M' : zM} (h : zPA M) (e : zEq dA M M') : zPA M' := by
  unfold zPA
  rw [zrowE (fun j => e 337 j rfl)]
  exact h
/-- tracks' sums -/
abbrev dD : zW := [(336, 336, some 22)]
def zPD (M : zM) : Prop := ∀ i : Nat, (i : Int) < (zI M 336 22).toInt → 0 < (zJ M 351 i).toInt
theorem zPD.fr {M M' : zM} (h : zPD M) (e : zEq dD M M') (j : zJ M' 351 = zJ M 351) : zPD M' := by
  intro i hi
  rw [e 336 22 rfl] at hi
  rw [j]
  exact h i hi
abbrev dV : zW := [(336, 336, some 37), (356, 356, none)]
def zPV (M : zM) : Prop := ∀ v : Nat, (v : Int) < (zI M 336 37).toInt → 1 ≤ (zI M 356 v).toInt
theorem zPV.fr {M M' : zM} (h : zPV M) (e : zEq dV M M') : zPV M' := by
  intro v hv
  rw [e 336 37 rfl] at hv
  rw [e 356 v rfl]
  exact h v hv
abbrev dF : zW := [(336, 336, some 3), (336, 336, some 22), (336, 336, some 37), (356, 356, none)]
def zPF (M : zM) : Prop := (zI M 336 3).toInt ≠ 0 → zPD M ∧ zPV M
theorem zPF.fr {M M' : zM} (h : zPF M) (e : zEq dF M M') (j : zJ M' 351 = zJ M 351) : zPF M' := by
  intro q
  rw [e 336 3 rfl] at q
  refine ⟨(h q).1.fr (fun k' j' h' => e k' j' (zsub_in (W := dD) rfl h')) j, (h q).2.fr (fun k' j' h' => e k' j' (zsub_in (W := dV) rfl h'))⟩
theorem zPF.off {M : zM} : zPF (zsI M 336 3 0) := by
  intro q
  rw [zIs] at q
  exact absurd (by decide) q
theorem zPF.on {M : zM} (h1 : zPD M) (h2 : zPV M) : zPF M := fun _ => ⟨h1, h2⟩
/-- every track has hits on two layers -/
abbrev dT : zW := [(336, 336, some 22), (337, 337, none), (349, 349, none)]
def zTk (M : zM) (i : Nat) : Prop := ∃ a b : Nat, a < b ∧ (b : Int) < (zI M 337 0).toInt ∧ (zI M 349 (8 * i + a)).toInt ≠ -2 ∧ (zI M 349 (8 * i + b)).toInt ≠ -2
def zPT (M : zM) : Prop := ∀ i : Nat, (i : Int) < (zI M 336 22).toInt → zTk M i
theorem zPT.fr {M M' : zM} (h : zPT M) (e : zEq dT M M') : zPT M' := by
  intro i hi
  rw [e 336 22 rfl] at hi
  obtain ⟨a, b, h1, h2, h3, h4⟩ := h i hi
  exact ⟨a, b, h1, by rw [e 337 0 rfl]; exact h2, by rw [e 349 _ rfl]; exact h3, by rw [e 349 _ rfl]; exact h4⟩
/-- the codes of now can be done -/
abbrev dC : zW := [(337, 337, none)]
def zPC (M : zM) : Prop := zCd (fun i => zrow M 0 (306 + i)) (zrow M 0 4).toInt
theorem zPC.fr {M M' : zM} (h : zPC M) (e : zEq dC M M') : zPC M' := by
  unfold zPC
  rw [zrowE (fun j => e 337 j rfl)]
  exact h
theorem zrowP {M : zM} {j r : Nat} {v : Int32} (hj : j < 506) (hr : 1 ≤ r) : zrow (zsI M 337 j v) r = zrow M r := funext fun p => zIoj (by omega)
theorem zrow0 {M : zM} {j p : Nat} {v : Int32} (h : p ≠ j) : zrow (zsI M 337 j v) 0 p = zrow M 0 p := zIoj (by omega)
theorem zPA.put {M : zM} {j : Nat} {v : Int32} (h : zPA M) (hj : j < 506) : zPA (zsI M 337 j v) := by
  unfold zPA
  rw [zrowP hj (by omega)]
  exact h
theorem zPC.put {M : zM} {j : Nat} {v : Int32} (h : zPC M) (hj : j < 306) (h4 : j ≠ 4) : zPC (zsI M 337 j v) := by
  unfold zPC
  rw [zrow0 (Ne.symm h4)]
  have e : (fun i => zrow (zsI M 337 j v) 0 (306 + i)) = fun i => zrow M 0 (306 + i) := funext fun i => zrow0 (by omega)
  rw [e]
  exact h
theorem zPR.of {M : zM} {j : Nat} {v : Int32} (h : zPR M) (hj : j < 506) (h0 : zRg (zrow (zsI M 337 j v) 0)) : zPR (zsI M 337 j v) := by
  refine ⟨h0, fun k hk q => ?_, fun d q => ?_⟩
  · rw [zrowP hj (by omega)]
    rw [zIo (by decide)] at q
    exact h.2.1 k hk q
  · rw [zrowP hj (by omega)]
    rw [zIo (by decide)] at q
    exact h.2.2 d q
theorem zPR.put {M : zM} {j : Nat} {v : Int32} (h : zPR M) (hj : 2 ≤ j ∧ j < 506) (hm : (zI M 337 0).toInt ≤ 8 ∧ (zI M 337 1).toInt ≤ 60) (h3 : j < 14 ∨ 30 ≤ j ∨ j % 2 = 1 ∨ 14 + 2 * (zI M 337 0).toInt ≤ (j : Int)) (h4 : j < 30 ∨ 270 ≤ j ∨ j % 4 ≠ 2 ∨ 30 + 4 * (zI M 337 1).toInt ≤ (j : Int)) : zPR (zsI M 337 j v) := by
  refine h.of hj.2 ⟨fun a b hab hb => ?_, fun g hg => ?_⟩
  · rw [zrow0 (by omega)] at hb
    have hb' : (b : Int) < (zI M 337 0).toInt := hb
    rw [zrow0 (by omega), zrow0 (by omega)]
    exact h.1.1 a b hab hb
  · rw [zrow0 (by omega)] at hg
    have hg' : (g : Int) < (zI M 337 1).toInt := hg
    rw [zrow0 (by omega), zrow0 (by omega)]
    exact h.1.2 g hg
/-- a layer more -/
theorem zPR.lay {M : zM} {v : Int32} {n : Nat} (h : zPR M) (hn : (zI M 337 0).toInt = (n : Int)) (hv : v.toInt = (n : Int) + 1) (hx : n = 0 ∨ (zI M 337 (14 + 2 * (n - 1))).toInt < (zI M 337 (14 + 2 * n)).toInt) : zPR (zsI M 337 0 v) := by
  have e0 : zrow (zsI M 337 0 v) 0 0 = v := zIs
  refine h.of (by decide) ⟨fun a b hab hb => ?_, fun g hg => ?_⟩
  · rw [e0, hv] at hb
    rw [zrow0 (by omega), zrow0 (by omega)]
    by_cases hbn : (b : Int) < n
    · exact h.1.1 a b hab (by show (b : Int) < (zI M 337 0).toInt; omega)
    · have hb2 : b = n := by omega
      subst hb2
      rcases hx with hx | hx
      · omega
      · have e1 : (zrow M 0 (14 + 2 * b)).toInt = (zI M 337 (14 + 2 * b)).toInt := by unfold zrow; rw [show 506 * 0 + (14 + 2 * b) = 14 + 2 * b by omega]
        have e2 : (zrow M 0 (14 + 2 * (b - 1))).toInt = (zI M 337 (14 + 2 * (b - 1))).toInt := by unfold zrow; rw [show 506 * 0 + (14 + 2 * (b - 1)) = 14 + 2 * (b - 1) by omega]
        by_cases ha : a = b - 1
        · subst ha
          omega
        · have := h.1.1 a (b - 1) (by omega) (by show ((b - 1 : Nat) : Int) < (zI M 337 0).toInt; omega)
          omega
  · rw [zrow0 (by omega)] at hg
    rw [zrow0 (by omega), e0]
    have h2 := h.1.2 g hg
    have h3 : (zrow M 0 0).toInt = (n : Int) := hn
    omega
/-- a hit more -/
theorem zPR.hit {M : zM} {v : Int32} {n : Nat} (h : zPR M) (hn : (zI M 337 1).toInt = (n : Int)) (hv : v.toInt = (n : Int) + 1) (hx : (zI M 337 (30 + 4 * n)).toInt < (zI M 337 0).toInt) : zPR (zsI M 337 1 v) := by
  have e0 : zrow (zsI M 337 1 v) 0 1 = v := zIs
  refine h.of (by decide) ⟨fun a b hab hb => ?_, fun g hg => ?_⟩
  · rw [zrow0 (by omega)] at hb
    rw [zrow0 (by omega), zrow0 (by omega)]
    exact h.1.1 a b hab hb
  · rw [e0, hv] at hg
    rw [zrow0 (by omega), zrow0 (by omega)]
    by_cases hgn : (g : Int) < n
    · exact h.1.2 g (by show (g : Int) < (zI M 337 1).toInt; omega)
    · have hg2 : g = n := by omega
      subst hg2
      have e1 : zrow M 0 (30 + 4 * g) = zI M 337 (30 + 4 * g) := by unfold zrow; rw [show 506 * 0 + (30 + 4 * g) = 30 + 4 * g by omega]
      rw [e1]
      exact hx
theorem zb01 {v : Int32} (h : 0 ≤ v.toInt ∧ v.toInt ≤ 1) : vp_nar .boolean v = v := by
  by_cases q : v.toInt = 0
  · have e : v = 0 := (zeq q (by decide : (0 : Int32).toInt = 0)).mpr rfl
    rw [e]
    decide
  · have e : v = 1 := (zeq (ea := 1) (by omega) (by decide : (1 : Int32).toInt = 1)).mpr rfl
    rw [e]
    decide
def mLo (k j : Nat) : Int := cond (Nat.beq k 337) (if j < 506 then aLo j else (-2147483648)) (cond (Nat.beq k 336) (cond (Nat.beq j 7) (-1) (cond (Nat.beq j 6) 0 (cond (Nat.beq j 50) 0 (cond (Nat.beq j 5) 0 (cond (Nat.beq j 47) 0 (cond (Nat.beq j 39) 0 (cond (Nat.beq j 37) 0 (cond (Nat.beq j 3) 0 (cond (Nat.beq j 22) 0 (cond (Nat.beq j 14) 0 (cond (Nat.beq j 13) 0 (cond (Nat.beq j 12) 0 (cond (Nat.beq j 11) 0 (cond (Nat.beq j 1) 0 ((-2147483648)))))))))))))))) (cond (Nat.beq k 363) (-128) (cond (Nat.beq k 358) 0 (cond (Nat.beq k 349) (-2) (cond (Nat.beq k 343) 0 (cond (Nat.beq k 339) (-128) (cond (Nat.beq k 338) 0 ((-2147483648)))))))))
def mHi (k j : Nat) : Int := cond (Nat.beq k 337) (if j < 506 then aHi j else 2147483647) (cond (Nat.beq k 336) (cond (Nat.beq j 7) 500 (cond (Nat.beq j 6) 500 (cond (Nat.beq j 50) 150 (cond (Nat.beq j 5) 500 (cond (Nat.beq j 47) 20 (cond (Nat.beq j 39) 20000 (cond (Nat.beq j 37) 20 (cond (Nat.beq j 3) 1 (cond (Nat.beq j 22) 20 (cond (Nat.beq j 14) 6 (cond (Nat.beq j 13) 30 (cond (Nat.beq j 12) 40 (cond (Nat.beq j 11) 200 (cond (Nat.beq j 1) 8 (2147483647))))))))))))))) (cond (Nat.beq k 363) 127 (cond (Nat.beq k 358) 19 (cond (Nat.beq k 349) 59 (cond (Nat.beq k 343) 1 (cond (Nat.beq k 339) 127 (cond (Nat.beq k 338) 1 (2147483647))))))))
