/-! ===== the state: rows of numbers on both sides ===== -/
def uS (F : Nat → Int) (i : Nat) (v : Int) : Nat → Int := fun j => if j = i then v else F j
theorem uS.s {F : Nat → Int} {i : Nat} {v : Int} : uS F i v i = v := if_pos rfl
theorem uS.o {F : Nat → Int} {i j : Nat} {v : Int} (h : j ≠ i) : uS F i v j = F j := if_neg h
theorem uS.e {F : Nat → Int} {i j : Nat} {v : Int} (h : j = i) : uS F i v j = v := if_pos h
/-- a State at cell s holds the row F (its trigger's text behind 1000) -/
def zSo (M : zM) (s : Nat) (F : Nat → Int) : Prop := ((zI M s 0).toInt = F 0 ∧ (zI M s 3).toInt = F 1 ∧ (zI M s 8).toInt = F 2 ∧ (zI M s 13).toInt = F 1000) ∧ (∀ l : Nat, (l : Int) < F 0 → (zI M (s + 1) l).toInt = F (14 + 2 * l) ∧ (zI M (s + 2) l).toInt = F (15 + 2 * l)) ∧ (∀ h : Nat, (h : Int) < F 1 → (zI M (s + 3) h).toInt = F (30 + 4 * h) ∧ (zI M (s + 4) h).toInt = F (31 + 4 * h) ∧ (zI M (s + 5) h).toInt = F (32 + 4 * h) ∧ (zI M (s + 6) h).toInt = F (33 + 4 * h)) ∧ (∀ p : Nat, (p : Int) < F 2 → (zI M (s + 7) p).toInt = F (270 + 3 * p) ∧ (zI M (s + 8) p).toInt = F (271 + 3 * p) ∧ (zI M (s + 9) p).toInt = F (272 + 3 * p)) ∧ (∀ i : Nat, i < 9 → (zI M (s + 10) i).toInt = F (5 + i)) ∧ ∀ j : Nat, (j : Int) < F 1000 → (zI M (s + 11) j).toInt = F (1001 + j)
theorem zinR {s e k j : Nat} (h1 : s ≤ k) (h2 : k ≤ e) : zinW [(s, e, none)] k j = true := zinW_r (List.mem_singleton.mpr rfl) h1 h2
theorem zinR' {s e k j : Nat} (h : zinW [(s, e, none)] k j = true) : s ≤ k ∧ k ≤ e := by
  unfold zinW at h
  rw [List.any_eq_true] at h
  obtain ⟨p, hp, h⟩ := h
  rw [List.mem_singleton] at hp
  subst hp
  rw [Bool.and_eq_true, Bool.and_eq_true, Nat.ble_eq, Nat.ble_eq] at h
  exact ⟨h.1, h.2.1⟩
theorem zSo.fr {M M' : zM} {s : Nat} {F : Nat → Int} (h : zSo M s F) (e : zEq [(s, s + 11, none)] M M') : zSo M' s F := by
  obtain ⟨⟨a1, a2, a3, a4⟩, b, c, d, f, g⟩ := h
  have z : ∀ k j, s ≤ k → k ≤ s + 11 → zI M' k j = zI M k j := fun k j h1 h2 => e k j (zinR h1 h2)
  refine ⟨⟨?_, ?_, ?_, ?_⟩, fun l hl => ?_, fun l hl => ?_, fun l hl => ?_, fun l hl => ?_, fun l hl => ?_⟩
  · rw [z _ _ (by omega) (by omega)]
    exact a1
  · rw [z _ _ (by omega) (by omega)]
    exact a2
  · rw [z _ _ (by omega) (by omega)]
    exact a3
  · rw [z _ _ (by omega) (by omega)]
    exact a4
  · rw [z _ _ (by omega) (by omega), z _ _ (by omega) (by omega)]
    exact b l hl
  · rw [z _ _ (by omega) (by omega), z _ _ (by omega) (by omega), z _ _ (by omega) (by omega), z _ _ (by omega) (by omega)]
    exact c l hl
  · rw [z _ _ (by omega) (by omega), z _ _ (by omega) (by omega), z _ _ (by omega) (by omega)]
    exact d l hl
  · rw [z _ _ (by omega) (by omega)]
    exact f l hl
  · rw [z _ _ (by omega) (by omega)]
    exact g l hl
theorem zSo.eqv {M : zM} {s : Nat} {F G : Nat → Int} (h : zSo M s F) (e : ∀ j, G j = F j) : zSo M s G := by
  rw [show G = F from funext e]
  exact h
/-- one taken over by another -/
theorem zSo.cp {M N : zM} {a b : Nat} {F : Nat → Int} (h : zSo M b F) (e0 : (zI N a 0).toInt = (zI M b 0).toInt) (e3 : (zI N a 3).toInt = (zI M b 3).toInt) (e8 : (zI N a 8).toInt = (zI M b 8).toInt) (e13 : (zI N a 13).toInt = (zI M b 13).toInt) (r1 : ∀ j : Nat, (j : Int) < (zI M b 0).toInt → zI N (a + 1) j = zI M (b + 1) j) (r2 : ∀ j : Nat, (j : Int) < (zI M b 0).toInt → zI N (a + 2) j = zI M (b + 2) j) (r3 : ∀ j : Nat, (j : Int) < (zI M b 3).toInt → zI N (a + 3) j = zI M (b + 3) j) (r4 : ∀ j : Nat, (j : Int) < (zI M b 3).toInt → zI N (a + 4) j = zI M (b + 4) j) (r5 : ∀ j : Nat, (j : Int) < (zI M b 3).toInt → zI N (a + 5) j = zI M (b + 5) j) (r6 : ∀ j : Nat, (j : Int) < (zI M b 3).toInt → zI N (a + 6) j = zI M (b + 6) j) (r7 : ∀ j : Nat, (j : Int) < (zI M b 8).toInt → zI N (a + 7) j = zI M (b + 7) j) (r8 : ∀ j : Nat, (j : Int) < (zI M b 8).toInt → zI N (a + 8) j = zI M (b + 8) j) (r9 : ∀ j : Nat, (j : Int) < (zI M b 8).toInt → zI N (a + 9) j = zI M (b + 9) j) (r10 : ∀ j : Nat, (j : Int) < 9 → zI N (a + 10) j = zI M (b + 10) j) (r11 : ∀ j : Nat, (j : Int) < (zI M b 13).toInt → zI N (a + 11) j = zI M (b + 11) j) : zSo N a F := by
  obtain ⟨⟨a1, a2, a3, a4⟩, b, c, d, f, g⟩ := h
  rw [a1] at e0 r1 r2
  rw [a2] at e3 r3 r4 r5 r6
  rw [a3] at e8 r7 r8 r9
  rw [a4] at e13 r11
  refine ⟨⟨e0, e3, e8, e13⟩, fun l hl => ?_, fun l hl => ?_, fun l hl => ?_, fun l hl => ?_, fun l hl => ?_⟩
  · rw [r1 l hl, r2 l hl]
    exact b l hl
  · rw [r3 l hl, r4 l hl, r5 l hl, r6 l hl]
    exact c l hl
  · rw [r7 l hl, r8 l hl, r9 l hl]
    exact d l hl
  · rw [r10 l (by omega)]
    exact f l hl
  · rw [r11 l hl]
    exact g l hl
/-- a row of the model's row of numbers holds F (but for the trigger's codes) -/
def zRw (M : zM) (r : Nat) (F : Nat → Int) : Prop := ∀ j : Nat, j < 306 → j ≠ 3 → j ≠ 4 → (zI M 337 (506 * r + j)).toInt = F j
theorem zRw.at {M : zM} {F : Nat → Int} (h : zRw M 0 F) {j : Nat} (h1 : j < 306) (h2 : j ≠ 3) (h3 : j ≠ 4) : (zI M 337 j).toInt = F j := by
  have q := h j h1 h2 h3
  rw [show 506 * 0 + j = j by omega] at q
  exact q
theorem zRw.fr {M M' : zM} {r : Nat} {F : Nat → Int} (h : zRw M r F) (e : ∀ j, zI M' 337 j = zI M 337 j) : zRw M' r F := fun j h1 h2 h3 => by
  rw [e]
  exact h j h1 h2 h3
theorem zRw.put {M : zM} {F : Nat → Int} {i : Nat} {v : Int32} {x : Int} (h : zRw M 0 F) (hv : v.toInt = x) : zRw (zsI M 337 i v) 0 (uS F i x) := fun j h1 h2 h3 => by
  rw [show 506 * 0 + j = j by omega]
  by_cases e : j = i
  · subst e
    rw [zIs, uS.s]
    exact hv
  · rw [zIoj e, uS.o e]
    exact h.at h1 h2 h3
theorem zRw.put3 {M : zM} {F : Nat → Int} {i : Nat} {v : Int32} (h : zRw M 0 F) (hi : i = 3 ∨ i = 4) : zRw (zsI M 337 i v) 0 F := fun j h1 h2 h3 => by
  rw [zIoj (by omega)]
  exact h j h1 h2 h3
theorem zRw.eqv {M : zM} {r : Nat} {F G : Nat → Int} (h : zRw M r F) (e : ∀ j, j < 306 → j ≠ 3 → j ≠ 4 → G j = F j) : zRw M r G := fun j h1 h2 h3 => by
  rw [e j h1 h2 h3]
  exact h j h1 h2 h3
/-- rows that are copied -/
theorem zRw.cp {M M' : zM} {a b : Nat} {F : Nat → Int} (c : zCp M M' a b 506) (h : zRw M a F) : zRw M' b F := fun j h1 h2 h3 => by
  rw [c.2 j (by omega)]
  exact h j h1 h2 h3
theorem zRw.cpo {M M' : zM} {a b r : Nat} {F : Nat → Int} (c : zCp M M' a b 506) (h : zRw M r F) (hr : r ≠ b) : zRw M' r F := fun j h1 h2 h3 => by
  rw [c.1 (506 * r + j) (by omega)]
  exact h j h1 h2 h3
/-! ===== what deeds do ===== -/
def pHit (F : Nat → Int) (l y t p : Int) : Nat → Int := uS (uS (uS (uS (uS F (30 + 4 * (F 1).toNat) l) (31 + 4 * (F 1).toNat) y) (32 + 4 * (F 1).toNat) t) (33 + 4 * (F 1).toNat) p) 1 (F 1 + 1)
def pLay (F : Nat → Int) (x : Int) : Nat → Int := uS (uS (uS F (14 + 2 * (F 0).toNat) x) (15 + 2 * (F 0).toNat) 1) 0 (F 0 + 1)
def pPar (F : Nat → Int) (z t k : Int) : Nat → Int := uS (uS (uS F (270 + 3 * (F 2).toNat) z) (271 + 3 * (F 2).toNat) t) (272 + 3 * (F 2).toNat) k
/-- good rows -/
def zWF (F : Nat → Int) : Prop := (0 ≤ F 0 ∧ F 0 ≤ 8 ∧ 0 ≤ F 1 ∧ F 1 ≤ 60 ∧ 0 ≤ F 2 ∧ F 2 ≤ 12) ∧ (∀ l : Nat, (l : Int) < F 0 → 0 ≤ F (14 + 2 * l) ∧ F (14 + 2 * l) ≤ 999 ∧ (F (15 + 2 * l) = 0 ∨ F (15 + 2 * l) = 1)) ∧ (∀ h : Nat, (h : Int) < F 1 → 0 ≤ F (30 + 4 * h) ∧ F (30 + 4 * h) < F 0 ∧ -9999 ≤ F (31 + 4 * h) ∧ F (31 + 4 * h) ≤ 9999 ∧ -1 ≤ F (32 + 4 * h) ∧ F (32 + 4 * h) ≤ 999) ∧ (0 ≤ F 5 ∧ F 5 ≤ 3 ∧ 0 ≤ F 6 ∧ F 6 ≤ 20 ∧ 1 ≤ F 7 ∧ F 7 ≤ 500 ∧ 2 ≤ F 8 ∧ F 8 ≤ 8) ∧ (0 ≤ F 9 ∧ F 9 ≤ 999 ∧ 0 ≤ F 10 ∧ F 10 ≤ F 11 ∧ F 11 ≤ 999 ∧ 1 ≤ F 12 ∧ F 12 ≤ 9999 ∧ 0 ≤ F 13 ∧ F 13 ≤ 9999)
/-! ===== what is remembered ===== -/
def pushH (F : Nat → Int) (H : Nat → Nat → Int) : Nat → Nat → Int
  | 0 => F
  | i + 1 => H i
def popH (H : Nat → Nat → Int) : Nat → Nat → Int := fun i => H (i + 1)
def nP (n : Int) : Int := if n < 8 then n + 1 else 8
theorem nP.e {n : Int} : (n < 8 ∧ nP n = n + 1) ∨ (8 ≤ n ∧ nP n = 8) := by
  unfold nP
  split
  · exact Or.inl ⟨by omega, rfl⟩
  · exact Or.inr ⟨by omega, rfl⟩
/-- the class's ring -/
def zHC (M : zM) (H : Nat → Nat → Int) (n : Int) : Prop := (zI M 31 2).toInt = n ∧ ∀ i : Nat, (i : Int) < n → zSo M (35 + 12 * (((zI M 31 1).toInt.toNat + 8 - i) % 8)) (H i)
theorem zinR2 {a b c d k j : Nat} (h : zinW [(a, b, none), (c, d, none)] k j = true) : (a ≤ k ∧ k ≤ b) ∨ (c ≤ k ∧ k ≤ d) := by
  unfold zinW at h
  rw [List.any_eq_true] at h
  obtain ⟨p, hp, h⟩ := h
  rw [Bool.and_eq_true, Bool.and_eq_true, Nat.ble_eq, Nat.ble_eq] at h
  have h1 : p.1 ≤ k := h.1
  have h2 : k ≤ p.2.1 := h.2.1
  rw [List.mem_cons, List.mem_singleton] at hp
  rcases hp with hp | hp
  · subst hp
    exact Or.inl ⟨h1, h2⟩
  · subst hp
    exact Or.inr ⟨h1, h2⟩
theorem zHC.fr {M M' : zM} {H : Nat → Nat → Int} {n : Int} (h : zHC M H n) (e : zEq [(31, 31, none), (35, 130, none)] M M') : zHC M' H n := by
  refine ⟨by rw [e 31 2 rfl]; exact h.1, fun i hi => ?_⟩
  rw [e 31 1 rfl]
  exact (h.2 i hi).fr (fun k j hk => e k j (zinW_r (lo := 35) (hi := 130) (by simp) (by have := zinR' hk; omega) (by have := zinR' hk; omega)))
theorem zHC.push {M N : zM} {F : Nat → Int} {H : Nat → Nat → Int} {n m : Int} {q q' : Nat} (h : zHC M H n) (h0 : n ≤ 8) (hq : (zI M 31 1).toInt = (q : Int)) (hq8 : q < 8) (eq' : q' = (q + 1) % 8) (hN : (zI N 31 1).toInt = (q' : Int)) (hm : (zI N 31 2).toInt = m) (em : m ≤ n + 1 ∧ m ≤ 8) (hs : zSo N (35 + 12 * q') F) (e : ∀ k j, 35 ≤ k → k ≤ 130 → (k < 35 + 12 * q' ∨ 46 + 12 * q' < k) → zI N k j = zI M k j) : zHC N (pushH F H) m := by
  refine ⟨hm, fun i hi => ?_⟩
  rw [show (zI N 31 1).toInt.toNat = q' by omega]
  cases i with
  | zero =>
    rw [show (q' + 8 - 0) % 8 = q' by omega]
    exact hs
  | succ i =>
    have z := h.2 i (by omega)
    rw [show (zI M 31 1).toInt.toNat = q by omega] at z
    rw [show (q' + 8 - (i + 1)) % 8 = (q + 8 - i) % 8 by omega]
    refine z.fr (fun k j hk => e k j ?_ ?_ ?_)
    · have := zinR' hk
      omega
    · have := zinR' hk
      omega
    · have := zinR' hk
      omega
theorem zHC.top {M : zM} {H : Nat → Nat → Int} {n : Int} {q : Nat} (h : zHC M H n) (h0 : 0 < n) (hq : (zI M 31 1).toInt = (q : Int)) (hq8 : q < 8) : zSo M (35 + 12 * q) (H 0) := by
  have z := h.2 0 h0
  rw [show ((zI M 31 1).toInt.toNat + 8 - 0) % 8 = q by omega] at z
  exact z
theorem zHC.pop {M N : zM} {H : Nat → Nat → Int} {n m : Int} {q q' : Nat} (h : zHC M H n) (hq : (zI M 31 1).toInt = (q : Int)) (hq8 : q < 8) (eq' : q' = (q + 7) % 8) (hN : (zI N 31 1).toInt = (q' : Int)) (hm : (zI N 31 2).toInt = m) (em : m = n - 1) (h8 : n ≤ 8) (e : ∀ k j, 35 ≤ k → k ≤ 130 → zI N k j = zI M k j) : zHC N (popH H) m := by
  refine ⟨hm, fun i hi => ?_⟩
  have z := h.2 (i + 1) (by omega)
  rw [show (zI M 31 1).toInt.toNat = q by omega] at z
  rw [show (zI N 31 1).toInt.toNat = q' by omega, show (q' + 8 - i) % 8 = (q + 8 - (i + 1)) % 8 by omega]
  refine z.fr (fun k j hk => e k j ?_ ?_)
  · have := zinR' hk
    omega
  · have := zinR' hk
    omega
/-- what is kept -/
def zKC (M : zM) (K : Nat → Nat → Int) (T : Nat → Int) : Prop := ∀ k : Nat, k < 2 → (zI M 34 k).toInt = T k ∧ (T k = 1 → zSo M (131 + 12 * k) (K k))
theorem zKC.fr {M M' : zM} {K : Nat → Nat → Int} {T : Nat → Int} (h : zKC M K T) (e : zEq [(34, 34, none), (131, 154, none)] M M') : zKC M' K T := by
  have z : ∀ k j, k = 34 ∨ (131 ≤ k ∧ k ≤ 154) → zI M' k j = zI M k j := fun k j q => by
    rcases q with q | q
    · exact e k j (zinW_r (lo := 34) (hi := 34) (by simp) (by omega) (by omega))
    · exact e k j (zinW_r (lo := 131) (hi := 154) (by simp) q.1 q.2)
  intro k hk
  rw [z 34 k (by omega)]
  exact ⟨(h k hk).1, fun q => ((h k hk).2 q).fr fun k' j hk' => z k' j (by have := zinR' hk'; omega)⟩
def uK (K : Nat → Nat → Int) (i : Nat) (F : Nat → Int) : Nat → Nat → Int := fun j => if j = i then F else K j
theorem uK.s {K : Nat → Nat → Int} {i : Nat} {F : Nat → Int} : uK K i F i = F := if_pos rfl
theorem uK.o {K : Nat → Nat → Int} {i j : Nat} {F : Nat → Int} (h : j ≠ i) : uK K i F j = K j := if_neg h
theorem zKC.put {M N : zM} {K : Nat → Nat → Int} {T : Nat → Int} {F : Nat → Int} {i : Nat} (h : zKC M K T) (hi : i < 2) (h1 : (zI N 34 i).toInt = 1) (hs : zSo N (131 + 12 * i) F) (eo : ∀ k, k ≠ i → zI N 34 k = zI M 34 k) (e : ∀ k j, 131 ≤ k → k ≤ 154 → (k < 131 + 12 * i ∨ 142 + 12 * i < k) → zI N k j = zI M k j) : zKC N (uK K i F) (uS T i 1) := by
  intro k hk
  by_cases q : k = i
  · subst q
    rw [uK.s, uS.s]
    exact ⟨h1, fun _ => hs⟩
  · rw [uK.o q, uS.o q, eo k q]
    refine ⟨(h k hk).1, fun z => ((h k hk).2 z).fr (fun k' j hk' => e k' j ?_ ?_ ?_)⟩
    · have := zinR' hk'
      omega
    · have := zinR' hk'
      omega
    · have := zinR' hk'
      omega
theorem zoC {a b k j : Nat} {f : Option Nat} {W : zW} (h : k < a ∨ b < k) (t : zinW W k j = false) : zinW ((a, b, f) :: W) k j = false := by
  unfold zinW at t ⊢
  rw [List.any_cons, t, Bool.or_false, Bool.eq_false_iff]
  intro q
  rw [Bool.and_eq_true, Bool.and_eq_true, Nat.ble_eq, Nat.ble_eq] at q
  have q1 : a ≤ k := q.1
  have q2 : k ≤ b := q.2.1
  omega
/-- the class's half -/
def zSC (M : zM) (F : Nat → Int) (H : Nat → Nat → Int) (n : Int) (K : Nat → Nat → Int) (T : Nat → Int) : Prop := zSo M 7 F ∧ zHC M H n ∧ zKC M K T
theorem zSC.fr {M M' : zM} {F : Nat → Int} {H : Nat → Nat → Int} {n : Int} {K : Nat → Nat → Int} {T : Nat → Int} (h : zSC M F H n K T) (e : zEq [(7, 18, none), (31, 154, none)] M M') : zSC M' F H n K T := by
  obtain ⟨h1, h2, h3⟩ := h
  have z : ∀ k j, (7 ≤ k ∧ k ≤ 18) ∨ (31 ≤ k ∧ k ≤ 154) → zI M' k j = zI M k j := fun k j q => by
    rcases q with q | q
    · exact e k j (zinW_r (lo := 7) (hi := 18) (by simp) q.1 q.2)
    · exact e k j (zinW_r (lo := 31) (hi := 154) (by simp) q.1 q.2)
  exact ⟨h1.fr fun k j hk => z k j (by have := zinR' hk; omega), h2.fr fun k j hk => z k j (by have := zinR2 hk; omega), h3.fr fun k j hk => z k j (by have := zinR2 hk; omega)⟩
/-- the model's rows -/
def zHM (M : zM) (H : Nat → Nat → Int) (n : Int) : Prop := (zI M 336 1).toInt = n ∧ ∀ i : Nat, (i : Int) < n → zRw M (3 + (n.toNat - 1 - i)) (H i)
theorem zEq.tr {D : zW} {M M' M'' : zM} (h : zEq D M M') (h' : zEq D M' M'') : zEq D M M'' := fun k j q => (h' k j q).trans (h k j q)
theorem zremE {a b : Int32} {ea eb : Int} (ha : a.toInt = ea) (hb : b.toInt = eb) (h1 : 0 ≤ ea) (h2 : 0 < eb) : (a - a / b * b).toInt = ea % eb := by
  have hd := zdivp ha hb h1 h2
  have g := zrg a
  have h5 := Int.emod_add_mul_ediv ea eb
  have h6 := Int.emod_nonneg ea (show eb ≠ 0 by omega)
  have h7 := Int.emod_lt_of_pos ea h2
  have h8 : 0 ≤ ea / eb * eb := Int.mul_nonneg (Int.ediv_nonneg h1 (Int.le_of_lt h2)) (Int.le_of_lt h2)
  have h9 : ea / eb * eb = eb * (ea / eb) := Int.mul_comm _ _
  have hm := zmulc hd hb (by omega) (by omega)
  obtain ⟨v, e1, e2⟩ := zisub ha hm (by omega) (by omega)
  rw [e1, e2]
  omega
/-! ===== counts ===== -/
def pct (P : Nat → Bool) : Nat → Int
  | 0 => 0
  | n + 1 => pct P n + (if P n = true then 1 else 0)
theorem pct.y {P : Nat → Bool} {n : Nat} (h : P n = true) : pct P (n + 1) = pct P n + 1 := by
  show pct P n + (if P n = true then 1 else 0) = _
  rw [if_pos h]
theorem pct.n {P : Nat → Bool} {n : Nat} (h : P n = false) : pct P (n + 1) = pct P n := by
  show pct P n + (if P n = true then 1 else 0) = _
  rw [h, if_neg Bool.false_ne_true]
  omega
theorem pct.cg {P P' : Nat → Bool} : ∀ n : Nat, (∀ i, i < n → P' i = P i) → pct P' n = pct P n
  | 0, _ => rfl
  | n + 1, e => by
    show pct P' n + (if P' n = true then 1 else 0) = pct P n + (if P n = true then 1 else 0)
    rw [pct.cg n (fun i hi => e i (by omega)), e n (by omega)]
theorem pct.up {P : Nat → Bool} {n n' : Nat} {c c' : Int} (h : ∀ k : Nat, (k : Int) = (n : Int) → c = pct P k) (hp : P n = true) (hc : c' = c + 1) (hn : n' = n + 1) : c' = pct P n' := by
  subst hn
  rw [pct.y hp, hc, h n rfl]
theorem pct.no {P : Nat → Bool} {n n' : Nat} {c c' : Int} (h : ∀ k : Nat, (k : Int) = (n : Int) → c = pct P k) (hp : P n = false) (hc : c' = c) (hn : n' = n + 1) : c' = pct P n' := by
  subst hn
  rw [pct.n hp, hc, h n rfl]
/-- a HIT counts -/
def zctb (F : Nat → Int) (h : Nat) : Bool := decide (F (15 + 2 * (F (30 + 4 * h)).toNat) = 1 ∧ F 10 ≤ F (32 + 4 * h) ∧ F (32 + 4 * h) ≤ F 11)
theorem zctb.y {F : Nat → Int} {h l : Nat} (hl : F (30 + 4 * h) = (l : Int)) (h1 : F (15 + 2 * l) = 1) (h2 : F 10 ≤ F (32 + 4 * h)) (h3 : F (32 + 4 * h) ≤ F 11) : zctb F h = true := by
  unfold zctb
  rw [show (F (30 + 4 * h)).toNat = l by omega]
  exact decide_eq_true ⟨h1, h2, h3⟩
theorem zctb.n {F : Nat → Int} {h l : Nat} (hl : F (30 + 4 * h) = (l : Int)) (q : F (15 + 2 * l) ≠ 1 ∨ F (32 + 4 * h) < F 10 ∨ F 11 < F (32 + 4 * h)) : zctb F h = false := by
  unfold zctb
  rw [show (F (30 + 4 * h)).toNat = l by omega]
  exact decide_eq_false (fun z => by have z1 := z.1; have z2 := z.2.1; have z3 := z.2.2; omega)
/-- alive layers -/
def zalv (F : Nat → Int) (l : Nat) : Bool := decide (F (15 + 2 * l) = 1)
theorem zalv.y {F : Nat → Int} {l : Nat} (h : F (15 + 2 * l) = 1) : zalv F l = true := decide_eq_true h
theorem zalv.n {F : Nat → Int} {l : Nat} (h : F (15 + 2 * l) ≠ 1) : zalv F l = false := decide_eq_false h
/-- a HIT counts, and its number at a place is v -/
def zcqB (F : Nat → Int) (o : Nat) (v : Int) (h : Nat) : Bool := zctb F h && decide (F (o + 4 * h) = v)
theorem zcqB.y {F : Nat → Int} {o h : Nat} {v : Int} (h1 : zctb F h = true) (h2 : F (o + 4 * h) = v) : zcqB F o v h = true := by
  unfold zcqB
  rw [h1, decide_eq_true h2]
  rfl
theorem zcqB.n {F : Nat → Int} {o h : Nat} {v : Int} (h1 : zctb F h = false) : zcqB F o v h = false := by
  unfold zcqB
  rw [h1]
  rfl
theorem zcqB.o {F : Nat → Int} {o h : Nat} {v : Int} (h2 : F (o + 4 * h) ≠ v) : zcqB F o v h = false := by
  unfold zcqB
  rw [decide_eq_false h2, Bool.and_false]
/-! ===== puts ===== -/
theorem zSo.hl {M : zM} {s k h o : Nat} {F : Nat → Int} {v : Int32} {x : Int} (q : zSo M s F) (ho : o < 4) (ek : k = s + 3 + o) (hh : h < 60) (h0 : F 0 ≤ 8) (h2 : F 2 ≤ 12) (hv : v.toInt = x) : zSo (zsI M k h v) s (uS F (30 + o + 4 * h) x) := by
  subst ek
  obtain ⟨⟨a1, a2, a3, a4⟩, b, c, d, f, g⟩ := q
  have e0 : ∀ j : Nat, j < 14 ∨ 270 ≤ j → uS F (30 + o + 4 * h) x j = F j := fun j hj => uS.o (by omega)
  refine ⟨⟨?_, ?_, ?_, ?_⟩, fun l hl => ?_, fun l hl => ?_, fun l hl => ?_, fun l hl => ?_, fun l hl => ?_⟩
  · rw [zIo (by omega), e0 0 (by omega)]
    exact a1
  · rw [zIo (by omega), e0 1 (by omega)]
    exact a2
  · rw [zIo (by omega), e0 2 (by omega)]
    exact a3
  · rw [zIo (by omega), e0 1000 (by omega)]
    exact a4
  · rw [e0 0 (by omega)] at hl
    rw [zIo (by omega), zIo (by omega), uS.o (by omega), uS.o (by omega)]
    exact b l hl
  · rw [e0 1 (by omega)] at hl
    have z := c l hl
    have w : ∀ i : Nat, i < 4 → (zI M (s + 3 + i) l).toInt = F (30 + i + 4 * l) → (zI (zsI M (s + 3 + o) h v) (s + 3 + i) l).toInt = uS F (30 + o + 4 * h) x (30 + i + 4 * l) := by
      intro i hi hz
      by_cases e : i = o
      · subst e
        by_cases e2 : l = h
        · subst e2
          rw [zIs, uS.s]
          exact hv
        · rw [zIoj e2, uS.o (by omega)]
          exact hz
      · rw [zIo (by omega), uS.o (by omega)]
        exact hz
    exact ⟨w 0 (by omega) z.1, w 1 (by omega) z.2.1, w 2 (by omega) z.2.2.1, w 3 (by omega) z.2.2.2⟩
  · rw [e0 2 (by omega)] at hl
    rw [zIo (by omega), zIo (by omega), zIo (by omega), e0 _ (by omega), e0 _ (by omega), e0 _ (by omega)]
    exact d l hl
  · rw [zIo (by omega), e0 _ (by omega)]
    exact f l hl
  · rw [e0 1000 (by omega)] at hl
    rw [zIo (by omega), e0 _ (by omega)]
    exact g l hl
theorem zSo.al {M : zM} {s k i : Nat} {F : Nat → Int} {v : Int32} {x : Int} (q : zSo M s F) (ek : k = s + 2) (hi : i < 8) (h0 : F 0 ≤ 8) (hv : v.toInt = x) : zSo (zsI M k i v) s (uS F (15 + 2 * i) x) := by
  subst ek
  obtain ⟨⟨a1, a2, a3, a4⟩, b, c, d, f, g⟩ := q
  have e0 : ∀ j : Nat, j < 14 ∨ 30 ≤ j → uS F (15 + 2 * i) x j = F j := fun j hj => uS.o (by omega)
  refine ⟨⟨?_, ?_, ?_, ?_⟩, fun l hl => ?_, fun l hl => ?_, fun l hl => ?_, fun l hl => ?_, fun l hl => ?_⟩
  · rw [zIo (by omega), e0 0 (by omega)]
    exact a1
  · rw [zIo (by omega), e0 1 (by omega)]
    exact a2
  · rw [zIo (by omega), e0 2 (by omega)]
    exact a3
  · rw [zIo (by omega), e0 1000 (by omega)]
    exact a4
  · rw [e0 0 (by omega)] at hl
    refine ⟨?_, ?_⟩
    · rw [zIo (by omega), uS.o (by omega)]
      exact (b l hl).1
    · by_cases e2 : l = i
      · subst e2
        rw [zIs, uS.s]
        exact hv
      · rw [zIoj e2, uS.o (by omega)]
        exact (b l hl).2
  · rw [e0 1 (by omega)] at hl
    rw [zIo (by omega), zIo (by omega), zIo (by omega), zIo (by omega), e0 _ (by omega), e0 _ (by omega), e0 _ (by omega), e0 _ (by omega)]
    exact c l hl
  · rw [e0 2 (by omega)] at hl
    rw [zIo (by omega), zIo (by omega), zIo (by omega), e0 _ (by omega), e0 _ (by omega), e0 _ (by omega)]
    exact d l hl
  · rw [zIo (by omega), e0 _ (by omega)]
    exact f l hl
  · rw [e0 1000 (by omega)] at hl
    rw [zIo (by omega), e0 _ (by omega)]
    exact g l hl
theorem zSo.se {M : zM} {s k i : Nat} {F : Nat → Int} {v : Int32} {x : Int} (q : zSo M s F) (ek : k = s + 10) (hi : i < 9) (hv : v.toInt = x) : zSo (zsI M k i v) s (uS F (5 + i) x) := by
  subst ek
  obtain ⟨⟨a1, a2, a3, a4⟩, b, c, d, f, g⟩ := q
  have e0 : ∀ j : Nat, j < 5 ∨ 14 ≤ j → uS F (5 + i) x j = F j := fun j hj => uS.o (by omega)
  refine ⟨⟨?_, ?_, ?_, ?_⟩, fun l hl => ?_, fun l hl => ?_, fun l hl => ?_, fun l hl => ?_, fun l hl => ?_⟩
  · rw [zIo (by omega), e0 0 (by omega)]
    exact a1
  · rw [zIo (by omega), e0 1 (by omega)]
    exact a2
  · rw [zIo (by omega), e0 2 (by omega)]
    exact a3
  · rw [zIo (by omega), e0 1000 (by omega)]
    exact a4
  · rw [e0 0 (by omega)] at hl
    rw [zIo (by omega), zIo (by omega), e0 _ (by omega), e0 _ (by omega)]
    exact b l hl
  · rw [e0 1 (by omega)] at hl
    rw [zIo (by omega), zIo (by omega), zIo (by omega), zIo (by omega), e0 _ (by omega), e0 _ (by omega), e0 _ (by omega), e0 _ (by omega)]
    exact c l hl
  · rw [e0 2 (by omega)] at hl
    rw [zIo (by omega), zIo (by omega), zIo (by omega), e0 _ (by omega), e0 _ (by omega), e0 _ (by omega)]
    exact d l hl
  · by_cases e2 : l = i
    · subst e2
      rw [zIs, uS.s]
      exact hv
    · rw [zIoj e2, uS.o (by omega)]
      exact f l hl
  · rw [e0 1000 (by omega)] at hl
    rw [zIo (by omega), e0 _ (by omega)]
    exact g l hl
/-- the count of hits, layers, particles: what stands behind the new one must be told -/
theorem zSo.hn {M : zM} {s n : Nat} {F : Nat → Int} {v : Int32} {x : Int} (q : zSo M s F) (hn : F 1 = (n : Int)) (hx : x = (n : Int) + 1) (hv : v.toInt = x) (e : (zI M (s + 3) n).toInt = F (30 + 4 * n) ∧ (zI M (s + 4) n).toInt = F (31 + 4 * n) ∧ (zI M (s + 5) n).toInt = F (32 + 4 * n) ∧ (zI M (s + 6) n).toInt = F (33 + 4 * n)) : zSo (zsI M s 3 v) s (uS F 1 x) := by
  obtain ⟨⟨a1, a2, a3, a4⟩, b, c, d, f, g⟩ := q
  have e0 : ∀ j : Nat, j ≠ 1 → uS F 1 x j = F j := fun j hj => uS.o hj
  refine ⟨⟨?_, ?_, ?_, ?_⟩, fun l hl => ?_, fun l hl => ?_, fun l hl => ?_, fun l hl => ?_, fun l hl => ?_⟩
  · rw [zIoj (by omega), e0 0 (by omega)]
    exact a1
  · rw [zIs, uS.s]
    exact hv
  · rw [zIoj (by omega), e0 2 (by omega)]
    exact a3
  · rw [zIoj (by omega), e0 1000 (by omega)]
    exact a4
  · rw [e0 0 (by omega)] at hl
    rw [zIo (by omega), zIo (by omega), e0 _ (by omega), e0 _ (by omega)]
    exact b l hl
  · rw [uS.s] at hl
    rw [zIo (by omega), zIo (by omega), zIo (by omega), zIo (by omega), e0 _ (by omega), e0 _ (by omega), e0 _ (by omega), e0 _ (by omega)]
    by_cases q : l = n
    · subst q
      exact e
    · exact c l (by omega)
  · rw [e0 2 (by omega)] at hl
    rw [zIo (by omega), zIo (by omega), zIo (by omega), e0 _ (by omega), e0 _ (by omega), e0 _ (by omega)]
    exact d l hl
  · rw [zIo (by omega), e0 _ (by omega)]
    exact f l hl
  · rw [e0 1000 (by omega)] at hl
    rw [zIo (by omega), e0 _ (by omega)]
    exact g l hl
/-- a hit more -/
theorem zSo.hit {M : zM} {s n k3 k4 k5 k6 : Nat} {F : Nat → Int} {l y t p c : Int32} {xl xy xt xp : Int} (q : zSo M s F) (e3 : k3 = s + 3) (e4 : k4 = s + 4) (e5 : k5 = s + 5) (e6 : k6 = s + 6) (hn : F 1 = (n : Int)) (hh : n < 60) (h0 : F 0 ≤ 8) (h2 : F 2 ≤ 12) (hl : l.toInt = xl) (hy : y.toInt = xy) (ht : t.toInt = xt) (hp : p.toInt = xp) (hc : c.toInt = (n : Int) + 1) : zSo (zsI (zsI (zsI (zsI (zsI M k3 n l) k4 n y) k5 n t) k6 n p) s 3 c) s (pHit F xl xy xt xp) := by
  have en : (F 1).toNat = n := by omega
  have d0 : ∀ (G : Nat → Int) (i : Nat) (x : Int), 30 ≤ i → i < 270 → uS G i x 0 = G 0 ∧ uS G i x 1 = G 1 ∧ uS G i x 2 = G 2 := fun G i x h1 h2 => ⟨uS.o (by omega), uS.o (by omega), uS.o (by omega)⟩
  have a1 := q.hl (o := 0) (k := k3) (v := l) (by omega) (by omega) hh h0 h2 hl
  have z1 := d0 F (30 + 0 + 4 * n) xl (by omega) (by omega)
  have a2 := a1.hl (o := 1) (k := k4) (v := y) (by omega) (by omega) hh (by rw [z1.1]; exact h0) (by rw [z1.2.2]; exact h2) hy
  have z2 := d0 (uS F (30 + 0 + 4 * n) xl) (30 + 1 + 4 * n) xy (by omega) (by omega)
  have a3 := a2.hl (o := 2) (k := k5) (v := t) (by omega) (by omega) hh (by rw [z2.1, z1.1]; exact h0) (by rw [z2.2.2, z1.2.2]; exact h2) ht
  have z3 := d0 (uS (uS F (30 + 0 + 4 * n) xl) (30 + 1 + 4 * n) xy) (30 + 2 + 4 * n) xt (by omega) (by omega)
  have a4 := a3.hl (o := 3) (k := k6) (v := p) (by omega) (by omega) hh (by rw [z3.1, z2.1, z1.1]; exact h0) (by rw [z3.2.2, z2.2.2, z1.2.2]; exact h2) hp
  have z4 := d0 (uS (uS (uS F (30 + 0 + 4 * n) xl) (30 + 1 + 4 * n) xy) (30 + 2 + 4 * n) xt) (30 + 3 + 4 * n) xp (by omega) (by omega)
  have a5 := a4.hn (n := n) (v := c) (x := F 1 + 1) (by rw [z4.2.1, z3.2.1, z2.2.1, z1.2.1]; exact hn) (by omega) (by omega) ⟨by
    rw [uS.o (by omega), uS.o (by omega), uS.o (by omega), uS.e (by omega), zIo (by omega), zIo (by omega), zIo (by omega)]
    subst e3
    rw [zIs]
    exact hl, by
    rw [uS.o (by omega), uS.o (by omega), uS.e (by omega), zIo (by omega), zIo (by omega)]
    subst e4
    rw [zIs]
    exact hy, by
    rw [uS.o (by omega), uS.e (by omega), zIo (by omega)]
    subst e5
    rw [zIs]
    exact ht, by
    rw [uS.e (by omega)]
    subst e6
    rw [zIs]
    exact hp⟩
  unfold pHit
  rw [en]
  exact a5
/-! ===== deeds ===== -/
theorem zWF.time {F : Nat → Int} {h : Nat} {x : Int} (q : zWF F) (hh : h < 60) (h1 : -1 ≤ x) (h2 : x ≤ 999) : zWF (uS F (32 + 4 * h) x) := by
  obtain ⟨⟨a1, a2, a3, a4, a5, a6⟩, b, c, d, e⟩ := q
  have e0 : ∀ j : Nat, j < 30 → uS F (32 + 4 * h) x j = F j := fun j hj => uS.o (by omega)
  unfold zWF
  rw [e0 0 (by omega), e0 1 (by omega), e0 2 (by omega), e0 5 (by omega), e0 6 (by omega), e0 7 (by omega), e0 8 (by omega), e0 9 (by omega), e0 10 (by omega), e0 11 (by omega), e0 12 (by omega), e0 13 (by omega)]
  refine ⟨⟨a1, a2, a3, a4, a5, a6⟩, fun l hl => ?_, fun g hg => ?_, d, e⟩
  · rw [e0 _ (by omega), e0 _ (by omega)]
    exact b l hl
  · have z := c g hg
    rw [uS.o (show 30 + 4 * g ≠ 32 + 4 * h by omega), uS.o (show 31 + 4 * g ≠ 32 + 4 * h by omega)]
    by_cases y : g = h
    · subst y
      rw [uS.s]
      omega
    · rw [uS.o (show 32 + 4 * g ≠ 32 + 4 * h by omega)]
      exact z
/-- a layer's hits are so much higher -/
def zab (F : Nat → Int) (l b : Int) (h : Nat) : Bool := decide (F (30 + 4 * h) = l ∧ -9999 ≤ F (31 + 4 * h) + b ∧ F (31 + 4 * h) + b ≤ 9999)
theorem zab.y {F : Nat → Int} {l b : Int} {h : Nat} (h1 : F (30 + 4 * h) = l) (h2 : -9999 ≤ F (31 + 4 * h) + b) (h3 : F (31 + 4 * h) + b ≤ 9999) : zab F l b h = true := decide_eq_true ⟨h1, h2, h3⟩
theorem zab.n {F : Nat → Int} {l b : Int} {h : Nat} (q : F (30 + 4 * h) ≠ l ∨ F (31 + 4 * h) + b < -9999 ∨ 9999 < F (31 + 4 * h) + b) : zab F l b h = false := decide_eq_false (fun z => by have z1 := z.1; have z2 := z.2.1; have z3 := z.2.2; omega)
def pAl (F : Nat → Int) (l b : Int) : Nat → Nat → Int
  | 0 => F
  | k + 1 => if zab F l b k = true then uS (pAl F l b k) (31 + 4 * k) (F (31 + 4 * k) + b) else pAl F l b k
theorem pAl.y {F : Nat → Int} {l b : Int} {k : Nat} (h : zab F l b k = true) : pAl F l b (k + 1) = uS (pAl F l b k) (31 + 4 * k) (F (31 + 4 * k) + b) := if_pos h
theorem pAl.n {F : Nat → Int} {l b : Int} {k : Nat} (h : zab F l b k = false) : pAl F l b (k + 1) = pAl F l b k := by
  show (if zab F l b k = true then _ else _) = _
  rw [h, if_neg Bool.false_ne_true]
theorem pAl.o {F : Nat → Int} {l b : Int} : ∀ (k j : Nat), (j < 31 ∨ 31 + 4 * k ≤ j ∨ j % 4 ≠ 3) → pAl F l b k j = F j
  | 0, j, _ => rfl
  | k + 1, j, h => by
    have z := pAl.o (F := F) (l := l) (b := b) k j (by omega)
    show (if zab F l b k = true then uS (pAl F l b k) (31 + 4 * k) (F (31 + 4 * k) + b) else pAl F l b k) j = F j
    split
    · rw [uS.o (by omega)]
      exact z
    · exact z
theorem pAl.wf {F : Nat → Int} {l b : Int} (q : zWF F) : ∀ k : Nat, (k : Int) ≤ F 1 → zWF (pAl F l b k) := by
  intro k hk
  obtain ⟨⟨a1, a2, a3, a4, a5, a6⟩, c1, c2, d, e⟩ := q
  have e0 : ∀ j : Nat, j < 31 → pAl F l b k j = F j := fun j hj => pAl.o k j (Or.inl hj)
  unfold zWF
  rw [e0 0 (by omega), e0 1 (by omega), e0 2 (by omega), e0 5 (by omega), e0 6 (by omega), e0 7 (by omega), e0 8 (by omega), e0 9 (by omega), e0 10 (by omega), e0 11 (by omega), e0 12 (by omega), e0 13 (by omega)]
  refine ⟨⟨a1, a2, a3, a4, a5, a6⟩, fun l hl => ?_, fun g hg => ?_, d, e⟩
  · rw [e0 _ (by omega), e0 _ (by omega)]
    exact c1 l hl
  · have z := c2 g hg
    have y : ∀ k : Nat, -9999 ≤ pAl F l b k (31 + 4 * g) ∧ pAl F l b k (31 + 4 * g) ≤ 9999 := by
      intro k
      induction k with
      | zero => exact ⟨z.2.2.1, z.2.2.2.1⟩
      | succ k ih =>
        cases hz : zab F l b k with
        | false => rw [pAl.n hz]; exact ih
        | true =>
          rw [pAl.y hz]
          by_cases w : g = k
          · subst w
            rw [uS.s]
            have v := of_decide_eq_true hz
            exact v.2
          · rw [uS.o (by omega)]
            exact ih
    rw [pAl.o k (30 + 4 * g) (by omega), pAl.o k (32 + 4 * g) (by omega)]
    exact ⟨z.1, z.2.1, (y k).1, (y k).2, z.2.2.2.2⟩
