/-! ===== the model's rows ===== -/
theorem zRw.fr' {M M' : zM} {F : Nat → Int} (h : zRw M 0 F) (e : ∀ j : Nat, j < 306 → zI M' 337 j = zI M 337 j) : zRw M' 0 F := fun j h1 h2 h3 => by
  rw [show 506 * 0 + j = j by omega, e j h1]
  exact h.at h1 h2 h3
theorem zRw.frR {M M' : zM} {r : Nat} {F : Nat → Int} (h : zRw M r F) (hr : 1 ≤ r) (e : ∀ j : Nat, 506 ≤ j → zI M' 337 j = zI M 337 j) : zRw M' r F := fun j h1 h2 h3 => by
  rw [e _ (by omega)]
  exact h j h1 h2 h3
theorem zHM.fr {M M' : zM} {H : Nat → Nat → Int} {n : Int} (h : zHM M H n) (e : ∀ j : Nat, 506 ≤ j → zI M' 337 j = zI M 337 j) (e1 : zI M' 336 1 = zI M 336 1) : zHM M' H n := by
  refine ⟨by rw [e1]; exact h.1, fun i hi => (h.2 i hi).frR (by omega) e⟩
/-- what the model keeps -/
def zKM (M : zM) (K : Nat → Nat → Int) (T : Nat → Int) : Prop := ∀ k : Nat, k < 2 → (zI M 338 k).toInt = T k ∧ (T k = 1 → zRw M (1 + k) (K k))
theorem zKM.fr {M M' : zM} {K : Nat → Nat → Int} {T : Nat → Int} (h : zKM M K T) (e : ∀ j : Nat, 506 ≤ j → zI M' 337 j = zI M 337 j) (e8 : ∀ k : Nat, zI M' 338 k = zI M 338 k) : zKM M' K T := fun k hk => by
  rw [e8]
  exact ⟨(h k hk).1, fun q => ((h k hk).2 q).frR (by omega) e⟩
theorem zHM.cp {M M' : zM} {H : Nat → Nat → Int} {n : Int} {a b : Nat} (h : zHM M H n) (c : zCp M M' a b 506) (hb : b < 3 ∨ 11 ≤ b) (hn : n ≤ 8) (e1 : zI M' 336 1 = zI M 336 1) : zHM M' H n :=
  ⟨by rw [e1]; exact h.1, fun i hi => zRw.cpo c (h.2 i hi) (by omega)⟩
theorem zKM.cp {M M' : zM} {K : Nat → Nat → Int} {T : Nat → Int} {a b : Nat} (h : zKM M K T) (c : zCp M M' a b 506) (hb : b = 0 ∨ 3 ≤ b) (e8 : ∀ k : Nat, zI M' 338 k = zI M 338 k) : zKM M' K T := fun k hk => by
  rw [e8]
  exact ⟨(h k hk).1, fun q => zRw.cpo c ((h k hk).2 q) (by omega)⟩
theorem zKM.put {M N : zM} {K : Nat → Nat → Int} {T : Nat → Int} {F : Nat → Int} {i : Nat} (h : zKM M K T) (hi : i < 2) (h1 : (zI N 338 i).toInt = 1) (hs : zRw N (1 + i) F) (eo : ∀ k, k ≠ i → zI N 338 k = zI M 338 k) (e : ∀ k : Nat, k < 2 → k ≠ i → ∀ G, zRw M (1 + k) G → zRw N (1 + k) G) : zKM N (uK K i F) (uS T i 1) := by
  intro k hk
  by_cases q : k = i
  · subst q
    rw [uK.s, uS.s]
    exact ⟨h1, fun _ => hs⟩
  · rw [uK.o q, uS.o q, eo k q]
    exact ⟨(h k hk).1, fun z => e k hk q _ ((h k hk).2 z)⟩
/-- a deed more -/
theorem zHM.push {M N : zM} {F : Nat → Int} {H : Nat → Nat → Int} {n m : Int} {d : Nat} (h : zHM M H n) (hd : (zI M 336 1).toInt = (d : Int)) (hm : (zI N 336 1).toInt = m) (em : m = (d : Int) + 1) (hr : zRw N (3 + d) F) (e : ∀ r : Nat, 3 ≤ r → r < 3 + d → ∀ G, zRw M r G → zRw N r G) : zHM N (pushH F H) m := by
  have hn : n = (d : Int) := by rw [← h.1]; exact hd
  refine ⟨hm, fun i hi => ?_⟩
  cases i with
  | zero =>
    rw [show 3 + (m.toNat - 1 - 0) = 3 + d by omega]
    exact hr
  | succ i =>
    have z := h.2 i (by omega)
    rw [show 3 + (m.toNat - 1 - (i + 1)) = 3 + (n.toNat - 1 - i) by omega]
    exact e _ (by omega) (by omega) _ z
/-- all are moved by one -/
def zSh (M : zM) (H : Nat → Nat → Int) (k : Nat) : Prop := ∀ d : Nat, d < 8 → zRw M (3 + d) (H (if d + 1 < k then 6 - d else 7 - d))
theorem zSh.of {M : zM} {H : Nat → Nat → Int} {n : Int} {k : Nat} (h : zHM M H n) (hn : n = 8) (hk : k = 1) : zSh M H k := by
  subst hn
  subst hk
  intro d hd
  have z := h.2 (7 - d) (by omega)
  rw [show 3 + ((8 : Int).toNat - 1 - (7 - d)) = 3 + d by omega] at z
  rw [if_neg (by omega)]
  exact z
theorem zSh.step {M M' : zM} {H : Nat → Nat → Int} {k k' : Nat} (h : zSh M H k) (h1 : 1 ≤ k) (h7 : k ≤ 7) (c : zCp M M' (3 + k) (2 + k) 506) (hk : k' = k + 1) : zSh M' H k' := by
  subst hk
  intro d hd
  by_cases e : d + 1 = k
  · have z := h k (by omega)
    rw [if_neg (by omega)] at z
    have w := zRw.cp c z
    rw [show 3 + d = 2 + k by omega, if_pos (by omega), show 6 - d = 7 - k by omega]
    exact w
  · have z := h d hd
    have y : (if d + 1 < k + 1 then 6 - d else 7 - d) = (if d + 1 < k then 6 - d else 7 - d) := by
      by_cases q : d + 1 < k
      · rw [if_pos q, if_pos (by omega)]
      · rw [if_neg q, if_neg (by omega)]
    rw [y]
    exact zRw.cpo c z (by omega)
theorem zHM.push8 {M N : zM} {F : Nat → Int} {H : Nat → Nat → Int} {m : Int} {k : Nat} (h : zSh M H k) (hk : k = 8) (hm : (zI N 336 1).toInt = m) (em : m = 8) (hr : zRw N 10 F) (e : ∀ r : Nat, 3 ≤ r → r < 10 → ∀ G, zRw M r G → zRw N r G) : zHM N (pushH F H) m := by
  subst hk
  refine ⟨hm, fun i hi => ?_⟩
  cases i with
  | zero =>
    rw [show 3 + (m.toNat - 1 - 0) = 10 by omega]
    exact hr
  | succ i =>
    have z := h (6 - i) (by omega)
    rw [if_pos (by omega), show 6 - (6 - i) = i by omega] at z
    rw [show 3 + (m.toNat - 1 - (i + 1)) = 3 + (6 - i) by omega]
    exact e _ (by omega) (by omega) _ z
theorem zHM.top {M : zM} {H : Nat → Nat → Int} {n : Int} {d : Nat} (h : zHM M H n) (hd : (zI M 336 1).toInt = (d : Int) + 1) : zRw M (3 + d) (H 0) := by
  have hn : n = (d : Int) + 1 := by rw [← h.1]; exact hd
  have z := h.2 0 (by omega)
  rw [show 3 + (n.toNat - 1 - 0) = 3 + d by omega] at z
  exact z
theorem zHM.pop {M N : zM} {H : Nat → Nat → Int} {n m : Int} (h : zHM M H n) (hm : (zI N 336 1).toInt = m) (em : m = n - 1) (h0 : 0 < n) (e : ∀ r : Nat, 3 ≤ r → ∀ G, zRw M r G → zRw N r G) : zHM N (popH H) m := by
  refine ⟨hm, fun i hi => ?_⟩
  have z := h.2 (i + 1) (by omega)
  rw [show 3 + (m.toNat - 1 - i) = 3 + (n.toNat - 1 - (i + 1)) by omega]
  exact e _ (by omega) _ z
theorem zxor1 {x v : Int32} (h : x.toInt = 0 ∨ x.toInt = 1) (e : x ^^^ 1 = v) : v.toInt = 1 - x.toInt := by
  subst e
  rcases h with h | h
  · obtain rfl : x = 0 := (zeq h (show (0 : Int32).toInt = 0 by decide)).mpr rfl
    decide
  · obtain rfl : x = 1 := (zeq h (show (1 : Int32).toInt = 1 by decide)).mpr rfl
    decide
def zSM (M : zM) (F : Nat → Int) (H : Nat → Nat → Int) (n : Int) (K : Nat → Nat → Int) (T : Nat → Int) : Prop := zRw M 0 F ∧ zHM M H n ∧ zKM M K T
theorem zRw.frA {M M' : zM} {r : Nat} {F : Nat → Int} (h : zRw M r F) (e : ∀ j : Nat, zI M' 337 j = zI M 337 j) : zRw M' r F := fun j h1 h2 h3 => by
  rw [e]
  exact h j h1 h2 h3
theorem zRw.cast {M : zM} {r r' : Nat} {F : Nat → Int} (e : r = r') (h : zRw M r F) : zRw M r' F := e ▸ h
theorem zKM.rows {M N : zM} {K : Nat → Nat → Int} {T : Nat → Int} (h : zKM M K T) (e : ∀ r : Nat, 1 ≤ r → r < 3 → ∀ G, zRw M r G → zRw N r G) (e8 : ∀ k : Nat, zI N 338 k = zI M 338 k) : zKM N K T := fun k hk => by
  rw [e8]
  exact ⟨(h k hk).1, fun q => e _ (by omega) (by omega) _ ((h k hk).2 q)⟩
