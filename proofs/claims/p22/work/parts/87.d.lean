/-! ===== the class's tracks in memory ===== -/
/-- a track's two rows alone may differ -/
def zTo (M N : zM) (t : Nat) : Prop := ∀ k j : Nat, k ≠ t + 1 → k ≠ t + 2 → zI N k j = zI M k j
theorem zTo.id {M : zM} {t : Nat} : zTo M M t := fun _ _ _ _ => rfl
def zNh (M N : zM) (F : Nat → Int) (φ : Nat → Nat) (c : zCl) (t i : Nat) : Prop := zTo M N t ∧ ∀ l : Nat, l < 8 → zNv F φ c l i (zI N (t + 1) l).toInt (zI N (t + 2) l).toInt
theorem zNh.zero {M : zM} {F : Nat → Int} {φ : Nat → Nat} {c : zCl} {t i : Nat} (hi : i = 0) (h : ∀ l : Nat, l < 8 → (zI M (t + 1) l).toInt = -2) : zNh M M F φ c t i := by
  subst hi
  exact ⟨zTo.id, fun l hl => Or.inl ⟨h l hl, fun x => zcd.v (vh.n rfl)⟩⟩
theorem zNh.skip {M N : zM} {F : Nat → Int} {φ : Nat → Nat} {c : zCl} {t i : Nat} (h : zNh M N F φ c t i) (hc : cel F c.1 c.2.1 (φ i) ≠ c.2.2) : zNh M N F φ c t (i + 1) :=
  ⟨h.1, fun l hl => (h.2 l hl).same (Or.inl hc)⟩
theorem zNh.keep {M N : zM} {F : Nat → Int} {φ : Nat → Nat} {c : zCl} {t i l : Nat} {e : Int} (h : zNh M N F φ c t i) (hl : F (30 + 4 * φ i) = (l : Int)) (he : e = aw F c.1 c.2.1 c.2.2 l (φ i)) (hx : 0 ≤ (zI N (t + 1) l).toInt) (hq : (zI N (t + 2) l).toInt ≤ e) (ho : ∀ j, lpf φ i j = true → j < φ i) : zNh M N F φ c t (i + 1) := by
  refine ⟨h.1, fun m hm => ?_⟩
  by_cases q : m = l
  · subst q
    exact (h.2 m hm).keep he hx hq ho
  · exact (h.2 m hm).same (Or.inr (by omega))
theorem zNh.put {M N : zM} {F : Nat → Int} {φ : Nat → Nat} {c : zCl} {t i l : Nat} {v w : Int32} (h : zNh M N F φ c t i) (hc : cel F c.1 c.2.1 (φ i) = c.2.2) (hl : F (30 + 4 * φ i) = (l : Int)) (hy : v.toInt = (φ i : Int)) (he : w.toInt = aw F c.1 c.2.1 c.2.2 l (φ i)) (hq : (zI N (t + 1) l).toInt < 0 ∨ w.toInt < (zI N (t + 2) l).toInt) (ho : ∀ j, lpf φ i j = true → j < φ i) : zNh M (zsI (zsI N (t + 1) l v) (t + 2) l w) F φ c t (i + 1) := by
  have o : ∀ m, m ≠ l → zI (zsI (zsI N (t + 1) l v) (t + 2) l w) (t + 1) m = zI N (t + 1) m ∧ zI (zsI (zsI N (t + 1) l v) (t + 2) l w) (t + 2) m = zI N (t + 2) m := fun m q => ⟨(zIo (by omega)).trans (zIoj q), (zIoj q).trans (zIo (by omega))⟩
  have s1 : zI (zsI (zsI N (t + 1) l v) (t + 2) l w) (t + 1) l = v := (zIo (by omega)).trans zIs
  have s2 : zI (zsI (zsI N (t + 1) l v) (t + 2) l w) (t + 2) l = w := zIs
  refine ⟨fun k j q1 q2 => (zIo (by omega)).trans ((zIo (by omega)).trans (h.1 k j q1 q2)), fun m hm => ?_⟩
  by_cases q : m = l
  · rw [q, s1, s2]
    rw [q] at hm
    exact (h.2 l hm).new hc hl hy he hq ho
  · rw [(o m q).1, (o m q).2]
    exact (h.2 m hm).same (Or.inr (by omega))
theorem zVt.ho {M : zM} {p u v w : Nat} {F : Nat → Int} {L : Nat → Bool} {n : Nat} {φ : Nat → Nat} (x : zVt M p u v w F L n φ) {i : Nat} (hi : i < n) : ∀ j, lpf φ i j = true → j < φ i := fun j q => by
  obtain ⟨m, m1, m2⟩ := lpf.ex i q
  rw [m2]
  exact x.2.2.2.1 m i m1 hi
theorem zNv.nr {M : zM} {p u v w : Nat} {F : Nat → Int} {L : Nat → Bool} {n : Nat} {φ : Nat → Nat} {c : zCl} {l : Nat} {x d : Int} (y : zVt M p u v w F L n φ) (z : zNv F φ c l n x d) : zNr F L c l x := by
  have e : ∀ h : Nat, (h : Int) < F 1 → zcd F (lpf φ n) c.1 c.2.1 c.2.2 l h = zcd F L c.1 c.2.1 c.2.2 l h := fun h hh => by
    unfold zcd vh
    rw [y.lp h hh]
  rcases z with ⟨z1, z2⟩ | ⟨h, z1, z2, z3, z4⟩
  · exact Or.inl ⟨z1, fun h hh => by rw [← e h hh]; exact z2 h⟩
  · have hb : (h : Int) < F 1 := by
      have q : lpf φ n h = true := by
        unfold zcd vh at z2
        rw [Bool.and_eq_true, Bool.and_eq_true] at z2
        exact z2.1.1
      obtain ⟨j, j1, j2⟩ := lpf.ex n q
      rw [j2]
      exact (y.2.2.1 j j1).1
    exact Or.inr ⟨h, hb, z1, by rw [← e h hb]; exact z2, fun j hj q => z4 j (by rw [e j hj]; exact q)⟩
theorem zNh.end {M N : zM} {p u v w : Nat} {F : Nat → Int} {L : Nat → Bool} {n : Nat} {φ : Nat → Nat} {c : zCl} {t i : Nat} (h : zNh M N F φ c t i) (hi : i = n) (y : zVt M p u v w F L n φ) : zTo M N t ∧ ∀ l : Nat, l < 8 → zNr F L c l (zI N (t + 1) l).toInt := by
  subst hi
  exact ⟨h.1, fun l hl => zNv.nr y (h.2 l hl)⟩
/-- a track's hits -/
def hsO (M : zM) (t : Nat) (l : Nat) : Int := if l < 8 then (zI M (t + 1) l).toInt else -2
theorem rmv.n {M : zM} {t : Nat} {F : Nat → Int} {L : Nat → Bool} {h l : Nat} (hl : F (30 + 4 * h) = (l : Int)) (h8 : l < 8) (e : (zI M (t + 1) l).toInt = (h : Int)) : zrmv F L (hsO M t) h = false := by
  unfold zrmv hsO
  rw [show (F (30 + 4 * h)).toNat = l by omega, if_pos h8, decide_eq_false (fun q => q e), Bool.and_false]
theorem rmv.y {M : zM} {t : Nat} {F : Nat → Int} {L : Nat → Bool} {h l : Nat} (hL : L h = true) (hl : F (30 + 4 * h) = (l : Int)) (h8 : l < 8) (e : (zI M (t + 1) l).toInt ≠ (h : Int)) : zrmv F L (hsO M t) h = true := by
  unfold zrmv hsO
  rw [show (F (30 + 4 * h)).toNat = l by omega, if_pos h8, decide_eq_true e, hL]
  rfl
/-- the first voters are gone through, the others wait -/
def zSi (M N : zM) (u v w : Nat) (F : Nat → Int) (L : Nat → Bool) (φ : Nat → Nat) (m i : Nat) (ψ : Nat → Nat) : Prop := m ≤ i ∧ (∀ j, j < m → (∃ a, a < i ∧ ψ j = φ a) ∧ L (ψ j) = true ∧ (zI N u j).toInt = (ψ j : Int) ∧ (zI N v j).toInt = F (30 + 4 * ψ j) ∧ (zI N w j).toInt = F (31 + 4 * ψ j)) ∧ (∀ a b, a < b → b < m → ψ a < ψ b) ∧ (∀ a, a < i → L (φ a) = true → ∃ j, j < m ∧ ψ j = φ a) ∧ ∀ a, i ≤ a → zI N u a = zI M u a ∧ zI N v a = zI M v a ∧ zI N w a = zI M w a
theorem zSi.zero {M : zM} {u v w : Nat} {F : Nat → Int} {L : Nat → Bool} {φ : Nat → Nat} {m i : Nat} {ψ : Nat → Nat} (hm : m = 0) (hi : i = 0) : zSi M M u v w F L φ m i ψ :=
  ⟨by omega, fun j h => absurd h (by omega), fun a b _ h => absurd h (by omega), fun a h => absurd h (by omega), fun a _ => ⟨rfl, rfl, rfl⟩⟩
theorem zSi.skip {M N : zM} {u v w : Nat} {F : Nat → Int} {L : Nat → Bool} {φ : Nat → Nat} {m i : Nat} {ψ : Nat → Nat} (h : zSi M N u v w F L φ m i ψ) (hL : L (φ i) = false) : zSi M N u v w F L φ m (i + 1) ψ := by
  obtain ⟨h1, h2, h3, h4, h5⟩ := h
  refine ⟨by omega, fun j hj => ?_, h3, fun a ha q => ?_, fun a ha => h5 a (by omega)⟩
  · obtain ⟨⟨a, a1, a2⟩, r⟩ := h2 j hj
    exact ⟨⟨a, by omega, a2⟩, r⟩
  · by_cases e : a = i
    · rw [e, hL] at q
      cases q
    · exact h4 a (by omega) q
theorem zSi.put {M N : zM} {u v w n : Nat} {F : Nat → Int} {L : Nat → Bool} {φ : Nat → Nat} {m i : Nat} {ψ : Nat → Nat} {x y z : Int32} (h : zSi M N u v w F L φ m i ψ) (d1 : u ≠ v) (d2 : u ≠ w) (d3 : v ≠ w) (hφ : ∀ a b, a < b → b < n → φ a < φ b) (hi : i < n) (hL : L (φ i) = true) (hx : x.toInt = (φ i : Int)) (hy : y.toInt = F (30 + 4 * φ i)) (hz : z.toInt = F (31 + 4 * φ i)) : zSi M (zsI (zsI (zsI N u m x) v m y) w m z) u v w F L φ (m + 1) (i + 1) (uV ψ m (φ i)) := by
  obtain ⟨h1, h2, h3, h4, h5⟩ := h
  have s1 : zI (zsI (zsI (zsI N u m x) v m y) w m z) u m = x := (zIo (by omega)).trans ((zIo (by omega)).trans zIs)
  have s2 : zI (zsI (zsI (zsI N u m x) v m y) w m z) v m = y := (zIo (by omega)).trans zIs
  have s3 : zI (zsI (zsI (zsI N u m x) v m y) w m z) w m = z := zIs
  have o : ∀ j, j ≠ m → zI (zsI (zsI (zsI N u m x) v m y) w m z) u j = zI N u j ∧ zI (zsI (zsI (zsI N u m x) v m y) w m z) v j = zI N v j ∧ zI (zsI (zsI (zsI N u m x) v m y) w m z) w j = zI N w j := fun j q => ⟨(zIo (by omega)).trans ((zIo (by omega)).trans (zIoj q)), (zIo (by omega)).trans ((zIoj q).trans (zIo (by omega))), (zIoj q).trans ((zIo (by omega)).trans (zIo (by omega)))⟩
  refine ⟨by omega, fun j hj => ?_, fun a b q1 q2 => ?_, fun a ha q => ?_, fun a ha => ?_⟩
  · by_cases e : j = m
    · rw [e, uV.s, s1, s2, s3]
      exact ⟨⟨i, by omega, rfl⟩, hL, hx, hy, hz⟩
    · rw [uV.o e, (o j e).1, (o j e).2.1, (o j e).2.2]
      obtain ⟨⟨a, a1, a2⟩, r⟩ := h2 j (by omega)
      exact ⟨⟨a, by omega, a2⟩, r⟩
  · by_cases e : b = m
    · rw [e, uV.s, uV.o (by omega)]
      obtain ⟨⟨c, a1, a2⟩, _⟩ := h2 a (by omega)
      rw [a2]
      exact hφ c i a1 hi
    · rw [uV.o e, uV.o (by omega)]
      exact h3 a b q1 (by omega)
  · by_cases e : a = i
    · exact ⟨m, by omega, by rw [uV.s, e]⟩
    · obtain ⟨j, j1, j2⟩ := h4 a (by omega) q
      exact ⟨j, by omega, by rw [uV.o (by omega)]; exact j2⟩
  · rw [(o a (by omega)).1, (o a (by omega)).2.1, (o a (by omega)).2.2]
    exact h5 a (by omega)
theorem zSi.vt {M N N' : zM} {p u v w n : Nat} {F : Nat → Int} {L L0 : Nat → Bool} {φ : Nat → Nat} {m i : Nat} {ψ : Nat → Nat} (h : zSi M N u v w F L φ m i ψ) (hi : i = n) (x : zVt M p u v w F L0 n φ) (hL : ∀ y, L y = true → L0 y = true) (e6 : (zI N' p 6).toInt = (m : Int)) (eu : ∀ j, zI N' u j = zI N u j) (ev : ∀ j, zI N' v j = zI N v j) (ew : ∀ j, zI N' w j = zI N w j) : zVt N' p u v w F L m ψ := by
  subst hi
  obtain ⟨h1, h2, h3, h4, _⟩ := h
  obtain ⟨x1, x2, x3, x4, x5⟩ := x
  refine ⟨e6, by omega, fun j hj => ?_, h3, fun y hy q => ?_⟩
  · rw [eu, ev, ew]
    obtain ⟨⟨a, a1, a2⟩, r⟩ := h2 j hj
    refine ⟨?_, r⟩
    rw [a2]
    exact (x3 a a1).1
  · obtain ⟨a, a1, a2⟩ := x5 y hy (hL y q)
    obtain ⟨j, j1, j2⟩ := h4 a a1 (by rw [a2]; exact q)
    exact ⟨j, j1, j2.trans a2⟩
/-! ===== all tracks ===== -/
def zTrk (N : zM) (t : Nat) (τ : zTkk) : Prop := (zI N t 0).toInt = τ.1.1 ∧ (zI N t 1).toInt = τ.1.2.1 ∧ (zI N t 2).toInt = τ.1.2.2 ∧ (zI N t 3).toInt = τ.2.1 ∧ ∀ l : Nat, l < 8 → (zI N (t + 1) l).toInt = τ.2.2 l
theorem zTrk.fr {M N : zM} {t : Nat} {τ : zTkk} (h : zTrk M t τ) (e : ∀ k j : Nat, t ≤ k → k ≤ t + 1 → zI N k j = zI M k j) : zTrk N t τ := by
  obtain ⟨h1, h2, h3, h4, h5⟩ := h
  refine ⟨?_, ?_, ?_, ?_, fun l hl => ?_⟩
  · rw [e t 0 (by omega) (by omega)]; exact h1
  · rw [e t 1 (by omega) (by omega)]; exact h2
  · rw [e t 2 (by omega) (by omega)]; exact h3
  · rw [e t 3 (by omega) (by omega)]; exact h4
  · rw [e (t + 1) l (by omega) (by omega)]; exact h5 l hl
theorem zBe.cs {F : Nat → Int} {L : Nat → Bool} {k t b v k' t' b' v' : Int} (h : zBe F L (k, t, b) v) (e1 : k' = k) (e2 : t' = t) (e3 : b' = b) (e4 : v' = v) : zBe F L (k', t', b') v' := by
  rw [e1, e2, e3, e4]
  exact h
theorem zBd.lo {M : zM} {u v w : Nat} {F : Nat → Int} {L L' : Nat → Bool} {n : Nat} (h : zBd M u v w F L n) (e : ∀ x, L' x = true → L x = true) : zBd M u v w F L' n := fun s hs b => Int.le_trans (vot.mono e) (h s hs b)
theorem zBd.full {M : zM} {u v w : Nat} {F : Nat → Int} {L : Nat → Bool} {n : Nat} (h : ∀ s : Nat, s < n → (zI M w s).toInt = 8) : zBd M u v w F L n := fun s hs b => by
  rw [h s hs]
  exact vot.rg.2
/-- what the finder holds behind n tracks -/
def zFc (N : zM) (P T Fi BD : Nat) (F : Nat → Int) (b need : Int) (n : Nat) (τ : Nat → zTkk) (Λ : Nat → Nat → Bool) (ns m : Nat) (φ : Nat → Nat) : Prop := ((zI N Fi 2).toInt = (n : Int) ∧ n ≤ 20) ∧ zSq F (zL0 F b) n τ Λ ∧ (∀ i, i < n → need ≤ (τ i).2.1) ∧ (∀ i, i < n → zTrk N (T + 3 * i) (τ i)) ∧ zVt N P (P + 5) (P + 6) (P + 7) F (Λ n) m φ ∧ zBd N (P + 1) (P + 2) BD F (Λ n) ns ∧ zSl N P (P + 1) (P + 2) F ns ∧ zPn N P (P + 3) (P + 4) F ∧ zSp N P (P + 8)
theorem zFc.start {N : zM} {P T Fi BD : Nat} {F : Nat → Int} {b need : Int} {ns m : Nat} {φ : Nat → Nat} (hn : (zI N Fi 2).toInt = 0) (hv : zVt N P (P + 5) (P + 6) (P + 7) F (zL0 F b) m φ) (hb : zBd N (P + 1) (P + 2) BD F (zL0 F b) ns) (hs : zSl N P (P + 1) (P + 2) F ns) (hp : zPn N P (P + 3) (P + 4) F) (hq : zSp N P (P + 8)) : ∃ n τ Λ m φ, zFc N P T Fi BD F b need n τ Λ ns m φ :=
  ⟨0, fun _ => ((0, 0, 0), 0, fun _ => 0), fun _ => zL0 F b, m, φ, ⟨hn, by omega⟩, zSq.nil, fun i hi => absurd hi (by omega), fun i hi => absurd hi (by omega), hv, hb, hs, hp, hq⟩
/-- one track more -/
theorem zFc.more {M N : zM} {P T Fi BD : Nat} {F : Nat → Int} {b need : Int} {n : Nat} {τ : Nat → zTkk} {Λ : Nat → Nat → Bool} {ns m : Nat} {φ : Nat → Nat} {c : zCl} {v : Int} {hs : Nat → Int} (x : zFc M P T Fi BD F b need n τ Λ ns m φ) (hn : n < 20) (hb : zBe F (Λ n) c v) (hv : need ≤ v) (hh : ∀ l, l < 8 → zNr F (Λ n) c l (hs l)) (h8 : ∀ l, 8 ≤ l → hs l = -2) (e2 : (zI N Fi 2).toInt = (n : Int) + 1) (eo : ∀ k j : Nat, T ≤ k → k < T + 3 * n → zI N k j = zI M k j) (et : zTrk N (T + 3 * n) (c, v, hs)) (ev : ∃ (m : Nat) (φ : Nat → Nat), zVt N P (P + 5) (P + 6) (P + 7) F (zrmv F (Λ n) hs) m φ) (eb : zBd N (P + 1) (P + 2) BD F (Λ n) ns) (es : zSl N P (P + 1) (P + 2) F ns) (ep : zPn N P (P + 3) (P + 4) F) (eq : zSp N P (P + 8)) : ∃ n τ Λ m φ, zFc N P T Fi BD F b need n τ Λ ns m φ := by
  obtain ⟨⟨x1, x0⟩, x2, x3, x4, _⟩ := x
  obtain ⟨m', φ', ev⟩ := ev
  have tq : zTq F (Λ n) (c, v, hs) := ⟨hb, fun l => ⟨hh l, h8 l⟩⟩
  refine ⟨n + 1, uT τ n (c, v, hs), uL Λ (n + 1) (zrmv F (Λ n) hs), m', φ', ⟨by omega, by omega⟩, zSq.more x2 tq, fun i hi => ?_, fun i hi => ?_, ?_, ?_, es, ep, eq⟩
  · by_cases e : i = n
    · rw [e, uT.s]
      exact hv
    · rw [uT.o e]
      exact x3 i (by omega)
  · by_cases e : i = n
    · rw [e, uT.s]
      exact et
    · rw [uT.o e]
      exact (x4 i (by omega)).fr (fun k j q1 q2 => eo k j (by omega) (by omega))
  · rw [uL.s]
    exact ev
  · rw [uL.s]
    exact eb.lo (fun y hy => zrmv.le hy)
/-- what it has found -/
def zFe (N : zM) (P T Fi BD : Nat) (F : Nat → Int) (b need : Int) : Prop := ∃ (n : Nat) (τ : Nat → zTkk) (Λ : Nat → Nat → Bool) (ns m : Nat) (φ : Nat → Nat), zFc N P T Fi BD F b need n τ Λ ns m φ ∧ zEn F need n Λ
theorem zFc.all {N : zM} {P T Fi BD : Nat} {F : Nat → Int} {b need : Int} {n : Nat} {τ : Nat → zTkk} {Λ : Nat → Nat → Bool} {ns m : Nat} {φ : Nat → Nat} (x : zFc N P T Fi BD F b need n τ Λ ns m φ) (h : n = 20) : zFe N P T Fi BD F b need := ⟨n, τ, Λ, ns, m, φ, x, Or.inl h⟩
theorem zFc.none {M N : zM} {P T Fi BD : Nat} {F : Nat → Int} {b need : Int} {n : Nat} {τ : Nat → zTkk} {Λ : Nat → Nat → Bool} {ns m : Nat} {φ : Nat → Nat} (x : zFc M P T Fi BD F b need n τ Λ ns m φ) (h : ∀ k t b, zIr F k t → vot F (Λ n) k t b < need) (e2 : zI N Fi 2 = zI M Fi 2) (eo : ∀ k j : Nat, T ≤ k → k < T + 60 → zI N k j = zI M k j) (ev : zVt N P (P + 5) (P + 6) (P + 7) F (Λ n) m φ) (eb : zBd N (P + 1) (P + 2) BD F (Λ n) ns) (es : zSl N P (P + 1) (P + 2) F ns) (ep : zPn N P (P + 3) (P + 4) F) (eq : zSp N P (P + 8)) : zFe N P T Fi BD F b need := by
  obtain ⟨⟨x1, x0⟩, x2, x3, x4, _⟩ := x
  exact ⟨n, τ, Λ, ns, m, φ, ⟨⟨by rw [e2]; exact x1, x0⟩, x2, x3, fun i hi => (x4 i hi).fr (fun k j q1 q2 => eo k j (by omega) (by omega)), ev, eb, es, ep, eq⟩, Or.inr h⟩
