/-! ===== the list of shapes ===== -/
/-- ahead of side s of the shapes of size K, T -/
def bef (K T s k t : Int) : Prop := k.natAbs < K ∨ ((k.natAbs : Int) = K ∧ ((t.natAbs : Int) < T ∨ ((t.natAbs : Int) = T ∧ ((k ≤ 0 ∧ t ≤ 0 ∧ 0 < s) ∨ (k ≤ 0 ∧ 0 < t ∧ 1 < s) ∨ (0 < k ∧ t ≤ 0 ∧ 2 < s) ∨ (0 < k ∧ 0 < t ∧ 3 < s)))))
def zLs (M : zM) (u v : Nat) (F : Nat → Int) (n : Nat) (K T s : Int) : Prop := (∀ i, i < n → zIr F (zI M u i).toInt (zI M v i).toInt ∧ bef K T s (zI M u i).toInt (zI M v i).toInt) ∧ (∀ i j, i < j → j < n → zslh (zI M u i).toInt (zI M v i).toInt (zI M u j).toInt (zI M v j).toInt) ∧ ∀ k t : Int, zIr F k t → bef K T s k t → ∃ i, i < n ∧ (zI M u i).toInt = k ∧ (zI M v i).toInt = t
theorem zLs.fr {M N : zM} {u v : Nat} {F : Nat → Int} {n : Nat} {K T s : Int} (h : zLs M u v F n K T s) (eu : ∀ j, zI N u j = zI M u j) (ev : ∀ j, zI N v j = zI M v j) : zLs N u v F n K T s := by
  obtain ⟨h1, h2, h3⟩ := h
  refine ⟨fun i hi => ?_, fun i j q1 q2 => ?_, fun k t q1 q2 => ?_⟩
  · rw [eu, ev]
    exact h1 i hi
  · rw [eu, ev, eu, ev]
    exact h2 i j q1 q2
  · obtain ⟨i, i1, i2, i3⟩ := h3 k t q1 q2
    exact ⟨i, i1, by rw [eu]; exact i2, by rw [ev]; exact i3⟩
theorem zLs.zero {M : zM} {u v : Nat} {F : Nat → Int} {n : Nat} {K T s : Int} (hn : n = 0) (hK : K = 0) (hT : T = 0) (hs : s = 0) : zLs M u v F n K T s := by
  refine ⟨fun i hi => absurd hi (by omega), fun i j q1 q2 => absurd q2 (by omega), fun k t q1 q2 => ?_⟩
  unfold bef at q2
  omega
/-- another name of the same place -/
theorem zLs.to {M : zM} {u v : Nat} {F : Nat → Int} {n : Nat} {K T s K' T' s' : Int} (h : zLs M u v F n K T s) (e : ∀ k t, zIr F k t → (bef K T s k t ↔ bef K' T' s' k t)) : zLs M u v F n K' T' s' := by
  obtain ⟨h1, h2, h3⟩ := h
  exact ⟨fun i hi => ⟨(h1 i hi).1, (e _ _ (h1 i hi).1).mp (h1 i hi).2⟩, h2, fun k t q1 q2 => h3 k t q1 ((e k t q1).mpr q2)⟩
/-- a side that says nothing new -/
theorem zLs.skip {M : zM} {u v : Nat} {F : Nat → Int} {n : Nat} {K T s s' : Int} (h : zLs M u v F n K T s) (hs : s' = s + 1) (h0 : 0 ≤ s) (hq : (2 ≤ s ∧ K = 0) ∨ (s % 2 = 1 ∧ T = 0)) (h3 : s ≤ 3) : zLs M u v F n K T s' := h.to fun k t q => by
  unfold bef
  omega
theorem zLs.side {M : zM} {u v : Nat} {F : Nat → Int} {n : Nat} {K T s T' : Int} (h : zLs M u v F n K T s) (hs : s = 4) (hT : T' = T + 1) : zLs M u v F n K T' 0 := h.to fun k t q => by
  unfold bef
  omega
theorem zLs.row {M : zM} {u v : Nat} {F : Nat → Int} {n : Nat} {K T K' : Int} (h : zLs M u v F n K T 0) (hT : F 6 < T) (hK : K' = K + 1) : zLs M u v F n K' 0 0 := h.to fun k t q => by
  unfold bef
  unfold zIr at q
  omega
theorem zLs.put {M N : zM} {u v : Nat} {F : Nat → Int} {n : Nat} {K T s s' k t : Int} (h : zLs M u v F n K T s) (hs : s' = s + 1) (h0 : 0 ≤ s) (h3 : s ≤ 3) (hK : 0 ≤ K ∧ K ≤ F 5) (hT : 0 ≤ T ∧ T ≤ F 6) (hq : ¬ (2 ≤ s ∧ K = 0)) (hq2 : ¬ (s % 2 = 1 ∧ T = 0)) (hk : (s < 2 ∧ k = -K) ∨ (2 ≤ s ∧ k = K)) (ht : (s % 2 = 0 ∧ t = -T) ∨ (s % 2 = 1 ∧ t = T)) (eu : (zI N u n).toInt = k) (ev : (zI N v n).toInt = t) (ou : ∀ j, j ≠ n → zI N u j = zI M u j) (ov : ∀ j, j ≠ n → zI N v j = zI M v j) : zLs N u v F (n + 1) K T s' := by
  obtain ⟨h1, h2, h4⟩ := h
  refine ⟨fun i hi => ?_, fun i j q1 q2 => ?_, fun x y q1 q2 => ?_⟩
  · by_cases e : i = n
    · rw [e, eu, ev]
      unfold zIr bef
      omega
    · rw [ou i e, ov i e]
      have z := h1 i (by omega)
      refine ⟨z.1, ?_⟩
      have w := z.2
      unfold bef at w ⊢
      omega
  · by_cases e : j = n
    · rw [e, eu, ev, ou i (by omega), ov i (by omega)]
      have w := (h1 i (by omega)).2
      unfold bef at w
      unfold zslh
      omega
    · rw [ou i (by omega), ov i (by omega), ou j e, ov j e]
      exact h2 i j q1 (by omega)
  · by_cases e : bef K T s x y
    · obtain ⟨i, i1, i2, i3⟩ := h4 x y q1 e
      exact ⟨i, by omega, by rw [ou i (by omega)]; exact i2, by rw [ov i (by omega)]; exact i3⟩
    · refine ⟨n, by omega, ?_, ?_⟩
      · rw [eu]
        unfold bef at q2 e
        omega
      · rw [ev]
        unfold bef at q2 e
        omega
theorem zLs.sl {M : zM} {p u v : Nat} {F : Nat → Int} {n : Nat} {K : Int} (h : zLs M u v F n K 0 0) (hK : F 5 < K) (hn : (zI M p 0).toInt = (n : Int)) (h2 : n ≤ 287) : zSl M p u v F n :=
  ⟨hn, h2, fun s hs => (h.1 s hs).1, h.2.1, fun k t q => h.2.2 k t q (by
    unfold bef
    unfold zIr at q
    omega)⟩
/-! ===== the voters are laid ===== -/
/-- the hits of L below i, in their order -/
def zVj (M : zM) (u v w : Nat) (F : Nat → Int) (L : Nat → Bool) (n : Nat) (φ : Nat → Nat) (i : Nat) : Prop := (∀ j, j < n → φ j < i ∧ L (φ j) = true ∧ (zI M u j).toInt = (φ j : Int) ∧ (zI M v j).toInt = F (30 + 4 * φ j) ∧ (zI M w j).toInt = F (31 + 4 * φ j)) ∧ (∀ a b, a < b → b < n → φ a < φ b) ∧ ∀ h, h < i → L h = true → ∃ j, j < n ∧ φ j = h
theorem zVj.zero {M : zM} {u v w : Nat} {F : Nat → Int} {L : Nat → Bool} {n : Nat} {φ : Nat → Nat} {i : Nat} (hn : n = 0) (hi : i = 0) : zVj M u v w F L n φ i := ⟨fun j h => absurd h (by omega), fun a b _ h => absurd h (by omega), fun h q => absurd q (by omega)⟩
theorem zVj.skip {M : zM} {u v w : Nat} {F : Nat → Int} {L : Nat → Bool} {n : Nat} {φ : Nat → Nat} {i : Nat} (h : zVj M u v w F L n φ i) (hL : L i = false) : zVj M u v w F L n φ (i + 1) := by
  refine ⟨fun j hj => ?_, h.2.1, fun x hx q => ?_⟩
  · have z := h.1 j hj
    exact ⟨by omega, z.2⟩
  · by_cases e : x = i
    · rw [e, hL] at q
      cases q
    · exact h.2.2 x (by omega) q
def uV (φ : Nat → Nat) (n x : Nat) (j : Nat) : Nat := if j = n then x else φ j
theorem uV.s {φ : Nat → Nat} {n x : Nat} : uV φ n x n = x := if_pos rfl
theorem uV.o {φ : Nat → Nat} {n x j : Nat} (h : j ≠ n) : uV φ n x j = φ j := if_neg h
theorem zVj.put {M N : zM} {u v w : Nat} {F : Nat → Int} {L : Nat → Bool} {n : Nat} {φ : Nat → Nat} {i : Nat} (h : zVj M u v w F L n φ i) (hL : L i = true) (eu : (zI N u n).toInt = (i : Int)) (ev : (zI N v n).toInt = F (30 + 4 * i)) (ew : (zI N w n).toInt = F (31 + 4 * i)) (ou : ∀ j, j ≠ n → zI N u j = zI M u j) (ov : ∀ j, j ≠ n → zI N v j = zI M v j) (ow : ∀ j, j ≠ n → zI N w j = zI M w j) : zVj N u v w F L (n + 1) (uV φ n i) (i + 1) := by
  refine ⟨fun j hj => ?_, fun a b q1 q2 => ?_, fun x hx q => ?_⟩
  · by_cases e : j = n
    · rw [e, uV.s]
      exact ⟨by omega, hL, eu, ev, ew⟩
    · rw [uV.o e, ou j e, ov j e, ow j e]
      have z := h.1 j (by omega)
      exact ⟨by omega, z.2⟩
  · by_cases e : b = n
    · rw [e, uV.s, uV.o (by omega)]
      exact (h.1 a (by omega)).1
    · rw [uV.o e, uV.o (by omega)]
      exact h.2.1 a b q1 (by omega)
  · by_cases e : x = i
    · exact ⟨n, by omega, by rw [uV.s]; exact e.symm⟩
    · obtain ⟨j, j1, j2⟩ := h.2.2 x (by omega) q
      exact ⟨j, by omega, by rw [uV.o (by omega)]; exact j2⟩
theorem zVj.vt {M : zM} {p u v w : Nat} {F : Nat → Int} {L : Nat → Bool} {n : Nat} {φ : Nat → Nat} {i : Nat} (h : zVj M u v w F L n φ i) (hi : F 1 = (i : Int)) (hn : (zI M p 6).toInt = (n : Int)) (h6 : n ≤ 60) : zVt M p u v w F L n φ :=
  ⟨hn, h6, fun j hj => ⟨by have z := h.1 j hj; omega, (h.1 j hj).2⟩, h.2.1, fun x hx q => h.2.2 x (by omega) q⟩
/-! ===== the hits of a track, layer by layer at once ===== -/
/-- of the first i voters -/
def zNv (F : Nat → Int) (φ : Nat → Nat) (c : zCl) (l i : Nat) (x d : Int) : Prop := (x = -2 ∧ ∀ h : Nat, zcd F (lpf φ i) c.1 c.2.1 c.2.2 l h = false) ∨ ∃ h : Nat, x = (h : Int) ∧ zcd F (lpf φ i) c.1 c.2.1 c.2.2 l h = true ∧ d = aw F c.1 c.2.1 c.2.2 l h ∧ ∀ j : Nat, zcd F (lpf φ i) c.1 c.2.1 c.2.2 l j = true → aw F c.1 c.2.1 c.2.2 l h < aw F c.1 c.2.1 c.2.2 l j ∨ (aw F c.1 c.2.1 c.2.2 l h = aw F c.1 c.2.1 c.2.2 l j ∧ h ≤ j)
theorem zcd.lp {F : Nat → Int} {φ : Nat → Nat} {k t b : Int} {l i : Nat} (h : Nat) : zcd F (lpf φ (i + 1)) k t b l h = true ↔ (zcd F (lpf φ i) k t b l h = true ∨ (h = φ i ∧ cel F k t (φ i) = b ∧ F (30 + 4 * φ i) = (l : Int))) := by
  have e : ∀ L : Nat → Bool, zcd F L k t b l h = true ↔ (L h = true ∧ cel F k t h = b ∧ F (30 + 4 * h) = (l : Int)) := fun L => by
    unfold zcd vh
    rw [Bool.and_eq_true, Bool.and_eq_true, decide_eq_true_eq, decide_eq_true_eq, and_assoc]
  rw [e, e]
  show ((lpf φ i h || decide (h = φ i)) = true ∧ _) ↔ _
  rw [Bool.or_eq_true, decide_eq_true_eq]
  constructor
  · rintro ⟨q | q, q2, q3⟩
    · exact Or.inl ⟨q, q2, q3⟩
    · subst q
      exact Or.inr ⟨rfl, q2, q3⟩
  · rintro (⟨q, q2, q3⟩ | ⟨q, q2, q3⟩)
    · exact ⟨Or.inl q, q2, q3⟩
    · subst q
      exact ⟨Or.inr rfl, q2, q3⟩
theorem zNv.same {F : Nat → Int} {φ : Nat → Nat} {c : zCl} {l i : Nat} {x d : Int} (h : zNv F φ c l i x d) (hn : cel F c.1 c.2.1 (φ i) ≠ c.2.2 ∨ F (30 + 4 * φ i) ≠ (l : Int)) : zNv F φ c l (i + 1) x d := by
  have e : ∀ j, zcd F (lpf φ (i + 1)) c.1 c.2.1 c.2.2 l j = zcd F (lpf φ i) c.1 c.2.1 c.2.2 l j := fun j => by
    rw [Bool.eq_iff_iff, zcd.lp]
    exact ⟨fun q => q.elim (fun z => z) (fun q => absurd q.2 (fun g => hn.elim (fun z => z g.1) (fun z => z g.2))), Or.inl⟩
  rcases h with ⟨h1, h2⟩ | ⟨a, h1, h2, h3, h4⟩
  · exact Or.inl ⟨h1, fun j => by rw [e]; exact h2 j⟩
  · exact Or.inr ⟨a, h1, by rw [e]; exact h2, h3, fun j q => by rw [e] at q; exact h4 j q⟩
theorem zNv.new {F : Nat → Int} {φ : Nat → Nat} {c : zCl} {l i : Nat} {x d y e : Int} (h : zNv F φ c l i x d) (hc : cel F c.1 c.2.1 (φ i) = c.2.2) (hl : F (30 + 4 * φ i) = (l : Int)) (hy : y = (φ i : Int)) (he : e = aw F c.1 c.2.1 c.2.2 l (φ i)) (hq : x < 0 ∨ e < d) (ho : ∀ j, lpf φ i j = true → j < φ i) : zNv F φ c l (i + 1) y e := by
  refine Or.inr ⟨φ i, hy, (zcd.lp _).mpr (Or.inr ⟨rfl, hc, hl⟩), he, fun j q => ?_⟩
  rcases (zcd.lp j).mp q with q | ⟨q, _⟩
  · rcases h with ⟨h1, h2⟩ | ⟨a, h1, h2, h3, h4⟩
    · rw [h2 j] at q
      cases q
    · have z := h4 j q
      omega
  · rw [q]
    exact Or.inr ⟨rfl, Nat.le_refl _⟩
theorem zNv.keep {F : Nat → Int} {φ : Nat → Nat} {c : zCl} {l i : Nat} {x d e : Int} (h : zNv F φ c l i x d) (he : e = aw F c.1 c.2.1 c.2.2 l (φ i)) (hx : 0 ≤ x) (hq : d ≤ e) (ho : ∀ j, lpf φ i j = true → j < φ i) : zNv F φ c l (i + 1) x d := by
  rcases h with ⟨h1, h2⟩ | ⟨a, h1, h2, h3, h4⟩
  · omega
  · have la : lpf φ i a = true := by
      unfold zcd vh at h2
      rw [Bool.and_eq_true, Bool.and_eq_true] at h2
      exact h2.1.1
    refine Or.inr ⟨a, h1, (zcd.lp _).mpr (Or.inl h2), h3, fun j q => ?_⟩
    rcases (zcd.lp j).mp q with q | ⟨q, _⟩
    · exact h4 j q
    · have z := ho a la
      rw [q]
      omega
theorem zrem2 {x v : Int32} (h : x - x / 2 * 2 = v) (h0 : 0 ≤ x.toInt) (h4 : x.toInt ≤ 4) : v.toInt = x.toInt % 2 := by
  subst h
  have q : x = 0 ∨ x = 1 ∨ x = 2 ∨ x = 3 ∨ x = 4 := by
    rcases (show x.toInt = 0 ∨ x.toInt = 1 ∨ x.toInt = 2 ∨ x.toInt = 3 ∨ x.toInt = 4 by omega) with q | q | q | q | q
    · exact Or.inl (Int32.toInt_inj.mp (q.trans (by decide)))
    · exact Or.inr (Or.inl (Int32.toInt_inj.mp (q.trans (by decide))))
    · exact Or.inr (Or.inr (Or.inl (Int32.toInt_inj.mp (q.trans (by decide)))))
    · exact Or.inr (Or.inr (Or.inr (Or.inl (Int32.toInt_inj.mp (q.trans (by decide))))))
    · exact Or.inr (Or.inr (Or.inr (Or.inr (Int32.toInt_inj.mp (q.trans (by decide))))))
  rcases q with q | q | q | q | q <;> (subst q; decide)
/-! ===== lifts of the layers ===== -/
def zBl2 (M : zM) (u : Nat) (F : Nat → Int) (n m : Int) : Prop := ∀ (l j : Nat) (k : Int), ((l : Int) < n ∨ ((l : Int) = n ∧ k < m)) → -F 5 ≤ k → k ≤ F 5 → (j : Int) = (k + 3) * 8 + (l : Int) → (zI M u j).toInt = k * F (14 + 2 * l) * F (14 + 2 * l) / 10000
def zSl2 (M : zM) (v : Nat) (F : Nat → Int) (n m : Int) : Prop := ∀ (l j : Nat) (t : Int), ((l : Int) < n ∨ ((l : Int) = n ∧ t < m)) → -F 6 ≤ t → t ≤ F 6 → (j : Int) = (t + 20) * 8 + (l : Int) → (zI M v j).toInt = t * F (14 + 2 * l) / 100
theorem zBl2.zero {M : zM} {u : Nat} {F : Nat → Int} {n m : Int} (hn : n = 0) (hm : m ≤ -F 5) : zBl2 M u F n m := fun l j k h h1 => by omega
theorem zSl2.zero {M : zM} {v : Nat} {F : Nat → Int} {n m : Int} (hn : n = 0) (hm : m ≤ -F 6) : zSl2 M v F n m := fun l j k h h1 => by omega
theorem zBl2.fr {M N : zM} {u : Nat} {F : Nat → Int} {n m : Int} (h : zBl2 M u F n m) (e : ∀ j, zI N u j = zI M u j) : zBl2 N u F n m := fun l j k q q1 q2 q3 => by
  rw [e]
  exact h l j k q q1 q2 q3
theorem zSl2.fr {M N : zM} {u : Nat} {F : Nat → Int} {n m : Int} (h : zSl2 M u F n m) (e : ∀ j, zI N u j = zI M u j) : zSl2 N u F n m := fun l j k q q1 q2 q3 => by
  rw [e]
  exact h l j k q q1 q2 q3
theorem zBl2.put {M N : zM} {u : Nat} {F : Nat → Int} {n m m' : Int} {i o : Nat} (h : zBl2 M u F n m) (hm : m' = m + 1) (hn : n = (i : Int)) (h7 : i < 8) (ho : (o : Int) = (m + 3) * 8 + n) (e1 : (zI N u o).toInt = m * F (14 + 2 * i) * F (14 + 2 * i) / 10000) (eo : ∀ j, j ≠ o → zI N u j = zI M u j) : zBl2 N u F n m' := fun l j k q q1 q2 q3 => by
  by_cases w : (l : Int) < n ∨ ((l : Int) = n ∧ k < m)
  · rw [eo j (by omega)]
    exact h l j k w q1 q2 q3
  · obtain rfl : l = i := by omega
    obtain rfl : k = m := by omega
    obtain rfl : j = o := by omega
    exact e1
theorem zSl2.put {M N : zM} {u : Nat} {F : Nat → Int} {n m m' : Int} {i o : Nat} (h : zSl2 M u F n m) (hm : m' = m + 1) (hn : n = (i : Int)) (h7 : i < 8) (ho : (o : Int) = (m + 20) * 8 + n) (e1 : (zI N u o).toInt = m * F (14 + 2 * i) / 100) (eo : ∀ j, j ≠ o → zI N u j = zI M u j) : zSl2 N u F n m' := fun l j k q q1 q2 q3 => by
  by_cases w : (l : Int) < n ∨ ((l : Int) = n ∧ k < m)
  · rw [eo j (by omega)]
    exact h l j k w q1 q2 q3
  · obtain rfl : l = i := by omega
    obtain rfl : k = m := by omega
    obtain rfl : j = o := by omega
    exact e1
theorem zBl2.next {M : zM} {u : Nat} {F : Nat → Int} {n m n' m' : Int} (h : zBl2 M u F n m) (hm : F 5 < m) (hn : n' = n + 1) (hm' : m' ≤ -F 5) : zBl2 M u F n' m' := fun l j k q q1 q2 q3 => h l j k (by omega) q1 q2 q3
theorem zSl2.next {M : zM} {u : Nat} {F : Nat → Int} {n m n' m' : Int} (h : zSl2 M u F n m) (hm : F 6 < m) (hn : n' = n + 1) (hm' : m' ≤ -F 6) : zSl2 M u F n' m' := fun l j k q q1 q2 q3 => h l j k (by omega) q1 q2 q3
theorem zPn.mk {M : zM} {p u v : Nat} {F : Nat → Int} {n a b : Int} (h5 : (zI M p 5).toInt = F 7) (h1 : zBl2 M u F n a) (h2 : zSl2 M v F n b) (hn : F 0 ≤ n) : zPn M p u v F := ⟨h5, fun l j k q q1 q2 q3 => h1 l j k (Or.inl (by omega)) q1 q2 q3, fun l j k q q1 q2 q3 => h2 l j k (Or.inl (by omega)) q1 q2 q3⟩
/-! ===== how many shapes there are so far ===== -/
def zQ7 (K n : Int) : Prop := (K = 0 ∧ n = 0) ∨ (1 ≤ K ∧ n ≤ 82 * K - 41)
def zQ20 (K T n : Int) : Prop := (K = 0 ∧ ((T = 0 ∧ n = 0) ∨ (1 ≤ T ∧ n ≤ 2 * T - 1))) ∨ (1 ≤ K ∧ ((T = 0 ∧ n ≤ 82 * K - 41) ∨ (1 ≤ T ∧ n ≤ 82 * K - 43 + 4 * T)))
def zQ36 (K T s n : Int) : Prop := (K = 0 ∧ T = 0 ∧ ((s = 0 ∧ n = 0) ∨ (1 ≤ s ∧ n ≤ 1))) ∨ (K = 0 ∧ 1 ≤ T ∧ n ≤ 2 * T - 1 + s ∧ n ≤ 2 * T + 1) ∨ (1 ≤ K ∧ T = 0 ∧ ((s = 0 ∧ n ≤ 82 * K - 41) ∨ (1 ≤ s ∧ s ≤ 2 ∧ n ≤ 82 * K - 40) ∨ (3 ≤ s ∧ n ≤ 82 * K - 39))) ∨ (1 ≤ K ∧ 1 ≤ T ∧ n ≤ 82 * K - 43 + 4 * T + s)
theorem zQ7.z {K n : Int} (h : K = 0) (h2 : n = 0) : zQ7 K n := Or.inl ⟨h, h2⟩
theorem zQ7.e20 {K T n : Int} (h : zQ7 K n) (h2 : T = 0) : zQ20 K T n := by
  unfold zQ7 at h
  unfold zQ20
  omega
theorem zQ20.e36 {K T s n : Int} (h : zQ20 K T n) (h2 : s = 0) : zQ36 K T s n := by
  unfold zQ20 at h
  unfold zQ36
  omega
theorem zQ36.le {K T s n : Int} (h : zQ36 K T s n) (h1 : K ≤ 3) (h2 : T ≤ 20) (h3 : 0 ≤ s) : n ≤ 283 + s := by
  unfold zQ36 at h
  omega
theorem zQ36.put {K T s s' n n' : Int} (h : zQ36 K T s n) (hs : s' = s + 1) (hn : n' = n + 1) (h0 : 0 ≤ s) (h3 : s ≤ 3) (hq : ¬ (2 ≤ s ∧ K = 0)) (hq2 : ¬ (s % 2 = 1 ∧ T = 0)) : zQ36 K T s' n' := by
  unfold zQ36 at h ⊢
  omega
theorem zQ36.skip {K T s s' n n' : Int} (h : zQ36 K T s n) (hs : s' = s + 1) (hn : n' = n) (h0 : 0 ≤ s) (h3 : s ≤ 3) (hq : (2 ≤ s ∧ K = 0) ∨ (s % 2 = 1 ∧ T = 0)) : zQ36 K T s' n' := by
  unfold zQ36 at h ⊢
  omega
theorem zQ36.b20 {K T T' s n : Int} (h : zQ36 K T s n) (ht : T' = T + 1) (hs : s = 4) : zQ20 K T' n := by
  unfold zQ36 at h
  unfold zQ20
  omega
theorem zQ20.b7 {K K' T n : Int} (h : zQ20 K T n) (hk : K' = K + 1) (h1 : 1 ≤ T) (h2 : T ≤ 21) : zQ7 K' n := by
  unfold zQ20 at h
  unfold zQ7
  omega
