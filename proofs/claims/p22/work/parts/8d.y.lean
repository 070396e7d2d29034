/-! ===== rows that say the same below 306 have the same tracks ===== -/
def zAg (F G : Nat → Int) : Prop := ∀ j, j < 306 → G j = F j
theorem pLf.cg {F G : Nat → Int} {l : Nat} {t k : Int} (a : zAg F G) (hl : l < 8) : pLf G l t k = pLf F l t k := by
  unfold pLf
  rw [a (14 + 2 * l) (by omega)]
theorem zctb.cg {F G : Nat → Int} {h : Nat} (a : zAg F G) (w : zWF F) (hh : (h : Int) < F 1) : zctb G h = zctb F h := by
  have f1 := w.1
  have z := w.2.2.1 h hh
  unfold zctb
  rw [a (30 + 4 * h) (by omega), a (15 + 2 * (F (30 + 4 * h)).toNat) (by omega), a 10 (by omega), a 11 (by omega), a (32 + 4 * h) (by omega)]
theorem cel.cg {F G : Nat → Int} {h : Nat} {k t : Int} (a : zAg F G) (w : zWF F) (hh : (h : Int) < F 1) : cel G k t h = cel F k t h := by
  have f1 := w.1
  have z := w.2.2.1 h hh
  unfold cel
  rw [a (31 + 4 * h) (by omega), a (30 + 4 * h) (by omega), pLf.cg a (show (F (30 + 4 * h)).toNat < 8 by omega), a 7 (by omega)]
theorem vh.cg {F G : Nat → Int} {L L' : Nat → Bool} {h : Nat} {k t b : Int} (a : zAg F G) (w : zWF F) (hh : (h : Int) < F 1) (e : L' h = L h) : vh G L' k t b h = vh F L k t b h := by
  unfold vh
  rw [e, cel.cg a w hh]
theorem zlr.cg {F G : Nat → Int} {P Q : Nat → Bool} {l : Nat} (a : zAg F G) (w : zWF F) : ∀ n : Nat, (n : Int) ≤ F 1 → (∀ i, i < n → Q i = P i) → zlr G Q n l = zlr F P n l
  | 0, _, _ => rfl
  | n + 1, h, e => by
    have f1 := w.1
    show (zlr G Q n l || (Q n && decide (G (30 + 4 * n) = (l : Int)))) = (zlr F P n l || (P n && decide (F (30 + 4 * n) = (l : Int))))
    rw [zlr.cg a w n (by omega) (fun i hi => e i (by omega)), e n (by omega), a (30 + 4 * n) (by omega)]
theorem vot.ag {F G : Nat → Int} {L L' : Nat → Bool} {k t b : Int} (a : zAg F G) (w : zWF F) (e : ∀ h : Nat, (h : Int) < F 1 → L' h = L h) : vot G L' k t b = vot F L k t b := by
  have f1 := w.1
  show pct (zlr G (vh G L' k t b) (G 1).toNat) 8 = pct (zlr F (vh F L k t b) (F 1).toNat) 8
  rw [a 1 (by omega), show zlr G (vh G L' k t b) (F 1).toNat = zlr F (vh F L k t b) (F 1).toNat from funext fun l => zlr.cg a w _ (by omega) (fun i hi => vh.cg a w (by omega) (e i (by omega)))]
theorem zIr.cg {F G : Nat → Int} {k t : Int} (a : zAg F G) : zIr G k t = zIr F k t := by
  unfold zIr
  rw [a 5 (by omega), a 6 (by omega)]
theorem zBe.cg {F G : Nat → Int} {L L' : Nat → Bool} {c : zCl} {v : Int} (a : zAg F G) (w : zWF F) (e : ∀ h : Nat, (h : Int) < F 1 → L' h = L h) (x : zBe F L c v) : zBe G L' c v := by
  obtain ⟨h1, h2, h3, h4⟩ := x
  refine ⟨by rw [zIr.cg a]; exact h1, by rw [vot.ag a w e]; exact h2, h3, fun k t b q r => ?_⟩
  rw [zIr.cg a] at q
  rw [vot.ag a w e] at r ⊢
  exact h4 k t b q r
theorem zcd.cg {F G : Nat → Int} {L L' : Nat → Bool} {k t b : Int} {l h : Nat} (a : zAg F G) (w : zWF F) (hh : (h : Int) < F 1) (e : L' h = L h) : zcd G L' k t b l h = zcd F L k t b l h := by
  have f1 := w.1
  unfold zcd
  rw [vh.cg a w hh e, a (30 + 4 * h) (by omega)]
theorem aw.cg {F G : Nat → Int} {k t b : Int} {l h : Nat} (a : zAg F G) (w : zWF F) (hl : l < 8) (hh : (h : Int) < F 1) : aw G k t b l h = aw F k t b l h := by
  have f1 := w.1
  unfold aw
  rw [a (31 + 4 * h) (by omega), pLf.cg a hl, a 7 (by omega)]
theorem zNr.cg {F G : Nat → Int} {L L' : Nat → Bool} {c : zCl} {l : Nat} {x : Int} (a : zAg F G) (w : zWF F) (e : ∀ h : Nat, (h : Int) < F 1 → L' h = L h) (hl : l < 8) (y : zNr F L c l x) : zNr G L' c l x := by
  have e1 := a 1 (by omega)
  rcases y with ⟨h1, h2⟩ | ⟨h, h1, h2, h3, h4⟩
  · refine Or.inl ⟨h1, fun j hj => ?_⟩
    rw [e1] at hj
    rw [zcd.cg a w hj (e j hj)]
    exact h2 j hj
  · refine Or.inr ⟨h, by rw [e1]; exact h1, h2, by rw [zcd.cg a w h1 (e h h1)]; exact h3, fun j hj q => ?_⟩
    rw [e1] at hj
    rw [zcd.cg a w hj (e j hj)] at q
    rw [aw.cg a w hl h1, aw.cg a w hl hj]
    exact h4 j hj q
theorem zTq.cg {F G : Nat → Int} {L L' : Nat → Bool} {τ : zTkk} (a : zAg F G) (w : zWF F) (e : ∀ h : Nat, (h : Int) < F 1 → L' h = L h) (y : zTq F L τ) : zTq G L' τ :=
  ⟨zBe.cg a w e y.1, fun l => ⟨fun hl => zNr.cg a w e hl ((y.2 l).1 hl), (y.2 l).2⟩⟩
theorem zrmv.cg {F G : Nat → Int} {L L' : Nat → Bool} {hs : Nat → Int} {h : Nat} (a : zAg F G) (w : zWF F) (hh : (h : Int) < F 1) (e : L' h = L h) : zrmv G L' hs h = zrmv F L hs h := by
  have f1 := w.1
  unfold zrmv
  rw [e, a (30 + 4 * h) (by omega)]
def zLam (G : Nat → Int) (L : Nat → Bool) (τ : Nat → zTkk) : Nat → Nat → Bool
  | 0 => L
  | i + 1 => zrmv G (zLam G L τ i) (τ i).2.2
theorem zLam.ag {F G : Nat → Int} {L0 L' : Nat → Bool} {n : Nat} {τ : Nat → zTkk} {Λ : Nat → Nat → Bool} (a : zAg F G) (w : zWF F) (h : zSq F L0 n τ Λ) (e : ∀ h : Nat, (h : Int) < F 1 → L' h = L0 h) : ∀ i, i ≤ n → ∀ j : Nat, (j : Int) < F 1 → zLam G L' τ i j = Λ i j
  | 0, _, j, hj => by
    rw [h.1]
    exact e j hj
  | i + 1, hi, j, hj => by
    rw [(h.2 i (by omega)).2]
    exact zrmv.cg a w hj (zLam.ag a w h e i (by omega) j hj)
theorem zSq.cg {F G : Nat → Int} {L0 L' : Nat → Bool} {n : Nat} {τ : Nat → zTkk} {Λ : Nat → Nat → Bool} (a : zAg F G) (w : zWF F) (h : zSq F L0 n τ Λ) (e : ∀ h : Nat, (h : Int) < F 1 → L' h = L0 h) : zSq G L' n τ (zLam G L' τ) :=
  ⟨rfl, fun i hi => ⟨zTq.cg a w (zLam.ag a w h e i (by omega)) (h.2 i hi).1, rfl⟩⟩
theorem zEn.cg {F G : Nat → Int} {need : Int} {n : Nat} {Λ Λ' : Nat → Nat → Bool} (a : zAg F G) (w : zWF F) (e : ∀ h : Nat, (h : Int) < F 1 → Λ' n h = Λ n h) (x : zEn F need n Λ) : zEn G need n Λ' := by
  rcases x with q | q
  · exact Or.inl q
  · refine Or.inr fun k t b r => ?_
    rw [zIr.cg a] at r
    rw [vot.ag a w e]
    exact q k t b r
theorem zL0.cg {F G : Nat → Int} {b : Int} {h : Nat} (a : zAg F G) (w : zWF F) (hh : (h : Int) < F 1) : zL0 G b h = zL0 F b h := by
  have f1 := w.1
  unfold zL0
  rw [zctb.cg a w hh, a (30 + 4 * h) (by omega)]
theorem zPicA.cg {M : zM} {F G : Nat → Int} (a : zAg F G) (w : zWF F) (x : zPicA M F) : zPicA M G := by
  obtain ⟨n, mm, τ, Λ, h1, h2, h3, h4, h5, ⟨h6, h7, h8⟩, h9, h10⟩ := x
  have e : ∀ h : Nat, (h : Int) < F 1 → zL0 G (-1) h = zL0 F (-1) h := fun h hh => zL0.cg a w hh
  refine ⟨n, mm, τ, zLam G (zL0 G (-1)) τ, h1, zSq.cg a w h2 e, h3, zEn.cg a w (zLam.ag a w h2 e n (Nat.le_refl _)) h4, h5, ⟨h6.trans (a 8 (by omega)).symm, h7, h8.trans (a 2 (by omega)).symm⟩, fun i hi => ?_, fun i q1 q2 => ?_⟩
  · rw [a 8 (by omega)]
    exact h9 i hi
  · rw [a 8 (by omega)]
    exact h10 i q1 q2
theorem zoH.ag {F G : Nat → Int} {τ : Nat → zTkk} {h : Nat} (e : G (30 + 4 * h) = F (30 + 4 * h)) : ∀ n : Nat, zoH G τ n h = zoH F τ n h
  | 0 => rfl
  | n + 1 => by
    show (if (τ n).2.2 (G (30 + 4 * h)).toNat = (h : Int) then (n : Int) else zoH G τ n h) = (if (τ n).2.2 (F (30 + 4 * h)).toNat = (h : Int) then (n : Int) else zoH F τ n h)
    rw [e, zoH.ag e n]
theorem zTms.cg {M : zM} {F G : Nat → Int} {n : Nat} {τ : Nat → zTkk} (a : zAg F G) (w : zWF F) (x : zTms M F n τ) : zTms M G n τ := by
  have f1 := w.1
  refine ⟨fun i hi => ?_, fun h hh => ?_⟩
  · obtain ⟨q1, q2, q3, q4, q5⟩ := x.1 i hi
    exact ⟨q1, q2, q3, q4, fun l hl => q5 l (by rw [a 0 (by omega)] at hl; exact hl)⟩
  · rw [a 1 (by omega)] at hh
    rw [zoH.ag (a (30 + 4 * h) (by omega)) n]
    exact x.2 h hh
theorem zPicB.cg {M : zM} {F G : Nat → Int} (a : zAg F G) (w : zWF F) (x : zPicB M F) : zPicB M G := by
  obtain ⟨n, τ, Λ, h1, h2, h3, h4, h5⟩ := x
  have e : ∀ h : Nat, (h : Int) < F 1 → zL0 G (-1) h = zL0 F (-1) h := fun h hh => zL0.cg a w hh
  refine ⟨n, τ, zLam G (zL0 G (-1)) τ, h1, zSq.cg a w h2 e, fun i hi => ?_, ?_, zTms.cg a w h5⟩
  · rw [a 8 (by omega)]
    exact h3 i hi
  · rw [a 8 (by omega)]
    exact zEn.cg a w (zLam.ag a w h2 e n (Nat.le_refl _)) h4
/-- acts that have done nothing leave the row -/
theorem dSt.nil {A : Nat → aT} {k : Nat} : ∀ (m : Nat) {i : Nat} {F : Nat → Int} {H : Nat → Nat → Int} {n v e : Int} {F2 : Nat → Int} {H2 : Nat → Nat → Int} {n2 : Int}, gRun (dSt A k) m (i, F, H, n) = some (v, e, F2, H2, n2) → (i : Int) ≤ v ∧ (v ≤ (i : Int) → F2 = F)
  | 0, i, F, H, n, v, e, F2, H2, n2, h => by cases h
  | m + 1, i, F, H, n, v, e, F2, H2, n2, h => by
    unfold gRun at h
    by_cases w : i = k
    · rw [dSt.end w] at h
      have h : some (((k : Int), (-1 : Int), F, H, n) : Int × Int × (Nat → Int) × (Nat → Nat → Int) × Int) = some (v, e, F2, H2, n2) := h
      cases h
      exact ⟨by omega, fun _ => rfl⟩
    · cases ha : aDo (A i) F with
      | none =>
        rw [dSt.no w ha] at h
        have h : some (((i : Int), (i : Int), F, H, n) : Int × Int × (Nat → Int) × (Nat → Nat → Int) × Int) = some (v, e, F2, H2, n2) := h
        cases h
        exact ⟨Int.le_refl _, fun _ => rfl⟩
      | some G =>
        rw [dSt.go w ha] at h
        have z1 := (dSt.nil m h).1
        exact ⟨by omega, fun q => absurd q (by omega)⟩
