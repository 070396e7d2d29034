section ZMEM2
variable {X : zX} {l : Launch} {d kc ks y pc : Nat} {ls : List (Nat × Value)} {st : List Value} {M : zM} {Q : Option Value → zM → Prop}
theorem zWf_sI {k j : Nat} {v : Int32} (hk : (zK M k).1 ≠ 21 ∧ (zK M k).1 ≠ 22) (h : zWf M) : zWf (zsI M k j v) := by
  intro k' j'
  by_cases e : k' = k
  · subst e
    exact ⟨fun q => absurd q hk.1, fun q => absurd q hk.2⟩
  · rw [show zI (zsI M k j v) k' = zI M k' from zr_ne e]
    exact h k' j'
/-- a field of int, byte, boolean: what it is put to fits it -/
theorem zg_putI (hW : ∀ c, c < 13 → ∀ w ∈ u_ws (cR c) (cT c) (cN c), w ∈ lw_tbl) {c j k i : Nat} {v : Int32} (h : zdc y pc (.putfield i) 3) (hl : Cond.fieldLink (mt y).1.cls i (cR c) (cT c j).2.1 (cT c j).2.2.1 ∈ lw_tbl) (hc : c < 13) (hj : j < cN c) (hdl : (cT c j).1 = cR c) (hfin : (cT c j).2.2.2 = false ∨ ((mt y).1.name = "<init>" ∧ (mt y).1.cls = cR c)) (hk : (zK M k).1 = c)
    (ht : zft (cY c j) = 0) (hnr : narrow (cY c j) (.int v) = .int v) (hft : fits (cY c j) (.int v) = true) (kk : zGo X l d kc ks y (pc + 3) ls st (zsI M k j v) Q) : zGo X l d kc ks y pc ls (.int v :: .ref k :: st) M Q := by
  refine zput0 (M' := zsI M k j v) hW h hl hc hj hdl hfin hk hnr hft rfl rfl (fun k' e => zr_ne e) (fun _ _ => rfl) (fun _ _ => rfl) (zWf_sI ⟨by omega, by omega⟩) (fun a ha => ?_) kk
  unfold zfv
  rw [show zI (zsI M k j v) k = upd (zI M k) j v from zr_eq]
  by_cases e : a = j
  · subst e
    rw [if_pos ht, if_pos rfl]
    show Value.int (upd _ a v a) = _
    unfold upd
    rw [if_pos rfl]
  · rw [if_neg e]
    unfold upd
    rw [if_neg e]
    rfl
theorem zg_putJ (hW : ∀ c, c < 13 → ∀ w ∈ u_ws (cR c) (cT c) (cN c), w ∈ lw_tbl) {c j k i : Nat} {v : Int64} (h : zdc y pc (.putfield i) 3) (hl : Cond.fieldLink (mt y).1.cls i (cR c) (cT c j).2.1 (cT c j).2.2.1 ∈ lw_tbl) (hc : c < 13) (hj : j < cN c) (hdl : (cT c j).1 = cR c) (hfin : (cT c j).2.2.2 = false ∨ ((mt y).1.name = "<init>" ∧ (mt y).1.cls = cR c)) (hk : (zK M k).1 = c)
    (ht : cY c j = .long) (kk : zGo X l d kc ks y (pc + 3) ls st (zsJ M k j v) Q) : zGo X l d kc ks y pc ls (.long v :: .ref k :: st) M Q := by
  refine zput0 (M' := zsJ M k j v) hW h hl hc hj hdl hfin hk (by rw [ht]; rfl) (by rw [ht]; rfl) rfl rfl (fun _ _ => rfl) (fun k' e => zr_ne e) (fun _ _ => rfl) id (fun a ha => ?_) kk
  unfold zfv
  rw [show zJ (zsJ M k j v) k = vp_updL (zJ M k) j v from zr_eq]
  by_cases e : a = j
  · subst e
    rw [ht, if_neg (by decide), if_pos (show zft FieldType.long = 1 from rfl), if_pos rfl]
    show Value.long (vp_updL _ a v a) = _
    unfold vp_updL
    rw [if_pos rfl]
  · rw [if_neg e]
    unfold vp_updL
    rw [if_neg e]
    rfl
theorem zg_putP (hW : ∀ c, c < 13 → ∀ w ∈ u_ws (cR c) (cT c) (cN c), w ∈ lw_tbl) {c j k i v : Nat} (h : zdc y pc (.putfield i) 3) (hl : Cond.fieldLink (mt y).1.cls i (cR c) (cT c j).2.1 (cT c j).2.2.1 ∈ lw_tbl) (hc : c < 13) (hj : j < cN c) (hdl : (cT c j).1 = cR c) (hfin : (cT c j).2.2.2 = false ∨ ((mt y).1.name = "<init>" ∧ (mt y).1.cls = cR c)) (hk : (zK M k).1 = c)
    (ht : zft (cY c j) = 2) (kk : zGo X l d kc ks y (pc + 3) ls st (zsP M k j (some v)) Q) : zGo X l d kc ks y pc ls (.ref v :: .ref k :: st) M Q := by
  refine zput0 (M' := zsP M k j (some v)) hW h hl hc hj hdl hfin hk ?_ ?_ rfl rfl (fun _ _ => rfl) (fun _ _ => rfl) (fun k' e => zr_ne e) id (fun a ha => ?_) kk
  · cases hty : cY c j <;> first | rfl | (rw [hty] at ht; cases ht)
  · cases hty : cY c j <;> first | rfl | (rw [hty] at ht; cases ht)
  unfold zfv
  rw [show zP (zsP M k j (some v)) k = va_up (zP M k) j (some v) from zr_eq]
  by_cases e : a = j
  · subst e
    rw [if_neg (by rw [ht]; decide), if_neg (by rw [ht]; decide), if_pos rfl]
    unfold va_up
    rw [if_pos rfl]
    rfl
  · rw [if_neg e]
    unfold va_up
    rw [if_neg e]
    rfl
/-! arrays -/
/-- an array of the first six, as it stands in any later heap -/
theorem zext {s : State} {H : Heap} {ty : FieldType} {t n : Nat} {f : Nat → Value} (h : zRel X M H) (hT : va_T ty t n f (zA X) s X.2.1) : ∃ cell : Cell, H[t]? = some cell ∧ s.isArrayOf cell ty ∧ cell.vm ≠ .unknown ∧ n ≤ cell.slots.size ∧ cell.slots.size.toInt32 = Int32.ofNat n ∧ ∀ j : Nat, j < n → cell.slots[j]? = some (f j) := by
  obtain ⟨cell, h1, h2, h3, h4, h5, h6, h7⟩ := hT
  refine ⟨cell, ?_, h2, h3, h4, h5, h6⟩
  rw [h.2.2.2.2.1 t (Array.getElem?_eq_some_iff.mp h1).1]
  exact h1
theorem zg_iaload {k : Nat} {i : Int32} (h : zdc y pc .iaload 1) (hk : (zK M k).1 = 20) (hi : vp_in i (zK M k).2) (kk : zGo X l d kc ks y (pc + 1) ls (.int (zI M k i.toNatClampNeg) :: st) M Q) : zGo X l d kc ks y pc ls (.int i :: .ref k :: st) M Q := by
  intro p e R s m args below meth cd H locs cells slots Qw lsA C
  obtain ⟨hx, hb, hml, hown, hts, hKn, -⟩ := id C.1
  have hR := C.2.2.2.1
  have hW := kk p e R s m args below meth cd H locs cells slots Qw lsA C
  by_cases h6 : k < 6
  · have hk4 : 1 ≤ k ∧ k < 4 := by
      obtain ⟨e1, e2, e3, e4⟩ := hKn.2.2.2.2.2.2.2.2.2.2.2.1
      rw [(hR.2.2.2.2.2.1 k h6).1] at hk
      rcases (show k = 0 ∨ (1 ≤ k ∧ k < 4) ∨ k = 4 ∨ k = 5 by omega) with rfl | q | rfl | rfl
      · rw [e4.2] at hk; cases hk
      · exact q
      · rw [e2] at hk; cases hk
      · rw [e3] at hk; cases hk
    obtain ⟨eK, eI⟩ := hR.2.2.2.2.2.1 k h6
    obtain ⟨cell, g1, g2, g3, g4, g5, g6⟩ := zext hR (hKn.2.1 k hk4.1 hk4.2)
    rw [← eK, ← eI] at *
    have hlt : i.toNatClampNeg < (zK M k).2 := Nat.not_le.mp fun q => hi (Or.inr q)
    have ha : zad X k = X.2.2.2.1 k := if_pos h6
    rw [← ha] at g1
    exact W.iald (v := .int (zI M k i.toNatClampNeg)) hx hb g1 g2 g3 (fun q => by rcases q with q | q; exact hi (Or.inl q); omega) (g6 _ hlt) rfl rfl h hW
  · have hat := hR.2.2.1 k (by omega) (show (zK M k).1 < 30 by omega)
    rw [zE_int hk (by omega) (by omega)] at hat
    exact va_iald hx hb hKn.1 (zP1 hat) 0 0 rfl rfl hi h hW
theorem zg_scload {i : Int32} (h : zdc y pc .iaload 1) (hi : vp_in i X.2.2.2.2.2.1) (kk : zGo X l d kc ks y (pc + 1) ls (.int (X.2.2.2.2.2.2 i.toNatClampNeg) :: st) M Q) : zGo X l d kc ks y pc ls (.int i :: .ref 0 :: st) M Q := by
  intro p e R s m args below meth cd H locs cells slots Qw lsA C
  obtain ⟨hx, hb, hml, hown, hts, hKn, -⟩ := id C.1
  have hR := C.2.2.2.1
  obtain ⟨cell, g1, g2, g3, g4, g5, g6⟩ := zext hR hKn.2.2.2.2.2.2.2.2.2.2.2.2.2
  have hlt : i.toNatClampNeg < X.2.2.2.2.2.1 := Nat.not_le.mp fun q => hi (Or.inr q)
  have ha : zad X 0 = X.2.2.2.1 0 := if_pos (by omega)
  rw [← ha] at g1
  exact W.iald (v := .int (X.2.2.2.2.2.2 i.toNatClampNeg)) hx hb g1 g2 g3 (fun q => by rcases q with q | q; exact hi (Or.inl q); omega) (g6 _ hlt) rfl rfl h (kk p e R s m args below meth cd H locs cells slots Qw lsA C)
theorem zg_sclen (h : zdc y pc .arraylength 1) (kk : zGo X l d kc ks y (pc + 1) ls (.int (Int32.ofNat X.2.2.2.2.2.1) :: st) M Q) : zGo X l d kc ks y pc ls (.ref 0 :: st) M Q := by
  intro p e R s m args below meth cd H locs cells slots Qw lsA C
  obtain ⟨hx, hb, hml, hown, hts, hKn, -⟩ := id C.1
  have hR := C.2.2.2.1
  obtain ⟨cell, g1, g2, g3, g4, g5, g6⟩ := zext hR hKn.2.2.2.2.2.2.2.2.2.2.2.2.2
  have ha : zad X 0 = X.2.2.2.1 0 := if_pos (by omega)
  rw [← ha] at g1
  exact W.alen (n := Int32.ofNat X.2.2.2.2.2.1) hx hb g1 g2 g5 rfl rfl h (kk p e R s m args below meth cd H locs cells slots Qw lsA C)
theorem zg_baload {k : Nat} {i : Int32} (h : zdc y pc .baload 1) (hk : (zK M k).1 = 21 ∨ (zK M k).1 = 22) (hi : vp_in i (zK M k).2) (kk : zGo X l d kc ks y (pc + 1) ls (.int (zI M k i.toNatClampNeg) :: st) M Q) : zGo X l d kc ks y pc ls (.int i :: .ref k :: st) M Q := by
  intro p e R s m args below meth cd H locs cells slots Qw lsA C
  obtain ⟨hx, hb, hml, hown, hts, hKn, -⟩ := id C.1
  have hR := C.2.2.2.1
  have hW := kk p e R s m args below meth cd H locs cells slots Qw lsA C
  by_cases h6 : k < 6
  · obtain ⟨eK, eI⟩ := hR.2.2.2.2.2.1 k h6
    have hk5 : k = 5 := by
      obtain ⟨e1, e2, e3, e4⟩ := hKn.2.2.2.2.2.2.2.2.2.2.2.1
      rw [eK] at hk
      rcases Nat.lt_or_ge k 4 with q | q
      · by_cases h0 : k = 0
        · subst h0; rw [e4.2] at hk; rcases hk with q | q <;> cases q
        · rw [e1 k (by omega) q] at hk; rcases hk with q | q <;> cases q
      · rcases (show k = 4 ∨ k = 5 by omega) with rfl | rfl
        · rw [e2] at hk; rcases hk with q | q <;> cases q
        · rfl
    subst hk5
    obtain ⟨cell, g1, g2, g3, g4, g5, g6⟩ := zext hR hKn.2.2.1
    have e3 := hKn.2.2.2.2.2.2.2.2.2.2.2.1.2.2.1
    rw [eK, e3] at hi
    rw [← eI] at g6
    have hlt : i.toNatClampNeg < 8 := Nat.not_le.mp fun q => hi (Or.inr q)
    have ha : zad X 5 = X.2.2.2.1 5 := if_pos h6
    rw [← ha] at g1
    exact W.bald (v := .int (zI M 5 i.toNatClampNeg)) hx hb g1 g2 g3 (fun q => by rcases q with q | q; exact hi (Or.inl q); omega) (g6 _ hlt) rfl rfl h hW
  · have hat := hR.2.2.1 k (by omega) (show (zK M k).1 < 30 by omega)
    rcases hk with hk | hk
    · rw [zE_int hk (by omega) (by omega)] at hat
      exact va_bald hx hb hKn.1 (zP1 hat) 0 1 rfl rfl hi h hW
    · rw [zE_int hk (by omega) (by omega)] at hat
      exact va_zald hx hb hKn.1 (zP1 hat) 0 2 rfl rfl hi h hW
theorem z6 {s : State} {H : Heap} {k : Nat} (hK : zKn X s) (h : zRel X M H) (hk : 22 ≤ (zK M k).1) (hk2 : (zK M k).1 < 30) : 6 ≤ k := by
  obtain ⟨e1, e2, e3, e4⟩ := hK.2.2.2.2.2.2.2.2.2.2.2.1
  rcases Nat.lt_or_ge k 6 with q | q
  · exfalso
    rw [(h.2.2.2.2.2.1 k q).1] at hk hk2
    rcases Nat.lt_or_ge k 4 with q | q
    · by_cases h0 : k = 0
      · subst h0; rw [e4.2] at hk2; omega
      · rw [e1 k (by omega) q] at hk; omega
    · rcases (show k = 4 ∨ k = 5 by omega) with rfl | rfl
      · rw [e2] at hk2; omega
      · rw [e3] at hk; exact absurd hk (by decide)
  · exact q
theorem zg_laload {k : Nat} {i : Int32} (h : zdc y pc .laload 1) (hk : (zK M k).1 = 23) (hi : vp_in i (zK M k).2) (kk : zGo X l d kc ks y (pc + 1) ls (.long (zJ M k i.toNatClampNeg) :: st) M Q) : zGo X l d kc ks y pc ls (.int i :: .ref k :: st) M Q := by
  intro p e R s m args below meth cd H locs cells slots Qw lsA C
  obtain ⟨hx, hb, hml, hown, hts, hKn, -⟩ := id C.1
  have hR := C.2.2.2.1
  have hat := hR.2.2.1 k (z6 hKn hR (show 22 ≤ (zK M k).1 by omega) (by omega)) (show (zK M k).1 < 30 by omega)
  rw [zE_long hk] at hat
  exact va_lald hx hb hKn.1 (zP1 hat) 0 3 rfl rfl hi h (kk p e R s m args below meth cd H locs cells slots Qw lsA C)
theorem zg_aaload {k : Nat} {i : Int32} (h : zdc y pc .aaload 1) (hk : (zK M k).1 = 24 ∨ (zK M k).1 = 25) (hi : vp_in i (zK M k).2) (kk : zGo X l d kc ks y (pc + 1) ls (va_rf (zP M k i.toNatClampNeg) :: st) M Q) : zGo X l d kc ks y pc ls (.int i :: .ref k :: st) M Q := by
  intro p e R s m args below meth cd H locs cells slots Qw lsA C
  obtain ⟨hx, hb, hml, hown, hts, hKn, -⟩ := id C.1
  have hR := C.2.2.2.1
  have hW := kk p e R s m args below meth cd H locs cells slots Qw lsA C
  rw [List.map_cons, zcv_rf] at hW
  have hat := hR.2.2.1 k (z6 hKn hR (show 22 ≤ (zK M k).1 by omega) (by omega)) (show (zK M k).1 < 30 by omega)
  rcases hk with hk | hk
  · rw [zE_ref hk (by omega)] at hat
    exact va_aldq hx hb hKn.1 (zP1 hat) 0 4 rfl rfl hi h hW
  · rw [zE_ref hk (by omega)] at hat
    exact va_aldq hx hb hKn.1 (zP1 hat) 0 5 rfl rfl hi h hW
end ZMEM2
