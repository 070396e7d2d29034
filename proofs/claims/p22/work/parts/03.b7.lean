section ZMEM3
variable {X : zX} {l : Launch} {d kc ks y pc : Nat} {ls : List (Nat × Value)} {st : List Value} {M : zM} {Q : Option Value → zM → Prop}
theorem zvlt {i : Int32} {n : Nat} (h : vp_in i n) : i.toNatClampNeg < n := Nat.not_le.mp fun q => h (Or.inr q)
theorem zarr {H : Heap} {k c n : Nat} {x : vp_A} (hat : va_at X.1 cls (zad X k, .inl (c, x)) H) (hR : zRel X M H) : H[zad X k]? = some (vp_cell c x) := hat
theorem zstI {cA n j : Nat} {f : Nat → Int32} {v : Int32} : (vp_cell cA (n, .inl f)).setSlot j (.int v) = vp_cell cA (n, .inl (upd f j v)) := by
  rw [vp_cell_i, vp_cell_i, arrV_store]
  congr 2
  funext q
  by_cases hq : q = j
  · subst hq
    simp [updV, upd]
  · simp [updV, upd, hq]
theorem zstJ {cA n j : Nat} {f : Nat → Int64} {v : Int64} : (vp_cell cA (n, .inr (.inl f))).setSlot j (.long v) = vp_cell cA (n, .inr (.inl (vp_updL f j v))) := by
  rw [vp_cell_l, vp_cell_l, arrV_store]
  congr 2
  funext q
  by_cases hq : q = j
  · subst hq
    simp [updV, vp_updL]
  · simp [updV, vp_updL, hq]
theorem zstP {cA n j : Nat} {f : Nat → Option Nat} {v : Nat} : (vp_cell cA (n, .inr (.inr (.inr (.inr f))))).setSlot j (.ref v) = vp_cell cA (n, .inr (.inr (.inr (.inr (va_up f j (some v)))))) := by
  rw [vp_cell_q, vp_cell_q, arrV_store]
  congr 2
  funext q
  by_cases hq : q = j
  · subst hq
    simp [updV, va_up, va_rf]
  · simp [updV, va_up, hq]
theorem zg_iastore {k : Nat} {i v : Int32} (h : zdc y pc .iastore 1) (h6 : 6 ≤ k) (hk : (zK M k).1 = 20) (hi : vp_in i (zK M k).2) (kk : zGo X l d kc ks y (pc + 1) ls st (zsI M k i.toNatClampNeg v) Q) : zGo X l d kc ks y pc ls (.int v :: .int i :: .ref k :: st) M Q := by
  intro p e R s m args below meth cd H locs cells slots Qw lsA C
  obtain ⟨hx, hb, hml, hown, hts, hKn, -⟩ := id C.1
  have hR := C.2.2.2.1
  have hat := hR.2.2.1 k h6 (show (zK M k).1 < 30 by omega)
  rw [zE_int hk (by omega) (by omega)] at hat
  refine W.iast hx hb (zarr (n := 0) hat hR) ((hKn.1.2 0 _ rfl).1 _ (fun j => .int (zI M k j))) (fun q => by cases q) (by show ¬ (i < 0 ∨ (arrV _ _ _).slots.size ≤ _); rw [arrV_size]; exact hi) rfl rfl h fun H1 e1 e2 e3 => ?_
  refine kk p e R s m args below meth cd H1 _ cells slots Qw lsA ⟨C.1, C.2.1, C.2.2.1, ?_, zlocs C.2.2.2.2.1 h6, C.2.2.2.2.2.put rfl rfl h6 (show (zK M k).1 < 30 by omega) e3⟩
  refine hR.upd h6 rfl rfl (fun k' e => zr_ne e) (fun _ _ => rfl) (fun _ _ => rfl) (zWf_sI ⟨by omega, by omega⟩ hR.2.2.2.1) e2 e3 ?_
  rw [zE_int (c := 20) (show (zK (zsI M k i.toNatClampNeg v) k).1 = 20 from hk) (by omega) (by omega), show zI (zsI M k i.toNatClampNeg v) k = upd (zI M k) i.toNatClampNeg v from zr_eq]
  show H1[zad X k]? = some (vp_cell _ _)
  rw [e1, zstI]
  rfl
theorem zfit_b (x : Int32) : fits .byte (.int (vp_nar .byte x)) = true := by rw [vp_nar_byte]; exact pk_fb x
theorem znar_z (x : Int32) : vp_nar .boolean x = x &&& 1 := by
  unfold vp_nar
  simp [narrow]
theorem zfit_z (x : Int32) : fits .boolean (.int (vp_nar .boolean x)) = true := by
  rw [znar_z]
  have h : x &&& 1 = 0 ∨ x &&& 1 = 1 := by
    obtain ⟨j, hj, e⟩ := pk_andE x (m := 1) 1 (by decide)
    rcases (show j = 0 ∨ j = 1 by omega) with rfl | rfl
    · left; rw [e]; rfl
    · right; rw [e]; rfl
  rcases h with h | h <;> rw [h] <;> rfl
theorem zWf_sB {k j : Nat} {v : Int32} {ty : FieldType} (hk : ((zK M k).1 = 21 ∧ ty = .byte) ∨ ((zK M k).1 = 22 ∧ ty = .boolean)) (h : zWf M) : zWf (zsI M k j (vp_nar ty v)) := by
  intro k' j'
  by_cases e : k' = k
  · subst e
    rw [show zI (zsI M k' j (vp_nar ty v)) k' = upd (zI M k') j (vp_nar ty v) from zr_eq]
    show ((zK M k').1 = 21 → _) ∧ ((zK M k').1 = 22 → _)
    unfold upd
    by_cases ej : j' = j
    · rw [if_pos ej]
      rcases hk with ⟨hk, rfl⟩ | ⟨hk, rfl⟩
      · exact ⟨fun _ => zfit_b v, fun q => by omega⟩
      · exact ⟨fun q => by omega, fun _ => zfit_z v⟩
    · rw [if_neg ej]
      exact h k' j'
  · rw [show zI (zsI M k j (vp_nar ty v)) k' = zI M k' from zr_ne e]
    exact h k' j'
theorem znar_int (ty : FieldType) (hty : ty = .byte ∨ ty = .boolean) (x : Int32) : narrow ty (.int x) = .int (vp_nar ty x) := by rcases hty with rfl | rfl <;> rfl
theorem zg_bastore {k : Nat} {i v : Int32} (h : zdc y pc .bastore 1) (h6 : 6 ≤ k) (hk : (zK M k).1 = 21) (hi : vp_in i (zK M k).2) (kk : zGo X l d kc ks y (pc + 1) ls st (zsI M k i.toNatClampNeg (vp_nar .byte v)) Q) : zGo X l d kc ks y pc ls (.int v :: .int i :: .ref k :: st) M Q := by
  intro p e R s m args below meth cd H locs cells slots Qw lsA C
  obtain ⟨hx, hb, hml, hown, hts, hKn, -⟩ := id C.1
  have hR := C.2.2.2.1
  have hat := hR.2.2.1 k h6 (show (zK M k).1 < 30 by omega)
  rw [zE_int hk (by omega) (by omega)] at hat
  refine W.bast hx hb (zarr (n := 0) hat hR) ((hKn.1.2 1 _ rfl).1 _ (fun j => .int (zI M k j))) (fun q => by cases q) (by show ¬ (i < 0 ∨ (arrV _ _ _).slots.size ≤ _); rw [arrV_size]; exact hi) rfl rfl h fun H1 e1 e2 e3 => ?_
  refine kk p e R s m args below meth cd H1 _ cells slots Qw lsA ⟨C.1, C.2.1, C.2.2.1, ?_, zlocs C.2.2.2.2.1 h6, C.2.2.2.2.2.put rfl rfl h6 (show (zK M k).1 < 30 by omega) e3⟩
  refine hR.upd h6 rfl rfl (fun k' e => zr_ne e) (fun _ _ => rfl) (fun _ _ => rfl) (zWf_sB (Or.inl ⟨hk, rfl⟩) hR.2.2.2.1) e2 e3 ?_
  rw [zE_int (c := 21) (show (zK (zsI M k i.toNatClampNeg (vp_nar .byte v)) k).1 = 21 from hk) (by omega) (by omega), show zI (zsI M k i.toNatClampNeg (vp_nar .byte v)) k = upd (zI M k) i.toNatClampNeg (vp_nar .byte v) from zr_eq]
  show H1[zad X k]? = some (vp_cell _ _)
  rw [e1, znar_int _ (Or.inl rfl), zstI]
  rfl
theorem zg_zastore {k : Nat} {i v : Int32} (h : zdc y pc .bastore 1) (h6 : 6 ≤ k) (hk : (zK M k).1 = 22) (hi : vp_in i (zK M k).2) (kk : zGo X l d kc ks y (pc + 1) ls st (zsI M k i.toNatClampNeg (vp_nar .boolean v)) Q) : zGo X l d kc ks y pc ls (.int v :: .int i :: .ref k :: st) M Q := by
  intro p e R s m args below meth cd H locs cells slots Qw lsA C
  obtain ⟨hx, hb, hml, hown, hts, hKn, -⟩ := id C.1
  have hR := C.2.2.2.1
  have hat := hR.2.2.1 k h6 (show (zK M k).1 < 30 by omega)
  rw [zE_int hk (by omega) (by omega)] at hat
  refine W.zast hx hb (zarr (n := 0) hat hR) ((hKn.1.2 2 _ rfl).1 _ (fun j => .int (zI M k j))) (fun q => by cases q) (by show ¬ (i < 0 ∨ (arrV _ _ _).slots.size ≤ _); rw [arrV_size]; exact hi) rfl rfl h fun H1 e1 e2 e3 => ?_
  refine kk p e R s m args below meth cd H1 _ cells slots Qw lsA ⟨C.1, C.2.1, C.2.2.1, ?_, zlocs C.2.2.2.2.1 h6, C.2.2.2.2.2.put rfl rfl h6 (show (zK M k).1 < 30 by omega) e3⟩
  refine hR.upd h6 rfl rfl (fun k' e => zr_ne e) (fun _ _ => rfl) (fun _ _ => rfl) (zWf_sB (Or.inr ⟨hk, rfl⟩) hR.2.2.2.1) e2 e3 ?_
  rw [zE_int (c := 22) (show (zK (zsI M k i.toNatClampNeg (vp_nar .boolean v)) k).1 = 22 from hk) (by omega) (by omega), show zI (zsI M k i.toNatClampNeg (vp_nar .boolean v)) k = upd (zI M k) i.toNatClampNeg (vp_nar .boolean v) from zr_eq]
  show H1[zad X k]? = some (vp_cell _ _)
  rw [e1, znar_int _ (Or.inr rfl), zstI]
  rfl
theorem zg_lastore {k : Nat} {i : Int32} {v : Int64} (h : zdc y pc .lastore 1) (hk : (zK M k).1 = 23) (hi : vp_in i (zK M k).2) (kk : zGo X l d kc ks y (pc + 1) ls st (zsJ M k i.toNatClampNeg v) Q) : zGo X l d kc ks y pc ls (.long v :: .int i :: .ref k :: st) M Q := by
  intro p e R s m args below meth cd H locs cells slots Qw lsA C
  obtain ⟨hx, hb, hml, hown, hts, hKn, -⟩ := id C.1
  have hR := C.2.2.2.1
  have h6 := z6 hKn hR (show 22 ≤ (zK M k).1 by omega) (by omega)
  have hat := hR.2.2.1 k h6 (show (zK M k).1 < 30 by omega)
  rw [zE_long hk] at hat
  refine W.last hx hb (zarr (n := 0) hat hR) ((hKn.1.2 3 _ rfl).1 _ (fun j => .long (zJ M k j))) (fun q => by cases q) (by show ¬ (i < 0 ∨ (arrV _ _ _).slots.size ≤ _); rw [arrV_size]; exact hi) rfl rfl h fun H1 e1 e2 e3 => ?_
  refine kk p e R s m args below meth cd H1 _ cells slots Qw lsA ⟨C.1, C.2.1, C.2.2.1, ?_, zlocs C.2.2.2.2.1 h6, C.2.2.2.2.2.put rfl rfl h6 (show (zK M k).1 < 30 by omega) e3⟩
  refine hR.upd h6 rfl rfl (fun _ _ => rfl) (fun k' e => zr_ne e) (fun _ _ => rfl) hR.2.2.2.1 e2 e3 ?_
  rw [zE_long (show (zK (zsJ M k i.toNatClampNeg v) k).1 = 23 from hk), show zJ (zsJ M k i.toNatClampNeg v) k = vp_updL (zJ M k) i.toNatClampNeg v from zr_eq]
  show H1[zad X k]? = some (vp_cell _ _)
  rw [e1, zstJ]
  rfl
/-- an object into an array of its class -/
theorem zg_aastore {k v c : Nat} {i : Int32} (h : zdc y pc .aastore 1) (hk : ((zK M k).1 = 24 ∧ c = 6) ∨ ((zK M k).1 = 25 ∧ c = 8)) (hv : (zK M v).1 = c) (hi : vp_in i (zK M k).2) (kk : zGo X l d kc ks y (pc + 1) ls st (zsP M k i.toNatClampNeg (some v)) Q) : zGo X l d kc ks y pc ls (.ref v :: .int i :: .ref k :: st) M Q := by
  intro p e R s m args below meth cd H locs cells slots Qw lsA C
  obtain ⟨hx, hb, hml, hown, hts, hKn, -⟩ := id C.1
  have hR := C.2.2.2.1
  have hkr : 23 < (zK M k).1 ∧ (zK M k).1 < 30 := by omega
  have hc : c < 13 := by omega
  have h6 := z6 hKn hR (show 22 ≤ (zK M k).1 by omega) (by omega)
  have hat := hR.2.2.1 k h6 hkr.2
  rw [zE_ref rfl hkr.1] at hat
  obtain ⟨v6, vN⟩ := zlt20 hKn hR (k := v) (by omega)
  have hvt := hR.2.2.1 v v6 (by omega)
  rw [zE_obj hv (by omega)] at hvt
  obtain ⟨r', hr', cellV, g1, g2, g3, -⟩ := hvt
  have hcl := (hKn.1.1 c _ (cls_at c hc)).2
  have hT : ∃ (kA : Class) (comp : ClassId), s.vm.classes[X.2.2.1 (zK M k).1]? = some kA ∧ kA.kind = .array comp (.object (cR c)) ∧ s.vm.findClass (cR c) = some comp := by
    rcases hk with ⟨e1, e2⟩ | ⟨e1, e2⟩
    · obtain ⟨kA, comp, k1, k2, k3, -⟩ := (hKn.1.2 4 _ rfl).2
      exact ⟨kA, comp, by rw [e1]; exact k1, by rw [e2]; exact k2, by rw [e2]; exact k3⟩
    · obtain ⟨kA, comp, k1, k2, k3, -⟩ := (hKn.1.2 5 _ rfl).2
      exact ⟨kA, comp, by rw [e1]; exact k1, by rw [e2]; exact k2, by rw [e2]; exact k3⟩
  obtain ⟨kA, comp, k1, k2, k3⟩ := hT
  have hcomp : comp = X.1.1 c := Option.some.inj (k3.symm.trans hcl.1)
  subst hcomp
  obtain ⟨kC, hkC, -⟩ := hcl.2
  refine W.aast hx hb (zarr (n := 0) hat hR) (fun q h => by cases h) (fun h => by cases h) k1 k2 rfl hkC ⟨fun q => hi (Or.inl q), by show _ < (arrV _ _ _).slots.size; rw [arrV_size]; exact zvlt hi⟩ g1 (fun q h => by rw [g3] at h; cases h) (by rw [g2]; exact hkC) (by rw [g2]; exact va_assign hcl) rfl rfl h fun H1 e1 e2 e3 => ?_
  refine kk p e R s m args below meth cd H1 _ cells slots Qw lsA ⟨C.1, C.2.1, C.2.2.1, ?_, zlocs C.2.2.2.2.1 h6, C.2.2.2.2.2.put rfl rfl h6 (show (zK M k).1 < 30 by omega) e3⟩
  refine hR.upd h6 rfl rfl (fun _ _ => rfl) (fun _ _ => rfl) (fun k' e => zr_ne e) hR.2.2.2.1 e2 e3 ?_
  rw [zE_ref (M := zsP M k i.toNatClampNeg (some v)) (c := (zK M k).1) rfl hkr.1, show zP (zsP M k i.toNatClampNeg (some v)) k = va_up (zP M k) i.toNatClampNeg (some v) from zr_eq]
  show H1[zad X k]? = some (vp_cell _ _)
  rw [e1]
  have := zstP (cA := X.2.2.1 (zK M k).1) (n := (zK M k).2) (j := i.toNatClampNeg) (f := fun j => (zP M k j).map (zad X)) (v := zad X v)
  have hf : va_up (fun j => (zP M k j).map (zad X)) i.toNatClampNeg (some (zad X v)) = fun j => (va_up (zP M k) i.toNatClampNeg (some v) j).map (zad X) := by
    funext q
    unfold va_up
    by_cases hq : q = i.toNatClampNeg
    · rw [if_pos hq, if_pos hq]
      rfl
    · rw [if_neg hq, if_neg hq]
  rw [hf] at this
  exact congrArg some this
theorem zg_alen {k : Nat} (h : zdc y pc .arraylength 1) (hk : 20 ≤ (zK M k).1 ∧ (zK M k).1 ≤ 25) (kk : zGo X l d kc ks y (pc + 1) ls (.int (Int32.ofNat (zK M k).2) :: st) M Q) : zGo X l d kc ks y pc ls (.ref k :: st) M Q := by
  intro p e R s m args below meth cd H locs cells slots Qw lsA C
  obtain ⟨hx, hb, hml, hown, hts, hKn, -⟩ := id C.1
  have hR := C.2.2.2.1
  have hW := kk p e R s m args below meth cd H locs cells slots Qw lsA C
  by_cases h6 : k < 6
  · obtain ⟨eK, eI⟩ := hR.2.2.2.2.2.1 k h6
    have ha : zad X k = X.2.2.2.1 k := if_pos h6
    obtain ⟨e1, e2, e3, e4⟩ := hKn.2.2.2.2.2.2.2.2.2.2.2.1
    by_cases h0 : k = 0
    · subst h0
      rw [eK, e4.2] at hk
      omega
    by_cases h4 : k < 4
    · obtain ⟨cell, g1, g2, g3, g4, g5, g6⟩ := zext hR (hKn.2.1 k (by omega) h4)
      rw [← ha] at g1
      rw [← eK] at g5
      exact W.alen (n := Int32.ofNat (zK M k).2) hx hb g1 g2 g5 rfl rfl h hW
    · rcases (show k = 4 ∨ k = 5 by omega) with rfl | rfl
      · rw [eK, e2] at hk
        omega
      · obtain ⟨cell, g1, g2, g3, g4, g5, g6⟩ := zext hR hKn.2.2.1
        rw [← ha] at g1
        exact W.alen (n := Int32.ofNat (zK M 5).2) hx hb g1 g2 (by rw [eK, e3]; exact g5) rfl rfl h hW
  · have hat := hR.2.2.1 k (by omega) (show (zK M k).1 < 30 by omega)
    rcases (show (zK M k).1 = 20 ∨ (zK M k).1 = 21 ∨ (zK M k).1 = 22 ∨ (zK M k).1 = 23 ∨ (zK M k).1 = 24 ∨ (zK M k).1 = 25 by omega) with e | e | e | e | e | e
    · rw [zE_int e (by omega) (by omega)] at hat
      exact va_alen hx hb hKn.1 (zP1 hat) 0 0 rfl rfl rfl h hW
    · rw [zE_int e (by omega) (by omega)] at hat
      exact va_alen hx hb hKn.1 (zP1 hat) 0 1 rfl rfl rfl h hW
    · rw [zE_int e (by omega) (by omega)] at hat
      exact va_alen hx hb hKn.1 (zP1 hat) 0 2 rfl rfl rfl h hW
    · rw [zE_long e] at hat
      exact va_alen hx hb hKn.1 (zP1 hat) 0 3 rfl rfl rfl h hW
    · rw [zE_ref e (by omega)] at hat
      exact va_alen hx hb hKn.1 (zP1 hat) 0 4 rfl rfl rfl h hW
    · rw [zE_ref e (by omega)] at hat
      exact va_alen hx hb hKn.1 (zP1 hat) 0 5 rfl rfl rfl h hW
end ZMEM3
