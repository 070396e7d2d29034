/-! ===== rows for the walks; the two halves of the memory ===== -/
theorem zml {y m c h L i : Nat} (mf : zmf y m c h L) (hi : i < L) : i < (mt y).2.2.1 := by rw [mf.2.2.2.2.2]; exact hi
theorem zsub0 (a : Int32) : a - 0 = a := Int32.sub_zero a
theorem zrg (a : Int32) : -2147483648 ≤ a.toInt ∧ a.toInt ≤ 2147483647 := by
  have h1 := Int32.le_toInt a
  have h2 := Int32.toInt_lt a
  omega
theorem ziadd {a b : Int32} {ea eb : Int} (ha : a.toInt = ea) (hb : b.toInt = eb) (h1 : -2147483648 ≤ ea + eb) (h2 : ea + eb ≤ 2147483647) : ∃ v : Int32, a + b = v ∧ v.toInt = ea + eb :=
  ⟨_, rfl, by rw [Int32.toInt_add, ha, hb]; exact Int.bmod_eq_of_le (by omega) (by omega)⟩
theorem zisub {a b : Int32} {ea eb : Int} (ha : a.toInt = ea) (hb : b.toInt = eb) (h1 : -2147483648 ≤ ea - eb) (h2 : ea - eb ≤ 2147483647) : ∃ v : Int32, a - b = v ∧ v.toInt = ea - eb :=
  ⟨_, rfl, by rw [Int32.toInt_sub, ha, hb]; exact Int.bmod_eq_of_le (by omega) (by omega)⟩
theorem zi2l {a : Int32} {e : Int} (h : a.toInt = e) : a.toInt64.toInt = e := by rw [Int32.toInt_toInt64]; exact h
theorem zlcL {a b : Int64} {ea eb : Int} (ha : a.toInt = ea) (hb : b.toInt = eb) (h : ea < eb) : lg_cmp a b = -1 := by
  unfold lg_cmp
  rw [if_neg (by rw [GT.gt, Int64.lt_iff_toInt_lt, ha, hb]; omega), if_neg (by rw [← Int64.toInt_inj, ha, hb]; omega)]
theorem zlcE {a b : Int64} {ea eb : Int} (ha : a.toInt = ea) (hb : b.toInt = eb) (h : ea = eb) : lg_cmp a b = 0 := by
  unfold lg_cmp
  rw [if_neg (by rw [GT.gt, Int64.lt_iff_toInt_lt, ha, hb]; omega), if_pos (by rw [← Int64.toInt_inj, ha, hb]; omega)]
theorem zlcG {a b : Int64} {ea eb : Int} (ha : a.toInt = ea) (hb : b.toInt = eb) (h : eb < ea) : lg_cmp a b = 1 := by
  unfold lg_cmp
  rw [if_pos (by rw [GT.gt, Int64.lt_iff_toInt_lt, ha, hb]; omega)]
theorem zk1 {M : zM} {k c m : Nat} (h : zK M k = (c, m)) : (zK M k).1 = c := by rw [h]
theorem zk2 {M : zM} {k c m i : Nat} (h : zK M k = (c, m)) (hi : i < m) : i < (zK M k).2 := by rw [h]; exact hi
theorem zk3 {M : zM} {k c m : Nat} (h : zK M k = (c, m)) (hc : 20 ≤ c ∧ c ≤ 25) : 20 ≤ (zK M k).1 ∧ (zK M k).1 ≤ 25 := by rw [h]; exact hc
theorem zk4 {M : zM} {k c m : Nat} (h : zK M k = (c, m)) : (zK M k).2 = m := by rw [h]
/-- memories that are the same where they are known -/
def zeqv (M M' : zM) : Prop := zN M = zN M' ∧ (∀ k, k < zN M → zK M k = zK M' k) ∧ (∀ k, zN M ≤ k → 30 ≤ (zK M' k).1) ∧ (∀ k, 6 ≤ k → k < zN M → (zK M' k).1 < 30 → zI M k = zI M' k ∧ zJ M k = zJ M' k ∧ zP M k = zP M' k) ∧ ∀ k, k < 6 → zK M' k = zK zM0 k ∧ zI M' k = zI zM0 k
theorem zRel.eqv {X : zX} {M M' : zM} {H : Heap} (h : zRel X M H) (e : zeqv M M') : zRel X M' H := by
  obtain ⟨h1, h2, h3, h4, h5, h7, h8⟩ := h
  obtain ⟨e1, e2, e3, e4, e5⟩ := e
  have hb : ∀ k, (zK M' k).1 < 30 → k < zN M := fun k hk => by
    rcases Nat.lt_or_ge k (zN M) with q | q
    · exact q
    · exact absurd (e3 k q) (by omega)
  have hw : ∀ k j, (zK M' k).1 < 30 → zK M' k = zK M k ∧ zI M' k j = zI M k j := fun k j hk => by
    refine ⟨(e2 k (hb k hk)).symm, ?_⟩
    by_cases q : k < 6
    · rw [(e5 k q).2, (h7 k q).2]
    · rw [(e4 k (by omega) (hb k hk) hk).1]
  refine ⟨by rw [← e1]; exact h1, by rw [← e1]; exact h2, fun k hk hk2 => ?_, fun k j => ⟨fun hq => ?_, fun hq => ?_⟩, h5, e5, fun k hk => by rw [← e1]; exact hb k hk⟩
  · obtain ⟨q1, q2, q3⟩ := e4 k hk (hb k hk2) hk2
    rw [zE_congr (e2 k (hb k hk2)).symm q1.symm q2.symm q3.symm]
    exact h3 k hk (by rw [e2 k (hb k hk2)]; exact hk2)
  · obtain ⟨q1, q2⟩ := hw k j (by rw [hq]; decide)
    rw [q2]
    exact (h4 k j).1 (by rw [← q1]; exact hq)
  · obtain ⟨q1, q2⟩ := hw k j (by rw [hq]; decide)
    rw [q2]
    exact (h4 k j).2 (by rw [← q1]; exact hq)
theorem zCall.eqv {X : zX} {l : Launch} {d kc ks y : Nat} {as : List Value} {M M' : zM} {Q : Option Value → zM → Prop} (e : zeqv M M') (h : zCall X l d kc ks y as M' Q) : zCall X l d kc ks y as M Q := by
  intro p v ha hc hk s m args below hf happ hP hK
  obtain ⟨t, o, h1, h2, h3, ⟨r, Mr, hv, hq, hR, hE, hH⟩, hF⟩ := h p v ha hc hk s m args below hf happ ⟨hP.1, hP.2.1.eqv e, hP.2.2⟩ hK
  refine ⟨t, o, h1, h2, h3, ⟨r, Mr, hv, hq, hR, ⟨by rw [e.1]; exact hE.1, fun k hk => by rw [e.2.1 k hk]; exact hE.2.1 k (by rw [← e.1]; exact hk), fun k q1 q2 => hE.2.2 k (by rw [← e.1]; exact q1) q2⟩, fun k q1 q2 q3 => hH k q1 (by rw [← e.1]; exact q2) (by rw [← e.2.1 k q2]; exact q3)⟩, hF⟩
/-- a call that makes nothing: as many cells as before -/
theorem zCall.same {X : zX} {l : Launch} {d ks y : Nat} {as : List Value} {M : zM} {Q : Option Value → zM → Prop} (h : zCall X l d 0 ks y as M Q) : zCall X l d 0 ks y as M (fun r M' => Q r M' ∧ zN M' = zN M) := by
  intro p v ha hc hk s m args below hf happ hP hK
  obtain ⟨t, o, h1, h2, h3, ⟨r, Mr, hv, hq, hR, hE, hH⟩, L, hF, hL⟩ := h p v ha hc hk s m args below hf happ hP hK
  refine ⟨t, o, h1, h2, h3, ⟨r, Mr, hv, ⟨hq, ?_⟩, hR, hE, hH⟩, L, hF, hL⟩
  have e1 := hF.2.2.2.2.1
  have e2 : (stepsAlone p.tables v t s).heap.size ≤ s.heap.size + 0 := e1
  have e3 := hR.2.1
  have e4 := hP.2.1.2.1
  have e5 := hE.1
  have e6 := hP.2.1.1
  omega
/-- the model's cells, the class's -/
def zSm (k : Nat) : Bool := Nat.ble 336 k && Nat.ble k 363
def zSc (k : Nat) : Bool := Nat.ble 6 k && Nat.ble k 335
def zMc : zM := zhide zSm zMe
def zMm : zM := zhide zSc zMe
theorem zSm_r {k : Nat} (h : zSm k = true) : 6 ≤ k ∧ k < zN zMe := by
  unfold zSm at h
  rw [Bool.and_eq_true, Nat.ble_eq, Nat.ble_eq] at h
  exact ⟨by omega, by show k < 364; omega⟩
theorem zSc_r {k : Nat} (h : zSc k = true) : 6 ≤ k ∧ k < 364 := by
  unfold zSc at h
  rw [Bool.and_eq_true, Nat.ble_eq, Nat.ble_eq] at h
  omega
