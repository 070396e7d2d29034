/-! ===== memories that keep a table of bounds ===== -/
theorem zIs {M : zM} {k j : Nat} {v : Int32} : zI (zsI M k j v) k j = v := by
  show zr (zI M) k (upd (zI M k) j v) k j = v
  unfold zr upd
  rw [if_pos rfl, if_pos rfl]
theorem zIo {M : zM} {k j k' j' : Nat} {v : Int32} (h : k' ≠ k) : zI (zsI M k j v) k' j' = zI M k' j' := by
  show zr (zI M) k (upd (zI M k) j v) k' j' = _
  unfold zr
  rw [if_neg h]
theorem zIoj {M : zM} {k j k' j' : Nat} {v : Int32} (h : j' ≠ j) : zI (zsI M k j v) k' j' = zI M k' j' := by
  show zr (zI M) k (upd (zI M k) j v) k' j' = _
  unfold zr upd
  split
  · rename_i q
    subst q
    exact if_neg h
  · rfl
theorem zfvi {M : zM} {k j : Nat} {v : Int32} {t : FieldType} (ht : zft t = 0) (h : zI M k j = v) : zfv M k t j = .int v := by
  unfold zfv
  rw [if_pos ht, h]
theorem zfvP {M Mb : zM} {k j : Nat} {t : FieldType} (h : M.2.2.2.2 = Mb.2.2.2.2) (ht : zft t = 2) : zfv M k t j = zfv Mb k t j := by
  unfold zfv
  rw [ht]
  show va_rf (M.2.2.2.2 k j) = va_rf (Mb.2.2.2.2 k j)
  rw [h]
/-- kinds and references stay -/
def zSk (Mz M : zM) : Prop := M.2.1 = Mz.2.1 ∧ M.2.2.2.2 = Mz.2.2.2.2
theorem zSk.k {Mz M : zM} {k c m : Nat} (h : zSk Mz M) (f : zK Mz k = (c, m)) : zK M k = (c, m) := (congrFun h.1 k).trans f
theorem zSk.p {Mz M : zM} {k j : Nat} {t : FieldType} {v : Value} (h : zSk Mz M) (ht : zft t = 2) (f : zfv Mz k t j = v) : zfv M k t j = v := (zfvP h.2 ht).trans f
theorem zSk.a {Mz M : zM} {k j : Nat} {v : Value} (h : zSk Mz M) (f : va_rf (zP Mz k j) = v) : va_rf (zP M k j) = v := by
  show va_rf (M.2.2.2.2 k j) = v
  rw [h.2]
  exact f
/-- every int lies within the table's bounds -/
def zIv (lo hi : Nat → Nat → Int) (M : zM) : Prop := ∀ k j, lo k j ≤ (zI M k j).toInt ∧ (zI M k j).toInt ≤ hi k j
theorem zIv.put {lo hi : Nat → Nat → Int} {M : zM} {k j : Nat} {v : Int32} (h : zIv lo hi M) (h1 : lo k j ≤ v.toInt ∧ v.toInt ≤ hi k j) : zIv lo hi (zsI M k j v) := by
  intro k' j'
  by_cases hk : k' = k
  · by_cases hj : j' = j
    · subst hk
      subst hj
      rw [zIs]
      exact h1
    · rw [zIoj hj]
      exact h k' j'
  · rw [zIo hk]
    exact h k' j'
theorem zIv.row {lo hi : Nat → Nat → Int} {M : zM} {k : Nat} {r : Nat → Int32} (h : zIv lo hi M) (h1 : ∀ j, lo k j ≤ (r j).toInt ∧ (r j).toInt ≤ hi k j) : zIv lo hi (zsR M k r) := by
  intro k' j'
  show lo k' j' ≤ (zr (zI M) k r k' j').toInt ∧ (zr (zI M) k r k' j').toInt ≤ hi k' j'
  unfold zr
  by_cases hk : k' = k
  · rw [if_pos hk, hk]
    exact h1 j'
  · rw [if_neg hk]
    exact h k' j'
theorem zcpyB {f g : Nat → Int32} {a b n j : Nat} {lo hi : Int} (hf : ∀ j, lo ≤ (f j).toInt ∧ (f j).toInt ≤ hi) (hg : ∀ j, lo ≤ (g j).toInt ∧ (g j).toInt ≤ hi) : lo ≤ (va_cpy f g a b n j).toInt ∧ (va_cpy f g a b n j).toInt ≤ hi := by
  unfold va_cpy
  split
  · exact hf _
  · exact hg _
/-- cells, or fields of cells, that may have been written -/
abbrev zW : Type := List (Nat × Nat × Option Nat)
def zinW (W : zW) (k j : Nat) : Bool := W.any (fun p => Nat.ble p.1 k && (Nat.ble k p.2.1 && (match p.2.2 with
  | none => true
  | some i => Nat.beq i j)))
def zFr (W : zW) (M M' : zM) : Prop := ∀ k j, zinW W k j = false → zI M' k j = zI M k j
theorem zFr.refl {W : zW} {M : zM} : zFr W M M := fun _ _ _ => rfl
theorem zFr.put {W : zW} {M M' : zM} {k j : Nat} {v : Int32} (h : zFr W M M') (hw : zinW W k j = true) : zFr W M (zsI M' k j v) := by
  intro k' j' h'
  by_cases hk : k' = k
  · by_cases hj : j' = j
    · subst hk
      subst hj
      rw [hw] at h'
      cases h'
    · rw [zIoj hj]
      exact h k' j' h'
  · rw [zIo hk]
    exact h k' j' h'
theorem zFr.row {W : zW} {M M' : zM} {k : Nat} {r : Nat → Int32} (h : zFr W M M') (hw : ∀ j, zinW W k j = true) : zFr W M (zsR M' k r) := by
  intro k' j' h'
  by_cases hk : k' = k
  · subst hk
    rw [hw j'] at h'
    cases h'
  · show zr (zI M') k r k' j' = _
    unfold zr
    rw [if_neg hk]
    exact h k' j' h'
theorem zFr.trans {W : zW} {M M' M'' : zM} (h : zFr W M M') (h' : zFr W M' M'') : zFr W M M'' := fun k j q => (h' k j q).trans (h k j q)
def zsub (W W' : zW) : Bool := W.all (fun p => W'.any (fun q => Nat.ble q.1 p.1 && (Nat.ble p.2.1 q.2.1 && (match q.2.2 with
  | none => true
  | some i => match p.2.2 with
    | none => false
    | some i' => Nat.beq i i'))))
theorem zsub_in {W W' : zW} {k j : Nat} (h : zsub W W' = true) (hk : zinW W k j = true) : zinW W' k j = true := by
  unfold zinW at hk ⊢
  rw [List.any_eq_true] at hk ⊢
  obtain ⟨p, hp, hk⟩ := hk
  unfold zsub at h
  have h1 := List.all_eq_true.mp h p hp
  rw [List.any_eq_true] at h1
  obtain ⟨q, hq, h1⟩ := h1
  refine ⟨q, hq, ?_⟩
  rw [Bool.and_eq_true, Bool.and_eq_true, Nat.ble_eq, Nat.ble_eq] at hk h1 ⊢
  refine ⟨by omega, by omega, ?_⟩
  have h2 := h1.2.2
  have h3 := hk.2.2
  cases hqi : q.2.2 with
  | none => rfl
  | some i =>
    rw [hqi] at h2
    cases hpi : p.2.2 with
    | none => rw [hpi] at h2; cases h2
    | some i' =>
      rw [hpi] at h2 h3
      have e1 : i = i' := Nat.eq_of_beq_eq_true h2
      rw [e1]
      exact h3
theorem zFr.mono {W W' : zW} {M M' : zM} (h : zFr W M M') (hw : zsub W W' = true) : zFr W' M M' := by
  intro k j q
  refine h k j ?_
  cases hz : zinW W k j with
  | false => rfl
  | true => rw [zsub_in hw hz] at q; cases q
theorem znb (v : Int32) : -128 ≤ (vp_nar .byte v).toInt ∧ (vp_nar .byte v).toInt ≤ 127 := by
  have e : vp_nar .byte v = v.toInt8.toInt32 := rfl
  rw [e, Int8.toInt_toInt32]
  have h1 := Int8.le_toInt v.toInt8
  have h2 := Int8.toInt_lt v.toInt8
  omega
theorem zfb01 {v : Int32} (h : 0 ≤ v.toInt ∧ v.toInt ≤ 1) : zfiB .boolean v = true := by
  unfold zfiB
  rw [Bool.or_eq_true, decide_eq_true_eq, decide_eq_true_eq]
  by_cases q : v.toInt = 0
  · exact Or.inl ((zeq q (by decide : (0 : Int32).toInt = 0)).mpr rfl)
  · exact Or.inr ((zeq (ea := 1) (by omega) (by decide : (1 : Int32).toInt = 1)).mpr rfl)
theorem zand {a m : Int32} {e : Int} (hm : m.toInt = e) (h : 0 ≤ e) : 0 ≤ (a &&& m).toInt ∧ (a &&& m).toInt ≤ e := by
  subst hm
  have hmb : m.toBitVec.msb = false := by
    rw [BitVec.msb_eq_toInt]
    exact decide_eq_false (by show ¬ m.toInt < 0; omega)
  have e1 : (a &&& m).toInt = ((a.toBitVec &&& m.toBitVec).toNat : Int) := by
    show (a.toBitVec &&& m.toBitVec).toInt = _
    rw [BitVec.toInt_eq_toNat_of_msb (by rw [BitVec.msb_and, hmb, Bool.and_false])]
  have e2 : m.toInt = (m.toBitVec.toNat : Int) := by
    show m.toBitVec.toInt = _
    rw [BitVec.toInt_eq_toNat_of_msb hmb]
  rw [e1, e2, BitVec.toNat_and]
  have := Nat.and_le_right (n := a.toBitVec.toNat) (m := m.toBitVec.toNat)
  omega
theorem znz {b : Int32} {e : Int} (hb : b.toInt = e) (h : e ≠ 0) : b ≠ 0 := fun q => h (by rw [← hb, q]; decide)
theorem zmulc {a b : Int32} {ea eb : Int} (ha : a.toInt = ea) (hb : b.toInt = eb) (h1 : -2147483648 ≤ ea * eb) (h2 : ea * eb ≤ 2147483647) : (a * b).toInt = ea * eb := by
  rw [Int32.toInt_mul, ha, hb]
  exact Int.bmod_eq_of_le (by omega) (by omega)
theorem zdivp {a b : Int32} {ea eb : Int} (ha : a.toInt = ea) (hb : b.toInt = eb) (h1 : 0 ≤ ea) (h2 : 0 < eb) : (a / b).toInt = ea / eb := by
  have hq : (a / b).toInt = (a.toInt.tdiv b.toInt).bmod (2 ^ 32) := Int32.toInt_div a b
  rw [hq, ha, hb, Int.tdiv_eq_ediv_of_nonneg h1]
  have g := zrg a
  have h3 : ea / eb ≤ ea := Int.ediv_le_self eb h1
  have h4 : 0 ≤ ea / eb := Int.ediv_nonneg h1 (Int.le_of_lt h2)
  exact Int.bmod_eq_of_le (by omega) (by omega)
theorem zrem {a b : Int32} {ea eb : Int} (ha : a.toInt = ea) (hb : b.toInt = eb) (h1 : 0 ≤ ea) (h2 : 0 < eb) : 0 ≤ (a - a / b * b).toInt ∧ (a - a / b * b).toInt ≤ eb - 1 := by
  have hd := zdivp ha hb h1 h2
  have g := zrg a
  have h5 := Int.emod_add_mul_ediv ea eb
  have h6 := Int.emod_nonneg ea (show eb ≠ 0 by omega)
  have h7 := Int.emod_lt_of_pos ea h2
  have h8 : 0 ≤ ea / eb * eb := Int.mul_nonneg (Int.ediv_nonneg h1 (Int.le_of_lt h2)) (Int.le_of_lt h2)
  have h9 : ea / eb * eb = eb * (ea / eb) := Int.mul_comm _ _
  have hm := zmulc hd hb (by omega) (by omega)
  obtain ⟨v, e1, e2⟩ := zisub ha hm (by omega) (by omega)
  rw [e1, e2]
  omega
theorem znc16 (v : Int32) : 0 ≤ ((v.toUInt32 % 65536).toInt32).toInt ∧ ((v.toUInt32 % 65536).toInt32).toInt ≤ 65535 := by
  have h : (v.toUInt32 % 65536).toNat < 65536 := by
    rw [UInt32.toNat_mod]
    exact Nat.mod_lt _ (by decide)
  have e : ((v.toUInt32 % 65536).toInt32).toInt = ((v.toUInt32 % 65536).toNat : Int) := by
    show ((v.toUInt32 % 65536).toBitVec).toInt = ((v.toUInt32 % 65536).toBitVec.toNat : Int)
    exact BitVec.toInt_eq_toNat_of_lt (by have h2 : (v.toUInt32 % 65536).toBitVec.toNat < 65536 := h; omega)
  omega
theorem zs_copy {X : zX} {l : Launch} {d kc ks y pc i n' A PL a b ka la lb : Nat} {V : Int} {ls : List (Nat × Value)} {st : List Value} {M : zM} {Q : Option Value → zM → Prop} {n dp sp : Int32} (ht : zT y pc = some (.invokestatic i, n', A, 6, V, PL)) (fa : zK M a = (ka, la)) (fb : zK M b = (ka, lb)) (hk : 20 ≤ ka ∧ ka < 23) (ha : 6 ≤ a) (hb : 6 ≤ b) (h1 : 0 ≤ sp.toInt ∧ 0 ≤ dp.toInt ∧ 0 ≤ n.toInt) (h2 : sp.toInt + n.toInt ≤ (la : Int)) (h3 : dp.toInt + n.toInt ≤ (lb : Int)) (hw : zwd st ≤ 8 ∧ 1 ≤ d)
    (h : zGo X l d kc ks y (pc + 3) ls st (zsR M b (va_cpy (zI M a) (zI M b) sp.toNatClampNeg dp.toNatClampNeg n.toNatClampNeg)) Q) : zGo X l d kc ks y pc ls (.int n :: .int dp :: .ref b :: .int sp :: .ref a :: st) M Q := by
  refine zst ht (zpT ?_ h)
  rw [fa, fb]
  exact ⟨ha, hb, rfl, hk.1, hk.2, h1.1, h1.2.1, h1.2.2, h2, h3, hw.1, hw.2⟩
theorem zneg {a : Int32} {e : Int} (ha : a.toInt = e) (h : -2147483648 < e) : (-a).toInt = -e := by
  have g := zrg a
  rw [Int32.toInt_neg, ha]
  exact Int.bmod_eq_of_le (by omega) (by omega)
