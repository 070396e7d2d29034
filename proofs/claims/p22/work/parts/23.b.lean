theorem zs_gets {X : zX} {l : Launch} {d kc ks y pc n B PL i : Nat} {V : Int} {ls : List (Nat × Value)} {st : List Value} {M : zM} {Q : Option Value → zM → Prop} {v : Value} (ht : zT y pc = some (.getfield i, n, 30, B, V, PL)) (hv : (zsf B).2.2 = v) (h : zGo X l d kc ks y (pc + 3) ls (v :: st) M Q) : zGo X l d kc ks y pc ls (.ref 4 :: st) M Q := by
  subst hv
  exact zst ht h
theorem zs_ldcs {X : zX} {l : Launch} {d kc ks y pc n A B PL i : Nat} {V : Int} {ls : List (Nat × Value)} {st : List Value} {M : zM} {Q : Option Value → zM → Prop} (ht : zT y pc = some (.ldc i, n, A, B, V, PL)) (hA : A ≠ 0) (h : zGo X l d kc ks y (pc + 2) ls (.ref 4 :: st) M Q) : zGo X l d kc ks y pc ls st M Q := zst ht (zpF hA h)
theorem zs_ldc_ws {X : zX} {l : Launch} {d kc ks y pc n A B PL i : Nat} {V : Int} {ls : List (Nat × Value)} {st : List Value} {M : zM} {Q : Option Value → zM → Prop} (ht : zT y pc = some (.ldc_w i, n, A, B, V, PL)) (hA : A ≠ 0) (h : zGo X l d kc ks y (pc + 3) ls (.ref 4 :: st) M Q) : zGo X l d kc ks y pc ls st M Q := zst ht (zpF hA h)
theorem zfbC {v : Int32} (h : 0 ≤ v.toInt ∧ v.toInt ≤ 65535) : zfiB .char v = true := by
  unfold zfiB
  rw [decide_eq_true_eq, ← Int32.toInt_inj]
  have hm : v.toBitVec.msb = false := by
    rw [BitVec.msb_eq_toInt]
    exact decide_eq_false (by show ¬ v.toInt < 0; omega)
  have e2 : v.toInt = (v.toBitVec.toNat : Int) := by
    show v.toBitVec.toInt = _
    rw [BitVec.toInt_eq_toNat_of_msb hm]
  have h1 : (v.toUInt32 % 65536).toNat = v.toBitVec.toNat := by
    rw [UInt32.toNat_mod]
    show v.toBitVec.toNat % 65536 = _
    exact Nat.mod_eq_of_lt (by omega)
  have e : ((v.toUInt32 % 65536).toInt32).toInt = ((v.toUInt32 % 65536).toNat : Int) := by
    show ((v.toUInt32 % 65536).toBitVec).toInt = ((v.toUInt32 % 65536).toBitVec.toNat : Int)
    have h2 : (v.toUInt32 % 65536).toBitVec.toNat = v.toBitVec.toNat := h1
    exact BitVec.toInt_eq_toNat_of_lt (by omega)
  rw [e, h1, e2]
