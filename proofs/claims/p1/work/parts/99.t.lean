/-! ===== memories that keep a table of bounds ===== -/
def zSk (Mz M : zM) : Prop := M.2.1 = Mz.2.1 ∧ M.2.2.2.2 = Mz.2.2.2.2
theorem zSk.k {Mz M : zM} {k c m : Nat} (h : zSk Mz M) (f : zK Mz k = (c, m)) : zK M k = (c, m) := (congrFun h.1 k).trans f
theorem zSk.p {Mz M : zM} {k j : Nat} {t : FieldType} {v : Value} (h : zSk Mz M) (ht : zft t = 2) (f : zfv Mz k t j = v) : zfv M k t j = v := (zfvP h.2 ht).trans f
theorem zSk.a {Mz M : zM} {k j : Nat} {v : Value} (h : zSk Mz M) (f : va_rf (zP Mz k j) = v) : va_rf (zP M k j) = v := by
  show va_rf (M.2.2.2.2 k j) = v
  rw [h.2]
  exact f
/-- every int lies within the table's bounds -/
def zIv (lo hi : Nat → Nat → Int) (M : zM) : Prop := ∀ k j, lo k j ≤ (zI M k j).toInt ∧ (zI M k j).toInt ≤ hi k j
theorem zIv.put {lo hi : Nat → Nat → Int} {M : zM} {k j : Nat} {v : Int32} (h : zIv lo hi M) (h1 : lo k j ≤ v.toInt ∧ v.toInt ≤ hi k j) : zIv lo hi (zsI M k j v) := by
  intro k' j'
  by_cases hk : k' = k
  · by_cases hj : j' = j
    · subst hk
      subst hj
      rw [zIs]
      exact h1
    · rw [zIoj hj]
      exact h k' j'
  · rw [zIo hk]
    exact h k' j'
theorem zIv.row {lo hi : Nat → Nat → Int} {M : zM} {k : Nat} {r : Nat → Int32} (h : zIv lo hi M) (h1 : ∀ j, lo k j ≤ (r j).toInt ∧ (r j).toInt ≤ hi k j) : zIv lo hi (zsR M k r) := by
  intro k' j'
  show lo k' j' ≤ (zr (zI M) k r k' j').toInt ∧ (zr (zI M) k r k' j').toInt ≤ hi k' j'
  unfold zr
  by_cases hk : k' = k
  · rw [if_pos hk, hk]
    exact h1 j'
  · rw [if_neg hk]
    exact h k' j'
theorem zcpyB {f g : Nat → Int32} {a b n j : Nat} {lo hi : Int} (hf : ∀ j, lo ≤ (f j).toInt ∧ (f j).toInt ≤ hi) (hg : ∀ j, lo ≤ (g j).toInt ∧ (g j).toInt ≤ hi) : lo ≤ (va_cpy f g a b n j).toInt ∧ (va_cpy f g a b n j).toInt ≤ hi := by
  unfold va_cpy
  split
  · exact hf _
  · exact hg _
/-- cells, or fields of cells, that may have been written -/
abbrev zW : Type := List (Nat × Nat × Option Nat)
def zinW (W : zW) (k j : Nat) : Bool := W.any (fun p => Nat.ble p.1 k && (Nat.ble k p.2.1 && (match p.2.2 with
  | none => true
  | some i => Nat.beq i j)))
def zFr (W : zW) (M M' : zM) : Prop := ∀ k j, zinW W k j = false → zI M' k j = zI M k j
theorem zFr.refl {W : zW} {M : zM} : zFr W M M := fun _ _ _ => rfl
theorem zFr.put {W : zW} {M M' : zM} {k j : Nat} {v : Int32} (h : zFr W M M') (hw : zinW W k j = true) : zFr W M (zsI M' k j v) := by
  intro k' j' h'
  by_cases hk : k' = k
  · by_cases hj : j' = j
    · subst hk
      subst hj
      rw [hw] at h'
      cases h'
    · rw [zIoj hj]
      exact h k' j' h'
  · rw [zIo hk]
    exact h k' j' h'
theorem zFr.row {W : zW} {M M' : zM} {k : Nat} {r : Nat → Int32} (h : zFr W M M') (hw : ∀ j, zinW W k j = true) : zFr W M (zsR M' k r) := by
  intro k' j' h'
  by_cases hk : k' = k
  · subst hk
    rw [hw j'] at h'
    cases h'
  · show zr (zI M') k r k' j' = _
    unfold zr
    rw [if_neg hk]
    exact h k' j' h'
theorem zFr.trans {W : zW} {M M' M'' : zM} (h : zFr W M M') (h' : zFr W M' M'') : zFr W M M'' := fun k j q => (h' k j q).trans (h k j q)
def zsub (W W' : zW) : Bool := W.all (fun p => W'.any (fun q => Nat.ble q.1 p.1 && (Nat.ble p.2.1 q.2.1 && (match q.2.2 with
  | none => true
  | some i => match p.2.2 with
    | none => false
    | some i' => Nat.beq i i'))))
theorem zsub_in {W W' : zW} {k j : Nat} (h : zsub W W' = true) (hk : zinW W k j = true) : zinW W' k j = true := by
  unfold zinW at hk ⊢
  rw [List.any_eq_true] at hk ⊢
  obtain ⟨p, hp, hk⟩ := hk
  unfold zsub at h
  have h1 := List.all_eq_true.mp h p hp
  rw [List.any_eq_true] at h1
  obtain ⟨q, hq, h1⟩ := h1
  refine ⟨q, hq, ?_⟩
  rw [Bool.and_eq_true, Bool.and_eq_true, Nat.ble_eq, Nat.ble_eq] at hk h1 ⊢
  refine ⟨by omega, by omega, ?_⟩
  have h2 := h1.2.2
  have h3 := hk.2.2
  cases hqi : q.2.2 with
  | none => rfl
  | some i =>
    rw [hqi] at h2
    cases hpi : p.2.2 with
    | none => rw [hpi] at h2; cases h2
    | some i' =>
      rw [hpi] at h2 h3
      have e1 : i = i' := Nat.eq_of_beq_eq_true h2
      rw [e1]
      exact h3
theorem zFr.mono {W W' : zW} {M M' : zM} (h : zFr W M M') (hw : zsub W W' = true) : zFr W' M M' := by
  intro k j q
  refine h k j ?_
  cases hz : zinW W k j with
  | false => rfl
  | true => rw [zsub_in hw hz] at q; cases q
theorem znb (v : Int32) : -128 ≤ (vp_nar .byte v).toInt ∧ (vp_nar .byte v).toInt ≤ 127 := by
  have e : vp_nar .byte v = v.toInt8.toInt32 := rfl
  rw [e, Int8.toInt_toInt32]
  have h1 := Int8.le_toInt v.toInt8
  have h2 := Int8.toInt_lt v.toInt8
  omega
theorem zfb01 {v : Int32} (h : 0 ≤ v.toInt ∧ v.toInt ≤ 1) : zfiB .boolean v = true := by
  unfold zfiB
  rw [Bool.or_eq_true, decide_eq_true_eq, decide_eq_true_eq]
  by_cases q : v.toInt = 0
  · exact Or.inl ((zeq q (by decide : (0 : Int32).toInt = 0)).mpr rfl)
  · exact Or.inr ((zeq (ea := 1) (by omega) (by decide : (1 : Int32).toInt = 1)).mpr rfl)
theorem zand {a m : Int32} {e : Int} (hm : m.toInt = e) (h : 0 ≤ e) : 0 ≤ (a &&& m).toInt ∧ (a &&& m).toInt ≤ e := by
  subst hm
  have hmb : m.toBitVec.msb = false := by
    rw [BitVec.msb_eq_toInt]
    exact decide_eq_false (by show ¬ m.toInt < 0; omega)
  have e1 : (a &&& m).toInt = ((a.toBitVec &&& m.toBitVec).toNat : Int) := by
    show (a.toBitVec &&& m.toBitVec).toInt = _
    rw [BitVec.toInt_eq_toNat_of_msb (by rw [BitVec.msb_and, hmb, Bool.and_false])]
  have e2 : m.toInt = (m.toBitVec.toNat : Int) := by
    show m.toBitVec.toInt = _
    rw [BitVec.toInt_eq_toNat_of_msb hmb]
  rw [e1, e2, BitVec.toNat_and]
  have := Nat.and_le_right (n := a.toBitVec.toNat) (m := m.toBitVec.toNat)
  omega
theorem znz {b : Int32} {e : Int} (hb : b.toInt = e) (h : e ≠ 0) : b ≠ 0 := fun q => h (by rw [← hb, q]; decide)
theorem zmulc {a b : Int32} {ea eb : Int} (ha : a.toInt = ea) (hb : b.toInt = eb) (h1 : -2147483648 ≤ ea * eb) (h2 : ea * eb ≤ 2147483647) : (a * b).toInt = ea * eb := by
  rw [Int32.toInt_mul, ha, hb]
  exact Int.bmod_eq_of_le (by omega) (by omega)
theorem zdivp {a b : Int32} {ea eb : Int} (ha : a.toInt = ea) (hb : b.toInt = eb) (h1 : 0 ≤ ea) (h2 : 0 < eb) : (a / b).toInt = ea / eb := by
  have hq : (a / b).toInt = (a.toInt.tdiv b.toInt).bmod (2 ^ 32) := Int32.toInt_div a b
  rw [hq, ha, hb, Int.tdiv_eq_ediv_of_nonneg h1]
  have g := zrg a
  have h3 : ea / eb ≤ ea := Int.ediv_le_self eb h1
  have h4 : 0 ≤ ea / eb := Int.ediv_nonneg h1 (Int.le_of_lt h2)
  exact Int.bmod_eq_of_le (by omega) (by omega)
theorem zrem {a b : Int32} {ea eb : Int} (ha : a.toInt = ea) (hb : b.toInt = eb) (h1 : 0 ≤ ea) (h2 : 0 < eb) : 0 ≤ (a - a / b * b).toInt ∧ (a - a / b * b).toInt ≤ eb - 1 := by
  have hd := zdivp ha hb h1 h2
  have g := zrg a
  have h5 := Int.emod_add_mul_ediv ea eb
  have h6 := Int.emod_nonneg ea (show eb ≠ 0 by omega)
  have h7 := Int.emod_lt_of_pos ea h2
  have h8 : 0 ≤ ea / eb * eb := Int.mul_nonneg (Int.ediv_nonneg h1 (Int.le_of_lt h2)) (Int.le_of_lt h2)
  have h9 : ea / eb * eb = eb * (ea / eb) := Int.mul_comm _ _
  have hm := zmulc hd hb (by omega) (by omega)
  obtain ⟨v, e1, e2⟩ := zisub ha hm (by omega) (by omega)
  rw [e1, e2]
  omega
theorem znc16 (v : Int32) : 0 ≤ ((v.toUInt32 % 65536).toInt32).toInt ∧ ((v.toUInt32 % 65536).toInt32).toInt ≤ 65535 := by
  have h : (v.toUInt32 % 65536).toNat < 65536 := by
    rw [UInt32.toNat_mod]
    exact Nat.mod_lt _ (by decide)
  have e : ((v.toUInt32 % 65536).toInt32).toInt = ((v.toUInt32 % 65536).toNat : Int) := by
    show ((v.toUInt32 % 65536).toBitVec).toInt = ((v.toUInt32 % 65536).toBitVec.toNat : Int)
    exact BitVec.toInt_eq_toNat_of_lt (by have h2 : (v.toUInt32 % 65536).toBitVec.toNat < 65536 := h; omega)
  omega
theorem zRo {M : zM} {k k' j' : Nat} {r : Nat → Int32} (h : k' ≠ k) : zI (zsR M k r) k' j' = zI M k' j' := by
  show zr (zI M) k r k' j' = _
  unfold zr
  rw [if_neg h]
theorem zs_copy {X : zX} {l : Launch} {d kc ks y pc i n' A PL a b ka la lb : Nat} {V : Int} {ls : List (Nat × Value)} {st : List Value} {M : zM} {Q : Option Value → zM → Prop} {n dp sp : Int32} (ht : zT y pc = some (.invokestatic i, n', A, 6, V, PL)) (fa : zK M a = (ka, la)) (fb : zK M b = (ka, lb)) (hk : 20 ≤ ka ∧ ka < 23) (ha : 6 ≤ a) (hb : 6 ≤ b) (h1 : 0 ≤ sp.toInt ∧ 0 ≤ dp.toInt ∧ 0 ≤ n.toInt) (h2 : sp.toInt + n.toInt ≤ (la : Int)) (h3 : dp.toInt + n.toInt ≤ (lb : Int)) (hw : zwd st ≤ 8 ∧ 1 ≤ d)
    (h : zGo X l d kc ks y (pc + 3) ls st (zsR M b (va_cpy (zI M a) (zI M b) sp.toNatClampNeg dp.toNatClampNeg n.toNatClampNeg)) Q) : zGo X l d kc ks y pc ls (.int n :: .int dp :: .ref b :: .int sp :: .ref a :: st) M Q := by
  refine zst ht (zpT ?_ h)
  rw [fa, fb]
  exact ⟨ha, hb, rfl, hk.1, hk.2, h1.1, h1.2.1, h1.2.2, h2, h3, hw.1, hw.2⟩
theorem zneg {a : Int32} {e : Int} (ha : a.toInt = e) (h : -2147483648 < e) : (-a).toInt = -e := by
  have g := zrg a
  rw [Int32.toInt_neg, ha]
  exact Int.bmod_eq_of_le (by omega) (by omega)

def cLo (k j : Nat) : Int := cond (Nat.ble 336 k) (-2147483648) (cond (Nat.ble 168 k) (cond (Nat.ble 252 k) (cond (Nat.ble 294 k) (cond (Nat.ble 315 k) (cond (Nat.ble 325 k) (cond (Nat.ble 330 k) (cond (Nat.ble 333 k) (cond (Nat.ble 334 k) (cond (Nat.ble 335 k) ((-128)) ((-2147483648))) ((-2147483648))) ((-2147483648))) (cond (Nat.ble 327 k) ((-2147483648)) (cond (Nat.ble 326 k) (0) (cond (Nat.beq j 0) 0 ((-2147483648)))))) (cond (Nat.ble 320 k) (cond (Nat.ble 322 k) (cond (Nat.ble 323 k) (cond (Nat.ble 324 k) ((-2147483648)) (0)) ((-2147483648))) ((-2147483648))) (cond (Nat.ble 317 k) ((-2147483648)) (cond (Nat.ble 316 k) ((-2147483648)) ((-2)))))) (cond (Nat.ble 304 k) (cond (Nat.ble 309 k) (cond (Nat.ble 312 k) (cond (Nat.ble 313 k) (cond (Nat.ble 314 k) (cond (Nat.beq j 0) (-3) (cond (Nat.beq j 1) (-20) ((-2147483648)))) ((-2147483648))) ((-2))) (cond (Nat.ble 310 k) (cond (Nat.ble 311 k) (cond (Nat.beq j 0) (-3) (cond (Nat.beq j 1) (-20) ((-2147483648)))) ((-2147483648))) ((-2)))) (cond (Nat.ble 306 k) (cond (Nat.ble 307 k) (cond (Nat.ble 308 k) (cond (Nat.beq j 0) (-3) (cond (Nat.beq j 1) (-20) ((-2147483648)))) ((-2147483648))) ((-2))) (cond (Nat.ble 305 k) (cond (Nat.beq j 0) (-3) (cond (Nat.beq j 1) (-20) ((-2147483648)))) ((-2147483648))))) (cond (Nat.ble 299 k) (cond (Nat.ble 301 k) (cond (Nat.ble 302 k) (cond (Nat.ble 303 k) ((-2)) (cond (Nat.beq j 0) (-3) (cond (Nat.beq j 1) (-20) ((-2147483648))))) ((-2147483648))) (cond (Nat.ble 300 k) ((-2)) (cond (Nat.beq j 0) (-3) (cond (Nat.beq j 1) (-20) ((-2147483648)))))) (cond (Nat.ble 296 k) (cond (Nat.ble 297 k) (cond (Nat.ble 298 k) ((-2147483648)) ((-2))) (cond (Nat.beq j 0) (-3) (cond (Nat.beq j 1) (-20) ((-2147483648))))) (cond (Nat.ble 295 k) ((-2147483648)) ((-2))))))) (cond (Nat.ble 273 k) (cond (Nat.ble 283 k) (cond (Nat.ble 288 k) (cond (Nat.ble 291 k) (cond (Nat.ble 292 k) (cond (Nat.ble 293 k) (cond (Nat.beq j 0) (-3) (cond (Nat.beq j 1) (-20) ((-2147483648)))) ((-2147483648))) ((-2))) (cond (Nat.ble 289 k) (cond (Nat.ble 290 k) (cond (Nat.beq j 0) (-3) (cond (Nat.beq j 1) (-20) ((-2147483648)))) ((-2147483648))) ((-2)))) (cond (Nat.ble 285 k) (cond (Nat.ble 286 k) (cond (Nat.ble 287 k) (cond (Nat.beq j 0) (-3) (cond (Nat.beq j 1) (-20) ((-2147483648)))) ((-2147483648))) ((-2))) (cond (Nat.ble 284 k) (cond (Nat.beq j 0) (-3) (cond (Nat.beq j 1) (-20) ((-2147483648)))) ((-2147483648))))) (cond (Nat.ble 278 k) (cond (Nat.ble 280 k) (cond (Nat.ble 281 k) (cond (Nat.ble 282 k) ((-2)) (cond (Nat.beq j 0) (-3) (cond (Nat.beq j 1) (-20) ((-2147483648))))) ((-2147483648))) (cond (Nat.ble 279 k) ((-2)) (cond (Nat.beq j 0) (-3) (cond (Nat.beq j 1) (-20) ((-2147483648)))))) (cond (Nat.ble 275 k) (cond (Nat.ble 276 k) (cond (Nat.ble 277 k) ((-2147483648)) ((-2))) (cond (Nat.beq j 0) (-3) (cond (Nat.beq j 1) (-20) ((-2147483648))))) (cond (Nat.ble 274 k) ((-2147483648)) ((-2)))))) (cond (Nat.ble 262 k) (cond (Nat.ble 267 k) (cond (Nat.ble 270 k) (cond (Nat.ble 271 k) (cond (Nat.ble 272 k) (cond (Nat.beq j 0) (-3) (cond (Nat.beq j 1) (-20) ((-2147483648)))) ((-2147483648))) ((-2))) (cond (Nat.ble 268 k) (cond (Nat.ble 269 k) (cond (Nat.beq j 0) (-3) (cond (Nat.beq j 1) (-20) ((-2147483648)))) ((-2147483648))) ((-2)))) (cond (Nat.ble 264 k) (cond (Nat.ble 265 k) (cond (Nat.ble 266 k) (cond (Nat.beq j 0) (-3) (cond (Nat.beq j 1) (-20) ((-2147483648)))) ((-2147483648))) ((-2))) (cond (Nat.ble 263 k) (cond (Nat.beq j 0) (-3) (cond (Nat.beq j 1) (-20) ((-2147483648)))) ((-2147483648))))) (cond (Nat.ble 257 k) (cond (Nat.ble 259 k) (cond (Nat.ble 260 k) (cond (Nat.ble 261 k) ((-2)) (cond (Nat.beq j 0) (-3) (cond (Nat.beq j 1) (-20) ((-2147483648))))) ((-2147483648))) (cond (Nat.ble 258 k) ((-2)) (cond (Nat.beq j 0) (-3) (cond (Nat.beq j 1) (-20) ((-2147483648)))))) (cond (Nat.ble 254 k) (cond (Nat.ble 255 k) ((-2147483648)) (0)) ((-2147483648))))))) (cond (Nat.ble 210 k) (cond (Nat.ble 231 k) (cond (Nat.ble 241 k) (cond (Nat.ble 246 k) (cond (Nat.ble 249 k) ((-2147483648)) (cond (Nat.ble 247 k) (0) ((-2147483648)))) (cond (Nat.ble 243 k) (cond (Nat.ble 244 k) (cond (Nat.ble 245 k) ((-2147483648)) ((-20))) ((-3))) (cond (Nat.ble 242 k) (cond (Nat.beq j 0) 0 (cond (Nat.beq j 5) 1 (cond (Nat.beq j 6) 0 (cond (Nat.beq j 15) 0 ((-2147483648)))))) (cond (Nat.beq j 2) 0 ((-2147483648)))))) (cond (Nat.ble 236 k) (cond (Nat.ble 238 k) (cond (Nat.ble 239 k) (cond (Nat.ble 240 k) ((-2147483648)) ((-2))) (cond (Nat.beq j 0) (-3) (cond (Nat.beq j 1) (-20) ((-2147483648))))) (cond (Nat.ble 237 k) ((-2147483648)) ((-2)))) (cond (Nat.ble 233 k) (cond (Nat.ble 234 k) (cond (Nat.ble 235 k) (cond (Nat.beq j 0) (-3) (cond (Nat.beq j 1) (-20) ((-2147483648)))) ((-2147483648))) ((-2))) (cond (Nat.ble 232 k) (cond (Nat.beq j 0) (-3) (cond (Nat.beq j 1) (-20) ((-2147483648)))) ((-2147483648)))))) (cond (Nat.ble 220 k) (cond (Nat.ble 225 k) (cond (Nat.ble 228 k) (cond (Nat.ble 229 k) (cond (Nat.ble 230 k) ((-2)) (cond (Nat.beq j 0) (-3) (cond (Nat.beq j 1) (-20) ((-2147483648))))) ((-2147483648))) (cond (Nat.ble 226 k) (cond (Nat.ble 227 k) ((-2)) (cond (Nat.beq j 0) (-3) (cond (Nat.beq j 1) (-20) ((-2147483648))))) ((-2147483648)))) (cond (Nat.ble 222 k) (cond (Nat.ble 223 k) (cond (Nat.ble 224 k) ((-2)) (cond (Nat.beq j 0) (-3) (cond (Nat.beq j 1) (-20) ((-2147483648))))) ((-2147483648))) (cond (Nat.ble 221 k) ((-2)) (cond (Nat.beq j 0) (-3) (cond (Nat.beq j 1) (-20) ((-2147483648))))))) (cond (Nat.ble 215 k) (cond (Nat.ble 217 k) (cond (Nat.ble 218 k) (cond (Nat.ble 219 k) ((-2147483648)) ((-2))) (cond (Nat.beq j 0) (-3) (cond (Nat.beq j 1) (-20) ((-2147483648))))) (cond (Nat.ble 216 k) ((-2147483648)) ((-2)))) (cond (Nat.ble 212 k) (cond (Nat.ble 213 k) (cond (Nat.ble 214 k) (cond (Nat.beq j 0) (-3) (cond (Nat.beq j 1) (-20) ((-2147483648)))) ((-2147483648))) ((-2))) (cond (Nat.ble 211 k) (cond (Nat.beq j 0) (-3) (cond (Nat.beq j 1) (-20) ((-2147483648)))) ((-2147483648))))))) (cond (Nat.ble 189 k) (cond (Nat.ble 199 k) (cond (Nat.ble 204 k) (cond (Nat.ble 207 k) (cond (Nat.ble 208 k) (cond (Nat.ble 209 k) ((-2)) (cond (Nat.beq j 0) (-3) (cond (Nat.beq j 1) (-20) ((-2147483648))))) ((-2147483648))) (cond (Nat.ble 205 k) (cond (Nat.ble 206 k) ((-2)) (cond (Nat.beq j 0) (-3) (cond (Nat.beq j 1) (-20) ((-2147483648))))) ((-2147483648)))) (cond (Nat.ble 201 k) (cond (Nat.ble 202 k) (cond (Nat.ble 203 k) ((-2)) (cond (Nat.beq j 0) (-3) (cond (Nat.beq j 1) (-20) ((-2147483648))))) ((-2147483648))) (cond (Nat.ble 200 k) ((-2)) (cond (Nat.beq j 0) (-3) (cond (Nat.beq j 1) (-20) ((-2147483648))))))) (cond (Nat.ble 194 k) (cond (Nat.ble 196 k) (cond (Nat.ble 197 k) (cond (Nat.ble 198 k) ((-2147483648)) ((-2))) (cond (Nat.beq j 0) (-3) (cond (Nat.beq j 1) (-20) ((-2147483648))))) (cond (Nat.ble 195 k) ((-2147483648)) ((-2)))) (cond (Nat.ble 191 k) (cond (Nat.ble 192 k) (cond (Nat.ble 193 k) (cond (Nat.beq j 0) (-3) (cond (Nat.beq j 1) (-20) ((-2147483648)))) ((-2147483648))) ((-2))) (cond (Nat.ble 190 k) (cond (Nat.beq j 0) (-3) (cond (Nat.beq j 1) (-20) ((-2147483648)))) ((-2147483648)))))) (cond (Nat.ble 178 k) (cond (Nat.ble 183 k) (cond (Nat.ble 186 k) (cond (Nat.ble 187 k) (cond (Nat.ble 188 k) ((-2)) (cond (Nat.beq j 0) (-3) (cond (Nat.beq j 1) (-20) ((-2147483648))))) ((-2147483648))) (cond (Nat.ble 184 k) (cond (Nat.ble 185 k) ((-2)) (cond (Nat.beq j 0) (-3) (cond (Nat.beq j 1) (-20) ((-2147483648))))) ((-2147483648)))) (cond (Nat.ble 180 k) (cond (Nat.ble 181 k) (cond (Nat.ble 182 k) ((-2)) (cond (Nat.beq j 0) (-3) (cond (Nat.beq j 1) (-20) ((-2147483648))))) ((-2147483648))) (cond (Nat.ble 179 k) ((-2147483648)) (0)))) (cond (Nat.ble 173 k) ((-2147483648)) (cond (Nat.ble 170 k) (cond (Nat.ble 171 k) (0) ((-2147483648))) (cond (Nat.ble 169 k) ((-2147483648)) ((-20))))))))) (cond (Nat.ble 84 k) (cond (Nat.ble 126 k) (cond (Nat.ble 147 k) (cond (Nat.ble 157 k) (cond (Nat.ble 162 k) (cond (Nat.ble 165 k) (cond (Nat.ble 166 k) (cond (Nat.ble 167 k) ((-3)) (cond (Nat.beq j 0) 0 (cond (Nat.beq j 5) 1 (cond (Nat.beq j 6) 0 (cond (Nat.beq j 15) 0 ((-2147483648))))))) (cond (Nat.beq j 2) 0 ((-2147483648)))) (cond (Nat.ble 163 k) (cond (Nat.ble 164 k) (cond (Nat.beq j 0) 0 (cond (Nat.beq j 4) 0 (cond (Nat.beq j 5) 0 (cond (Nat.beq j 9) 0 ((-2147483648)))))) ((-128))) ((-2147483648)))) (cond (Nat.ble 159 k) (cond (Nat.ble 160 k) (cond (Nat.ble 161 k) (cond (Nat.beq j 2) 0 (cond (Nat.beq j 3) 0 (cond (Nat.beq j 4) 0 ((-2147483648))))) ((-2147483648))) ((-2147483648))) ((-2147483648)))) (cond (Nat.ble 152 k) (cond (Nat.ble 154 k) (cond (Nat.ble 155 k) (cond (Nat.ble 156 k) ((-128)) (cond (Nat.beq j 1) 0 ((-2147483648)))) ((-128))) ((-2147483648))) ((-2147483648)))) (cond (Nat.ble 136 k) (cond (Nat.ble 141 k) (cond (Nat.ble 144 k) (cond (Nat.ble 145 k) (0) ((-2147483648))) (cond (Nat.ble 142 k) (cond (Nat.ble 143 k) (cond (Nat.beq j 0) 0 (cond (Nat.beq j 3) 0 (cond (Nat.beq j 8) 0 (cond (Nat.beq j 13) 0 ((-2147483648)))))) ((-128))) ((-2147483648)))) ((-2147483648))) (cond (Nat.ble 131 k) (cond (Nat.ble 133 k) (cond (Nat.ble 134 k) (cond (Nat.ble 135 k) ((-2147483648)) (0)) (0)) (cond (Nat.ble 132 k) ((-2147483648)) (cond (Nat.beq j 0) 0 (cond (Nat.beq j 3) 0 (cond (Nat.beq j 8) 0 (cond (Nat.beq j 13) 0 ((-2147483648)))))))) (cond (Nat.ble 128 k) (cond (Nat.ble 129 k) (cond (Nat.ble 130 k) ((-128)) ((-2147483648))) ((-2147483648))) ((-2147483648)))))) (cond (Nat.ble 105 k) (cond (Nat.ble 115 k) (cond (Nat.ble 120 k) (cond (Nat.ble 123 k) ((-2147483648)) (cond (Nat.ble 121 k) (0) ((-2147483648)))) (cond (Nat.ble 117 k) (cond (Nat.ble 118 k) (cond (Nat.ble 119 k) (cond (Nat.beq j 0) 0 (cond (Nat.beq j 3) 0 (cond (Nat.beq j 8) 0 (cond (Nat.beq j 13) 0 ((-2147483648)))))) ((-128))) ((-2147483648))) ((-2147483648)))) (cond (Nat.ble 110 k) (cond (Nat.ble 112 k) ((-2147483648)) (cond (Nat.ble 111 k) ((-2147483648)) (0))) (cond (Nat.ble 107 k) (cond (Nat.ble 108 k) (cond (Nat.ble 109 k) (0) ((-2147483648))) (cond (Nat.beq j 0) 0 (cond (Nat.beq j 3) 0 (cond (Nat.beq j 8) 0 (cond (Nat.beq j 13) 0 ((-2147483648))))))) (cond (Nat.ble 106 k) ((-128)) ((-2147483648)))))) (cond (Nat.ble 94 k) (cond (Nat.ble 99 k) ((-2147483648)) (cond (Nat.ble 96 k) (cond (Nat.ble 97 k) (0) ((-2147483648))) (cond (Nat.ble 95 k) (cond (Nat.beq j 0) 0 (cond (Nat.beq j 3) 0 (cond (Nat.beq j 8) 0 (cond (Nat.beq j 13) 0 ((-2147483648)))))) ((-128))))) (cond (Nat.ble 89 k) ((-2147483648)) (cond (Nat.ble 86 k) (cond (Nat.ble 87 k) ((-2147483648)) (0)) (cond (Nat.ble 85 k) (0) ((-2147483648)))))))) (cond (Nat.ble 42 k) (cond (Nat.ble 63 k) (cond (Nat.ble 73 k) (cond (Nat.ble 78 k) (cond (Nat.ble 81 k) (cond (Nat.ble 82 k) (cond (Nat.ble 83 k) (cond (Nat.beq j 0) 0 (cond (Nat.beq j 3) 0 (cond (Nat.beq j 8) 0 (cond (Nat.beq j 13) 0 ((-2147483648)))))) ((-128))) ((-2147483648))) ((-2147483648))) (cond (Nat.ble 75 k) ((-2147483648)) (0))) (cond (Nat.ble 68 k) (cond (Nat.ble 70 k) (cond (Nat.ble 71 k) (cond (Nat.ble 72 k) ((-2147483648)) (cond (Nat.beq j 0) 0 (cond (Nat.beq j 3) 0 (cond (Nat.beq j 8) 0 (cond (Nat.beq j 13) 0 ((-2147483648))))))) ((-128))) ((-2147483648))) ((-2147483648)))) (cond (Nat.ble 52 k) (cond (Nat.ble 57 k) (cond (Nat.ble 60 k) (cond (Nat.ble 61 k) (0) ((-2147483648))) (cond (Nat.ble 58 k) (cond (Nat.ble 59 k) (cond (Nat.beq j 0) 0 (cond (Nat.beq j 3) 0 (cond (Nat.beq j 8) 0 (cond (Nat.beq j 13) 0 ((-2147483648)))))) ((-128))) ((-2147483648)))) ((-2147483648))) (cond (Nat.ble 47 k) (cond (Nat.ble 49 k) (cond (Nat.ble 50 k) (cond (Nat.ble 51 k) ((-2147483648)) (0)) (0)) (cond (Nat.ble 48 k) ((-2147483648)) (cond (Nat.beq j 0) 0 (cond (Nat.beq j 3) 0 (cond (Nat.beq j 8) 0 (cond (Nat.beq j 13) 0 ((-2147483648)))))))) (cond (Nat.ble 44 k) (cond (Nat.ble 45 k) (cond (Nat.ble 46 k) ((-128)) ((-2147483648))) ((-2147483648))) ((-2147483648)))))) (cond (Nat.ble 21 k) (cond (Nat.ble 31 k) (cond (Nat.ble 36 k) (cond (Nat.ble 39 k) ((-2147483648)) (cond (Nat.ble 37 k) (0) ((-2147483648)))) (cond (Nat.ble 33 k) (cond (Nat.ble 34 k) (cond (Nat.ble 35 k) (cond (Nat.beq j 0) 0 (cond (Nat.beq j 3) 0 (cond (Nat.beq j 8) 0 (cond (Nat.beq j 13) 0 ((-2147483648)))))) (0)) ((-2147483648))) (cond (Nat.ble 32 k) ((-2147483648)) (cond (Nat.beq j 1) 0 (cond (Nat.beq j 2) 0 ((-2147483648))))))) (cond (Nat.ble 26 k) (cond (Nat.ble 28 k) (cond (Nat.ble 29 k) (cond (Nat.ble 30 k) ((-128)) ((-2147483648))) ((-2147483648))) ((-2147483648))) (cond (Nat.ble 23 k) ((-2147483648)) (0)))) (cond (Nat.ble 10 k) (cond (Nat.ble 15 k) (cond (Nat.ble 18 k) (cond (Nat.ble 19 k) (cond (Nat.ble 20 k) ((-2147483648)) (cond (Nat.beq j 0) 0 (cond (Nat.beq j 3) 0 (cond (Nat.beq j 8) 0 (cond (Nat.beq j 13) 0 ((-2147483648))))))) ((-128))) ((-2147483648))) (cond (Nat.ble 12 k) ((-2147483648)) (cond (Nat.ble 11 k) ((-2147483648)) (0)))) (cond (Nat.ble 5 k) (cond (Nat.ble 7 k) (cond (Nat.ble 8 k) (cond (Nat.ble 9 k) (0) ((-2147483648))) (cond (Nat.beq j 0) 0 (cond (Nat.beq j 3) 0 (cond (Nat.beq j 8) 0 (cond (Nat.beq j 13) 0 ((-2147483648))))))) (cond (Nat.ble 6 k) (cond (Nat.beq j 10) 0 ((-2147483648))) ((-2147483648)))) ((-2147483648))))))))
def cHi (k j : Nat) : Int := cond (Nat.ble 336 k) 2147483647 (cond (Nat.ble 168 k) (cond (Nat.ble 252 k) (cond (Nat.ble 294 k) (cond (Nat.ble 315 k) (cond (Nat.ble 325 k) (cond (Nat.ble 330 k) (cond (Nat.ble 333 k) (cond (Nat.ble 334 k) (cond (Nat.ble 335 k) (127) (2147483647)) (2147483647)) (2147483647)) (cond (Nat.ble 327 k) (2147483647) (cond (Nat.ble 326 k) (20) (cond (Nat.beq j 0) 1 (2147483647))))) (cond (Nat.ble 320 k) (cond (Nat.ble 322 k) (cond (Nat.ble 323 k) (cond (Nat.ble 324 k) (2147483647) (1)) (2147483647)) (2147483647)) (cond (Nat.ble 317 k) (2147483647) (cond (Nat.ble 316 k) (2147483647) (59))))) (cond (Nat.ble 304 k) (cond (Nat.ble 309 k) (cond (Nat.ble 312 k) (cond (Nat.ble 313 k) (cond (Nat.ble 314 k) (cond (Nat.beq j 0) 3 (cond (Nat.beq j 1) 20 (2147483647))) (2147483647)) (59)) (cond (Nat.ble 310 k) (cond (Nat.ble 311 k) (cond (Nat.beq j 0) 3 (cond (Nat.beq j 1) 20 (2147483647))) (2147483647)) (59))) (cond (Nat.ble 306 k) (cond (Nat.ble 307 k) (cond (Nat.ble 308 k) (cond (Nat.beq j 0) 3 (cond (Nat.beq j 1) 20 (2147483647))) (2147483647)) (59)) (cond (Nat.ble 305 k) (cond (Nat.beq j 0) 3 (cond (Nat.beq j 1) 20 (2147483647))) (2147483647)))) (cond (Nat.ble 299 k) (cond (Nat.ble 301 k) (cond (Nat.ble 302 k) (cond (Nat.ble 303 k) (59) (cond (Nat.beq j 0) 3 (cond (Nat.beq j 1) 20 (2147483647)))) (2147483647)) (cond (Nat.ble 300 k) (59) (cond (Nat.beq j 0) 3 (cond (Nat.beq j 1) 20 (2147483647))))) (cond (Nat.ble 296 k) (cond (Nat.ble 297 k) (cond (Nat.ble 298 k) (2147483647) (59)) (cond (Nat.beq j 0) 3 (cond (Nat.beq j 1) 20 (2147483647)))) (cond (Nat.ble 295 k) (2147483647) (59)))))) (cond (Nat.ble 273 k) (cond (Nat.ble 283 k) (cond (Nat.ble 288 k) (cond (Nat.ble 291 k) (cond (Nat.ble 292 k) (cond (Nat.ble 293 k) (cond (Nat.beq j 0) 3 (cond (Nat.beq j 1) 20 (2147483647))) (2147483647)) (59)) (cond (Nat.ble 289 k) (cond (Nat.ble 290 k) (cond (Nat.beq j 0) 3 (cond (Nat.beq j 1) 20 (2147483647))) (2147483647)) (59))) (cond (Nat.ble 285 k) (cond (Nat.ble 286 k) (cond (Nat.ble 287 k) (cond (Nat.beq j 0) 3 (cond (Nat.beq j 1) 20 (2147483647))) (2147483647)) (59)) (cond (Nat.ble 284 k) (cond (Nat.beq j 0) 3 (cond (Nat.beq j 1) 20 (2147483647))) (2147483647)))) (cond (Nat.ble 278 k) (cond (Nat.ble 280 k) (cond (Nat.ble 281 k) (cond (Nat.ble 282 k) (59) (cond (Nat.beq j 0) 3 (cond (Nat.beq j 1) 20 (2147483647)))) (2147483647)) (cond (Nat.ble 279 k) (59) (cond (Nat.beq j 0) 3 (cond (Nat.beq j 1) 20 (2147483647))))) (cond (Nat.ble 275 k) (cond (Nat.ble 276 k) (cond (Nat.ble 277 k) (2147483647) (59)) (cond (Nat.beq j 0) 3 (cond (Nat.beq j 1) 20 (2147483647)))) (cond (Nat.ble 274 k) (2147483647) (59))))) (cond (Nat.ble 262 k) (cond (Nat.ble 267 k) (cond (Nat.ble 270 k) (cond (Nat.ble 271 k) (cond (Nat.ble 272 k) (cond (Nat.beq j 0) 3 (cond (Nat.beq j 1) 20 (2147483647))) (2147483647)) (59)) (cond (Nat.ble 268 k) (cond (Nat.ble 269 k) (cond (Nat.beq j 0) 3 (cond (Nat.beq j 1) 20 (2147483647))) (2147483647)) (59))) (cond (Nat.ble 264 k) (cond (Nat.ble 265 k) (cond (Nat.ble 266 k) (cond (Nat.beq j 0) 3 (cond (Nat.beq j 1) 20 (2147483647))) (2147483647)) (59)) (cond (Nat.ble 263 k) (cond (Nat.beq j 0) 3 (cond (Nat.beq j 1) 20 (2147483647))) (2147483647)))) (cond (Nat.ble 257 k) (cond (Nat.ble 259 k) (cond (Nat.ble 260 k) (cond (Nat.ble 261 k) (59) (cond (Nat.beq j 0) 3 (cond (Nat.beq j 1) 20 (2147483647)))) (2147483647)) (cond (Nat.ble 258 k) (59) (cond (Nat.beq j 0) 3 (cond (Nat.beq j 1) 20 (2147483647))))) (cond (Nat.ble 254 k) (cond (Nat.ble 255 k) (2147483647) (127)) (2147483647)))))) (cond (Nat.ble 210 k) (cond (Nat.ble 231 k) (cond (Nat.ble 241 k) (cond (Nat.ble 246 k) (cond (Nat.ble 249 k) (2147483647) (cond (Nat.ble 247 k) (cond (Nat.ble 248 k) (7) (59)) (2147483647))) (cond (Nat.ble 243 k) (cond (Nat.ble 244 k) (cond (Nat.ble 245 k) (2147483647) (20)) (3)) (cond (Nat.ble 242 k) (cond (Nat.beq j 0) 287 (cond (Nat.beq j 5) 2147483647 (cond (Nat.beq j 6) 60 (cond (Nat.beq j 15) 60 (2147483647))))) (cond (Nat.beq j 2) 20 (2147483647))))) (cond (Nat.ble 236 k) (cond (Nat.ble 238 k) (cond (Nat.ble 239 k) (cond (Nat.ble 240 k) (2147483647) (59)) (cond (Nat.beq j 0) 3 (cond (Nat.beq j 1) 20 (2147483647)))) (cond (Nat.ble 237 k) (2147483647) (59))) (cond (Nat.ble 233 k) (cond (Nat.ble 234 k) (cond (Nat.ble 235 k) (cond (Nat.beq j 0) 3 (cond (Nat.beq j 1) 20 (2147483647))) (2147483647)) (59)) (cond (Nat.ble 232 k) (cond (Nat.beq j 0) 3 (cond (Nat.beq j 1) 20 (2147483647))) (2147483647))))) (cond (Nat.ble 220 k) (cond (Nat.ble 225 k) (cond (Nat.ble 228 k) (cond (Nat.ble 229 k) (cond (Nat.ble 230 k) (59) (cond (Nat.beq j 0) 3 (cond (Nat.beq j 1) 20 (2147483647)))) (2147483647)) (cond (Nat.ble 226 k) (cond (Nat.ble 227 k) (59) (cond (Nat.beq j 0) 3 (cond (Nat.beq j 1) 20 (2147483647)))) (2147483647))) (cond (Nat.ble 222 k) (cond (Nat.ble 223 k) (cond (Nat.ble 224 k) (59) (cond (Nat.beq j 0) 3 (cond (Nat.beq j 1) 20 (2147483647)))) (2147483647)) (cond (Nat.ble 221 k) (59) (cond (Nat.beq j 0) 3 (cond (Nat.beq j 1) 20 (2147483647)))))) (cond (Nat.ble 215 k) (cond (Nat.ble 217 k) (cond (Nat.ble 218 k) (cond (Nat.ble 219 k) (2147483647) (59)) (cond (Nat.beq j 0) 3 (cond (Nat.beq j 1) 20 (2147483647)))) (cond (Nat.ble 216 k) (2147483647) (59))) (cond (Nat.ble 212 k) (cond (Nat.ble 213 k) (cond (Nat.ble 214 k) (cond (Nat.beq j 0) 3 (cond (Nat.beq j 1) 20 (2147483647))) (2147483647)) (59)) (cond (Nat.ble 211 k) (cond (Nat.beq j 0) 3 (cond (Nat.beq j 1) 20 (2147483647))) (2147483647)))))) (cond (Nat.ble 189 k) (cond (Nat.ble 199 k) (cond (Nat.ble 204 k) (cond (Nat.ble 207 k) (cond (Nat.ble 208 k) (cond (Nat.ble 209 k) (59) (cond (Nat.beq j 0) 3 (cond (Nat.beq j 1) 20 (2147483647)))) (2147483647)) (cond (Nat.ble 205 k) (cond (Nat.ble 206 k) (59) (cond (Nat.beq j 0) 3 (cond (Nat.beq j 1) 20 (2147483647)))) (2147483647))) (cond (Nat.ble 201 k) (cond (Nat.ble 202 k) (cond (Nat.ble 203 k) (59) (cond (Nat.beq j 0) 3 (cond (Nat.beq j 1) 20 (2147483647)))) (2147483647)) (cond (Nat.ble 200 k) (59) (cond (Nat.beq j 0) 3 (cond (Nat.beq j 1) 20 (2147483647)))))) (cond (Nat.ble 194 k) (cond (Nat.ble 196 k) (cond (Nat.ble 197 k) (cond (Nat.ble 198 k) (2147483647) (59)) (cond (Nat.beq j 0) 3 (cond (Nat.beq j 1) 20 (2147483647)))) (cond (Nat.ble 195 k) (2147483647) (59))) (cond (Nat.ble 191 k) (cond (Nat.ble 192 k) (cond (Nat.ble 193 k) (cond (Nat.beq j 0) 3 (cond (Nat.beq j 1) 20 (2147483647))) (2147483647)) (59)) (cond (Nat.ble 190 k) (cond (Nat.beq j 0) 3 (cond (Nat.beq j 1) 20 (2147483647))) (2147483647))))) (cond (Nat.ble 178 k) (cond (Nat.ble 183 k) (cond (Nat.ble 186 k) (cond (Nat.ble 187 k) (cond (Nat.ble 188 k) (59) (cond (Nat.beq j 0) 3 (cond (Nat.beq j 1) 20 (2147483647)))) (2147483647)) (cond (Nat.ble 184 k) (cond (Nat.ble 185 k) (59) (cond (Nat.beq j 0) 3 (cond (Nat.beq j 1) 20 (2147483647)))) (2147483647))) (cond (Nat.ble 180 k) (cond (Nat.ble 181 k) (cond (Nat.ble 182 k) (59) (cond (Nat.beq j 0) 3 (cond (Nat.beq j 1) 20 (2147483647)))) (2147483647)) (cond (Nat.ble 179 k) (2147483647) (127)))) (cond (Nat.ble 173 k) (2147483647) (cond (Nat.ble 170 k) (cond (Nat.ble 171 k) (cond (Nat.ble 172 k) (7) (59)) (2147483647)) (cond (Nat.ble 169 k) (2147483647) (20)))))))) (cond (Nat.ble 84 k) (cond (Nat.ble 126 k) (cond (Nat.ble 147 k) (cond (Nat.ble 157 k) (cond (Nat.ble 162 k) (cond (Nat.ble 165 k) (cond (Nat.ble 166 k) (cond (Nat.ble 167 k) (3) (cond (Nat.beq j 0) 287 (cond (Nat.beq j 5) 2147483647 (cond (Nat.beq j 6) 60 (cond (Nat.beq j 15) 60 (2147483647)))))) (cond (Nat.beq j 2) 20 (2147483647))) (cond (Nat.ble 163 k) (cond (Nat.ble 164 k) (cond (Nat.beq j 0) 1 (cond (Nat.beq j 4) 20 (cond (Nat.beq j 5) 12 (cond (Nat.beq j 9) 20 (2147483647))))) (127)) (2147483647))) (cond (Nat.ble 159 k) (cond (Nat.ble 160 k) (cond (Nat.ble 161 k) (cond (Nat.beq j 2) 500 (cond (Nat.beq j 3) 500 (cond (Nat.beq j 4) 30 (2147483647)))) (2147483647)) (2147483647)) (2147483647))) (cond (Nat.ble 152 k) (cond (Nat.ble 154 k) (cond (Nat.ble 155 k) (cond (Nat.ble 156 k) (127) (cond (Nat.beq j 1) 500 (2147483647))) (127)) (2147483647)) (2147483647))) (cond (Nat.ble 136 k) (cond (Nat.ble 141 k) (cond (Nat.ble 144 k) (cond (Nat.ble 145 k) (cond (Nat.ble 146 k) (7) (1)) (2147483647)) (cond (Nat.ble 142 k) (cond (Nat.ble 143 k) (cond (Nat.beq j 0) 8 (cond (Nat.beq j 3) 60 (cond (Nat.beq j 8) 12 (cond (Nat.beq j 13) 500 (2147483647))))) (127)) (2147483647))) (2147483647)) (cond (Nat.ble 131 k) (cond (Nat.ble 133 k) (cond (Nat.ble 134 k) (cond (Nat.ble 135 k) (2147483647) (7)) (1)) (cond (Nat.ble 132 k) (2147483647) (cond (Nat.beq j 0) 8 (cond (Nat.beq j 3) 60 (cond (Nat.beq j 8) 12 (cond (Nat.beq j 13) 500 (2147483647))))))) (cond (Nat.ble 128 k) (cond (Nat.ble 129 k) (cond (Nat.ble 130 k) (127) (2147483647)) (2147483647)) (2147483647))))) (cond (Nat.ble 105 k) (cond (Nat.ble 115 k) (cond (Nat.ble 120 k) (cond (Nat.ble 123 k) (2147483647) (cond (Nat.ble 121 k) (cond (Nat.ble 122 k) (7) (1)) (2147483647))) (cond (Nat.ble 117 k) (cond (Nat.ble 118 k) (cond (Nat.ble 119 k) (cond (Nat.beq j 0) 8 (cond (Nat.beq j 3) 60 (cond (Nat.beq j 8) 12 (cond (Nat.beq j 13) 500 (2147483647))))) (127)) (2147483647)) (2147483647))) (cond (Nat.ble 110 k) (cond (Nat.ble 112 k) (2147483647) (cond (Nat.ble 111 k) (2147483647) (7))) (cond (Nat.ble 107 k) (cond (Nat.ble 108 k) (cond (Nat.ble 109 k) (1) (2147483647)) (cond (Nat.beq j 0) 8 (cond (Nat.beq j 3) 60 (cond (Nat.beq j 8) 12 (cond (Nat.beq j 13) 500 (2147483647)))))) (cond (Nat.ble 106 k) (127) (2147483647))))) (cond (Nat.ble 94 k) (cond (Nat.ble 99 k) (2147483647) (cond (Nat.ble 96 k) (cond (Nat.ble 97 k) (cond (Nat.ble 98 k) (7) (1)) (2147483647)) (cond (Nat.ble 95 k) (cond (Nat.beq j 0) 8 (cond (Nat.beq j 3) 60 (cond (Nat.beq j 8) 12 (cond (Nat.beq j 13) 500 (2147483647))))) (127)))) (cond (Nat.ble 89 k) (2147483647) (cond (Nat.ble 86 k) (cond (Nat.ble 87 k) (2147483647) (7)) (cond (Nat.ble 85 k) (1) (2147483647))))))) (cond (Nat.ble 42 k) (cond (Nat.ble 63 k) (cond (Nat.ble 73 k) (cond (Nat.ble 78 k) (cond (Nat.ble 81 k) (cond (Nat.ble 82 k) (cond (Nat.ble 83 k) (cond (Nat.beq j 0) 8 (cond (Nat.beq j 3) 60 (cond (Nat.beq j 8) 12 (cond (Nat.beq j 13) 500 (2147483647))))) (127)) (2147483647)) (2147483647)) (cond (Nat.ble 75 k) (2147483647) (cond (Nat.ble 74 k) (7) (1)))) (cond (Nat.ble 68 k) (cond (Nat.ble 70 k) (cond (Nat.ble 71 k) (cond (Nat.ble 72 k) (2147483647) (cond (Nat.beq j 0) 8 (cond (Nat.beq j 3) 60 (cond (Nat.beq j 8) 12 (cond (Nat.beq j 13) 500 (2147483647)))))) (127)) (2147483647)) (2147483647))) (cond (Nat.ble 52 k) (cond (Nat.ble 57 k) (cond (Nat.ble 60 k) (cond (Nat.ble 61 k) (cond (Nat.ble 62 k) (7) (1)) (2147483647)) (cond (Nat.ble 58 k) (cond (Nat.ble 59 k) (cond (Nat.beq j 0) 8 (cond (Nat.beq j 3) 60 (cond (Nat.beq j 8) 12 (cond (Nat.beq j 13) 500 (2147483647))))) (127)) (2147483647))) (2147483647)) (cond (Nat.ble 47 k) (cond (Nat.ble 49 k) (cond (Nat.ble 50 k) (cond (Nat.ble 51 k) (2147483647) (7)) (1)) (cond (Nat.ble 48 k) (2147483647) (cond (Nat.beq j 0) 8 (cond (Nat.beq j 3) 60 (cond (Nat.beq j 8) 12 (cond (Nat.beq j 13) 500 (2147483647))))))) (cond (Nat.ble 44 k) (cond (Nat.ble 45 k) (cond (Nat.ble 46 k) (127) (2147483647)) (2147483647)) (2147483647))))) (cond (Nat.ble 21 k) (cond (Nat.ble 31 k) (cond (Nat.ble 36 k) (cond (Nat.ble 39 k) (2147483647) (cond (Nat.ble 37 k) (cond (Nat.ble 38 k) (7) (1)) (2147483647))) (cond (Nat.ble 33 k) (cond (Nat.ble 34 k) (cond (Nat.ble 35 k) (cond (Nat.beq j 0) 8 (cond (Nat.beq j 3) 60 (cond (Nat.beq j 8) 12 (cond (Nat.beq j 13) 500 (2147483647))))) (1)) (2147483647)) (cond (Nat.ble 32 k) (2147483647) (cond (Nat.beq j 1) 7 (cond (Nat.beq j 2) 8 (2147483647)))))) (cond (Nat.ble 26 k) (cond (Nat.ble 28 k) (cond (Nat.ble 29 k) (cond (Nat.ble 30 k) (127) (2147483647)) (2147483647)) (2147483647)) (cond (Nat.ble 23 k) (2147483647) (cond (Nat.ble 22 k) (7) (1))))) (cond (Nat.ble 10 k) (cond (Nat.ble 15 k) (cond (Nat.ble 18 k) (cond (Nat.ble 19 k) (cond (Nat.ble 20 k) (2147483647) (cond (Nat.beq j 0) 8 (cond (Nat.beq j 3) 60 (cond (Nat.beq j 8) 12 (cond (Nat.beq j 13) 500 (2147483647)))))) (127)) (2147483647)) (cond (Nat.ble 12 k) (2147483647) (cond (Nat.ble 11 k) (2147483647) (7)))) (cond (Nat.ble 5 k) (cond (Nat.ble 7 k) (cond (Nat.ble 8 k) (cond (Nat.ble 9 k) (1) (2147483647)) (cond (Nat.beq j 0) 8 (cond (Nat.beq j 3) 60 (cond (Nat.beq j 8) 12 (cond (Nat.beq j 13) 500 (2147483647)))))) (cond (Nat.ble 6 k) (cond (Nat.beq j 10) 128 (2147483647)) (2147483647))) (2147483647)))))))
theorem lin9999 : (-9999 : Int32).toInt = (-9999) := by decide
theorem lin50 : (-50 : Int32).toInt = (-50) := by decide
theorem lin5 : (-5 : Int32).toInt = (-5) := by decide
theorem lin2 : (-2 : Int32).toInt = (-2) := by decide
theorem li44 : (44 : Int32).toInt = 44 := by decide
theorem li45 : (45 : Int32).toInt = 45 := by decide
theorem li48 : (48 : Int32).toInt = 48 := by decide
theorem li57 : (57 : Int32).toInt = 57 := by decide
theorem li59 : (59 : Int32).toInt = 59 := by decide
theorem li60 : (60 : Int32).toInt = 60 := by decide
theorem li255 : (255 : Int32).toInt = 255 := by decide
theorem li500 : (500 : Int32).toInt = 500 := by decide
theorem li9999 : (9999 : Int32).toInt = 9999 := by decide
theorem li10000 : (10000 : Int32).toInt = 10000 := by decide
theorem mf25 : zmf 25 3 3 6 4 := by unfold zmf; decide +kernel
theorem mf26 : zmf 26 1 7 0 1 := by unfold zmf; decide +kernel
theorem mf27 : zmf 27 1 7 0 1 := by unfold zmf; decide +kernel
theorem mf28 : zmf 28 3 3 5 7 := by unfold zmf; decide +kernel
theorem mf29 : zmf 29 1 7 0 1 := by unfold zmf; decide +kernel
theorem mf30 : zmf 30 1 7 1 2 := by unfold zmf; decide +kernel
theorem mf31 : zmf 31 1 7 0 1 := by unfold zmf; decide +kernel
theorem mf32 : zmf 32 1 3 0 1 := by unfold zmf; decide +kernel
theorem mf33 : zmf 33 2 3 0 2 := by unfold zmf; decide +kernel
theorem mf34 : zmf 34 2 7 0 2 := by unfold zmf; decide +kernel
theorem mf35 : zmf 35 1 7 2 4 := by unfold zmf; decide +kernel
theorem mf36 : zmf 36 1 11 0 1 := by unfold zmf; decide +kernel
theorem mf37 : zmf 37 1 7 0 1 := by unfold zmf; decide +kernel
theorem mf38 : zmf 38 5 3 2 5 := by unfold zmf; decide +kernel
theorem mf40 : zmf 40 3 3 1 3 := by unfold zmf; decide +kernel
theorem mf42 : zmf 42 1 11 0 1 := by unfold zmf; decide +kernel
theorem mf43 : zmf 43 2 3 1 2 := by unfold zmf; decide +kernel
theorem mf44 : zmf 44 2 3 1 2 := by unfold zmf; decide +kernel
theorem mf45 : zmf 45 1 3 0 1 := by unfold zmf; decide +kernel
theorem mf46 : zmf 46 1 7 0 1 := by unfold zmf; decide +kernel
theorem mf47 : zmf 47 2 7 1 2 := by unfold zmf; decide +kernel
theorem mf48 : zmf 48 3 3 4 4 := by unfold zmf; decide +kernel
theorem mf49 : zmf 49 2 6 0 2 := by unfold zmf; decide +kernel
theorem mf50 : zmf 50 5 6 2 5 := by unfold zmf; decide +kernel
theorem mf52 : zmf 52 4 6 3 6 := by unfold zmf; decide +kernel
theorem mf53 : zmf 53 3 6 1 3 := by unfold zmf; decide +kernel
theorem mf54 : zmf 54 2 99 0 3 := by unfold zmf; decide +kernel
theorem mf55 : zmf 55 3 6 1 3 := by unfold zmf; decide +kernel
theorem mf83 : zmf 83 2 3 4 3 := by unfold zmf; decide +kernel
theorem mf84 : zmf 84 3 3 3 7 := by unfold zmf; decide +kernel
theorem mf85 : zmf 85 1 3 0 1 := by unfold zmf; decide +kernel
theorem mr25 : (mt 25).2.2.2.1 = some .int := by decide +kernel
theorem mr26 : (mt 26).2.2.2.1 = none := by decide +kernel
theorem mr27 : (mt 27).2.2.2.1 = some .boolean := by decide +kernel
theorem mr28 : (mt 28).2.2.2.1 = some .boolean := by decide +kernel
theorem mr29 : (mt 29).2.2.2.1 = some .int := by decide +kernel
theorem mr30 : (mt 30).2.2.2.1 = some .int := by decide +kernel
theorem mr31 : (mt 31).2.2.2.1 = some .int := by decide +kernel
theorem mr32 : (mt 32).2.2.2.1 = some .int := by decide +kernel
theorem mr33 : (mt 33).2.2.2.1 = some .boolean := by decide +kernel
theorem mr34 : (mt 34).2.2.2.1 = some .boolean := by decide +kernel
theorem mr35 : (mt 35).2.2.2.1 = some .boolean := by decide +kernel
theorem mr36 : (mt 36).2.2.2.1 = some .boolean := by decide +kernel
theorem mr37 : (mt 37).2.2.2.1 = some .int := by decide +kernel
theorem mr38 : (mt 38).2.2.2.1 = some .boolean := by decide +kernel
theorem mr40 : (mt 40).2.2.2.1 = some .boolean := by decide +kernel
theorem mr42 : (mt 42).2.2.2.1 = some .boolean := by decide +kernel
theorem mr43 : (mt 43).2.2.2.1 = some .boolean := by decide +kernel
theorem mr44 : (mt 44).2.2.2.1 = some .boolean := by decide +kernel
theorem mr45 : (mt 45).2.2.2.1 = some .int := by decide +kernel
theorem mr46 : (mt 46).2.2.2.1 = some .int := by decide +kernel
theorem mr47 : (mt 47).2.2.2.1 = some .boolean := by decide +kernel
theorem mr48 : (mt 48).2.2.2.1 = some .boolean := by decide +kernel
theorem mr49 : (mt 49).2.2.2.1 = some .boolean := by decide +kernel
theorem mr50 : (mt 50).2.2.2.1 = some .int := by decide +kernel
theorem mr52 : (mt 52).2.2.2.1 = some .boolean := by decide +kernel
theorem mr53 : (mt 53).2.2.2.1 = some .int := by decide +kernel
theorem mr54 : (mt 54).2.2.2.1 = some .int := by decide +kernel
theorem mr55 : (mt 55).2.2.2.1 = some .int := by decide +kernel
theorem mr83 : (mt 83).2.2.2.1 = some .int := by decide +kernel
theorem mr84 : (mt 84).2.2.2.1 = some .boolean := by decide +kernel
theorem mr85 : (mt 85).2.2.2.1 = some .int := by decide +kernel
theorem t25_0 : zT 25 0 = some (.aload_n 1, 1, 1, 0, 0, 0) := by decide +kernel
theorem t25_1 : zT 25 1 = some (.invokevirtual 21, 3, 26, 0, 0, 689) := by decide +kernel
theorem t25_4 : zT 25 4 = some (.iconst 0, 1, 0, 0, 0, 0) := by decide +kernel
theorem t25_5 : zT 25 5 = some (.istore_n 3, 1, 3, 0, 0, 0) := by decide +kernel
theorem t25_6 : zT 25 6 = some (.iload_n 3, 1, 3, 0, 0, 0) := by decide +kernel
theorem t25_7 : zT 25 7 = some (.sipush 500, 3, 0, 0, 500, 0) := by decide +kernel
theorem t25_10 : zT 25 10 = some (.if_icmp .ge 27, 3, 37, 0, 0, 0) := by decide +kernel
theorem t25_13 : zT 25 13 = some (.aload_n 1, 1, 1, 0, 0, 0) := by decide +kernel
theorem t25_14 : zT 25 14 = some (.invokevirtual 26, 3, 27, 0, 0, 693) := by decide +kernel
theorem t25_17 : zT 25 17 = some (.ifCond .ne 20, 3, 37, 0, 0, 0) := by decide +kernel
theorem t25_20 : zT 25 20 = some (.aload_n 0, 1, 0, 0, 0, 0) := by decide +kernel
theorem t25_21 : zT 25 21 = some (.aload_n 1, 1, 1, 0, 0, 0) := by decide +kernel
theorem t25_22 : zT 25 22 = some (.aload_n 2, 1, 2, 0, 0, 0) := by decide +kernel
theorem t25_23 : zT 25 23 = some (.invokevirtual 30, 3, 28, 0, 0, 697) := by decide +kernel
theorem t25_26 : zT 25 26 = some (.ifCond .ne 5, 3, 31, 0, 0, 0) := by decide +kernel
theorem t25_29 : zT 25 29 = some (.iconst (-1), 1, 0, 0, (-1), 0) := by decide +kernel
theorem t25_30 : zT 25 30 = some (.ireturn, 1, 0, 0, 0, 0) := by decide +kernel
theorem t25_31 : zT 25 31 = some (.iinc 3 1, 3, 0, 0, 0, 0) := by decide +kernel
theorem t25_34 : zT 25 34 = some (.goto (-28), 3, 6, 0, 0, 0) := by decide +kernel
theorem t25_37 : zT 25 37 = some (.iload_n 3, 1, 3, 0, 0, 0) := by decide +kernel
theorem t25_38 : zT 25 38 = some (.ireturn, 1, 0, 0, 0, 0) := by decide +kernel
theorem t26_0 : zT 26 0 = some (.aload_n 0, 1, 0, 0, 0, 0) := by decide +kernel
theorem t26_1 : zT 26 1 = some (.iconst 0, 1, 0, 0, 0, 0) := by decide +kernel
theorem t26_2 : zT 26 2 = some (.putfield 19, 3, 7, 2, 0, 262) := by decide +kernel
theorem t26_5 : zT 26 5 = some (.aload_n 0, 1, 0, 0, 0, 0) := by decide +kernel
theorem t26_6 : zT 26 6 = some (.iconst (-1), 1, 0, 0, (-1), 0) := by decide +kernel
theorem t26_7 : zT 26 7 = some (.putfield 22, 3, 7, 3, 0, 263) := by decide +kernel
theorem t26_10 : zT 26 10 = some (.return_, 1, 0, 0, 0, 0) := by decide +kernel
theorem t27_0 : zT 27 0 = some (.aload_n 0, 1, 0, 0, 0, 0) := by decide +kernel
theorem t27_1 : zT 27 1 = some (.getfield 19, 3, 7, 2, 0, 262) := by decide +kernel
theorem t27_4 : zT 27 4 = some (.aload_n 0, 1, 0, 0, 0, 0) := by decide +kernel
theorem t27_5 : zT 27 5 = some (.getfield 15, 3, 7, 1, 0, 261) := by decide +kernel
theorem t27_8 : zT 27 8 = some (.if_icmp .lt 7, 3, 15, 0, 0, 0) := by decide +kernel
theorem t27_11 : zT 27 11 = some (.iconst 1, 1, 0, 0, 1, 0) := by decide +kernel
theorem t27_12 : zT 27 12 = some (.goto 4, 3, 16, 0, 0, 0) := by decide +kernel
theorem t27_15 : zT 27 15 = some (.iconst 0, 1, 0, 0, 0, 0) := by decide +kernel
theorem t27_16 : zT 27 16 = some (.ireturn, 1, 0, 0, 0, 0) := by decide +kernel
theorem t28_0 : zT 28 0 = some (.aload_n 1, 1, 1, 0, 0, 0) := by decide +kernel
theorem t28_1 : zT 28 1 = some (.invokevirtual 34, 3, 29, 0, 0, 701) := by decide +kernel
theorem t28_4 : zT 28 4 = some (.istore_n 3, 1, 3, 0, 0, 0) := by decide +kernel
theorem t28_5 : zT 28 5 = some (.aload_n 1, 1, 1, 0, 0, 0) := by decide +kernel
theorem t28_6 : zT 28 6 = some (.invokevirtual 38, 3, 30, 0, 0, 705) := by decide +kernel
theorem t28_9 : zT 28 9 = some (.istore 4, 2, 0, 0, 0, 0) := by decide +kernel
theorem t28_11 : zT 28 11 = some (.iload 4, 2, 0, 0, 0, 0) := by decide +kernel
theorem t28_13 : zT 28 13 = some (.invokestatic 41, 3, 32, 1, 0, 713) := by decide +kernel
theorem t28_16 : zT 28 16 = some (.istore 5, 2, 0, 0, 0, 0) := by decide +kernel
theorem t28_18 : zT 28 18 = some (.iload 5, 2, 0, 0, 0, 0) := by decide +kernel
theorem t28_20 : zT 28 20 = some (.ifCond .eq 12, 3, 32, 0, 0, 0) := by decide +kernel
theorem t28_23 : zT 28 23 = some (.iload 4, 2, 0, 0, 0, 0) := by decide +kernel
theorem t28_25 : zT 28 25 = some (.aload_n 2, 1, 2, 0, 0, 0) := by decide +kernel
theorem t28_26 : zT 28 26 = some (.invokestatic 45, 3, 33, 1, 0, 716) := by decide +kernel
theorem t28_29 : zT 28 29 = some (.ifCond .eq 9, 3, 38, 0, 0, 0) := by decide +kernel
theorem t28_32 : zT 28 32 = some (.aload_n 1, 1, 1, 0, 0, 0) := by decide +kernel
theorem t28_33 : zT 28 33 = some (.iload_n 3, 1, 3, 0, 0, 0) := by decide +kernel
theorem t28_34 : zT 28 34 = some (.invokevirtual 49, 3, 34, 0, 0, 719) := by decide +kernel
theorem t28_37 : zT 28 37 = some (.ireturn, 1, 0, 0, 0, 0) := by decide +kernel
theorem t28_38 : zT 28 38 = some (.iconst 0, 1, 0, 0, 0, 0) := by decide +kernel
theorem t28_39 : zT 28 39 = some (.istore 6, 2, 0, 0, 0, 0) := by decide +kernel
theorem t28_41 : zT 28 41 = some (.iload 6, 2, 0, 0, 0, 0) := by decide +kernel
theorem t28_43 : zT 28 43 = some (.iload 5, 2, 0, 0, 0, 0) := by decide +kernel
theorem t28_45 : zT 28 45 = some (.if_icmp .ge 79, 3, 124, 0, 0, 0) := by decide +kernel
theorem t28_48 : zT 28 48 = some (.aload_n 1, 1, 1, 0, 0, 0) := by decide +kernel
theorem t28_49 : zT 28 49 = some (.invokevirtual 53, 3, 35, 0, 0, 723) := by decide +kernel
theorem t28_52 : zT 28 52 = some (.ifCond .ne 5, 3, 57, 0, 0, 0) := by decide +kernel
theorem t28_55 : zT 28 55 = some (.iconst 0, 1, 0, 0, 0, 0) := by decide +kernel
theorem t28_56 : zT 28 56 = some (.ireturn, 1, 0, 0, 0, 0) := by decide +kernel
theorem t28_57 : zT 28 57 = some (.aload_n 0, 1, 0, 0, 0, 0) := by decide +kernel
theorem t28_58 : zT 28 58 = some (.iload 4, 2, 0, 0, 0, 0) := by decide +kernel
theorem t28_60 : zT 28 60 = some (.iload 6, 2, 0, 0, 0, 0) := by decide +kernel
theorem t28_62 : zT 28 62 = some (.aload_n 1, 1, 1, 0, 0, 0) := by decide +kernel
theorem t28_63 : zT 28 63 = some (.invokevirtual 56, 3, 37, 0, 0, 732) := by decide +kernel
theorem t28_66 : zT 28 66 = some (.aload_n 2, 1, 2, 0, 0, 0) := by decide +kernel
theorem t28_67 : zT 28 67 = some (.invokevirtual 59, 3, 38, 0, 0, 736) := by decide +kernel
theorem t28_70 : zT 28 70 = some (.ifCond .ne 12, 3, 82, 0, 0, 0) := by decide +kernel
theorem t28_73 : zT 28 73 = some (.aload_n 1, 1, 1, 0, 0, 0) := by decide +kernel
theorem t28_74 : zT 28 74 = some (.aload_n 1, 1, 1, 0, 0, 0) := by decide +kernel
theorem t28_75 : zT 28 75 = some (.invokevirtual 63, 3, 46, 0, 0, 766) := by decide +kernel
theorem t28_78 : zT 28 78 = some (.invokevirtual 49, 3, 34, 0, 0, 719) := by decide +kernel
theorem t28_81 : zT 28 81 = some (.ireturn, 1, 0, 0, 0, 0) := by decide +kernel
theorem t28_82 : zT 28 82 = some (.aload_n 0, 1, 0, 0, 0, 0) := by decide +kernel
theorem t28_83 : zT 28 83 = some (.getfield 11, 3, 3, 0, 0, 285) := by decide +kernel
theorem t28_86 : zT 28 86 = some (.iload 6, 2, 0, 0, 0, 0) := by decide +kernel
theorem t28_88 : zT 28 88 = some (.aload_n 1, 1, 1, 0, 0, 0) := by decide +kernel
theorem t28_89 : zT 28 89 = some (.invokevirtual 56, 3, 37, 0, 0, 732) := by decide +kernel
theorem t28_92 : zT 28 92 = some (.iastore, 1, 0, 0, 0, 0) := by decide +kernel
theorem t28_93 : zT 28 93 = some (.aload_n 1, 1, 1, 0, 0, 0) := by decide +kernel
theorem t28_94 : zT 28 94 = some (.iload 6, 2, 0, 0, 0, 0) := by decide +kernel
theorem t28_96 : zT 28 96 = some (.iconst 1, 1, 0, 0, 1, 0) := by decide +kernel
theorem t28_97 : zT 28 97 = some (.iadd, 1, 0, 0, 0, 0) := by decide +kernel
theorem t28_98 : zT 28 98 = some (.iload 5, 2, 0, 0, 0, 0) := by decide +kernel
theorem t28_100 : zT 28 100 = some (.if_icmp .ge 8, 3, 108, 0, 0, 0) := by decide +kernel
theorem t28_103 : zT 28 103 = some (.bipush 44, 2, 0, 0, 44, 0) := by decide +kernel
theorem t28_105 : zT 28 105 = some (.goto 5, 3, 110, 0, 0, 0) := by decide +kernel
theorem t28_108 : zT 28 108 = some (.bipush 59, 2, 0, 0, 59, 0) := by decide +kernel
theorem t28_110 : zT 28 110 = some (.invokevirtual 66, 3, 47, 0, 0, 770) := by decide +kernel
theorem t28_113 : zT 28 113 = some (.ifCond .ne 5, 3, 118, 0, 0, 0) := by decide +kernel
theorem t28_116 : zT 28 116 = some (.iconst 0, 1, 0, 0, 0, 0) := by decide +kernel
theorem t28_117 : zT 28 117 = some (.ireturn, 1, 0, 0, 0, 0) := by decide +kernel
theorem t28_118 : zT 28 118 = some (.iinc 6 1, 3, 0, 0, 0, 0) := by decide +kernel
theorem t28_121 : zT 28 121 = some (.goto (-80), 3, 41, 0, 0, 0) := by decide +kernel
theorem t28_124 : zT 28 124 = some (.aload_n 0, 1, 0, 0, 0, 0) := by decide +kernel
theorem t28_125 : zT 28 125 = some (.iload 4, 2, 0, 0, 0, 0) := by decide +kernel
theorem t28_127 : zT 28 127 = some (.aload_n 2, 1, 2, 0, 0, 0) := by decide +kernel
theorem t28_128 : zT 28 128 = some (.invokevirtual 70, 3, 48, 0, 0, 774) := by decide +kernel
theorem t28_131 : zT 28 131 = some (.ifCond .ne 11, 3, 142, 0, 0, 0) := by decide +kernel
theorem t28_134 : zT 28 134 = some (.aload_n 1, 1, 1, 0, 0, 0) := by decide +kernel
theorem t28_135 : zT 28 135 = some (.iload_n 3, 1, 3, 0, 0, 0) := by decide +kernel
theorem t28_136 : zT 28 136 = some (.invokevirtual 49, 3, 34, 0, 0, 719) := by decide +kernel
theorem t28_139 : zT 28 139 = some (.ifCond .eq 7, 3, 146, 0, 0, 0) := by decide +kernel
theorem t28_142 : zT 28 142 = some (.iconst 1, 1, 0, 0, 1, 0) := by decide +kernel
theorem t28_143 : zT 28 143 = some (.goto 4, 3, 147, 0, 0, 0) := by decide +kernel
theorem t28_146 : zT 28 146 = some (.iconst 0, 1, 0, 0, 0, 0) := by decide +kernel
theorem t28_147 : zT 28 147 = some (.ireturn, 1, 0, 0, 0, 0) := by decide +kernel
theorem t29_0 : zT 29 0 = some (.aload_n 0, 1, 0, 0, 0, 0) := by decide +kernel
theorem t29_1 : zT 29 1 = some (.getfield 19, 3, 7, 2, 0, 262) := by decide +kernel
theorem t29_4 : zT 29 4 = some (.ireturn, 1, 0, 0, 0, 0) := by decide +kernel
theorem t30_0 : zT 30 0 = some (.aload_n 0, 1, 0, 0, 0, 0) := by decide +kernel
theorem t30_1 : zT 30 1 = some (.invokevirtual 40, 3, 31, 0, 0, 709) := by decide +kernel
theorem t30_4 : zT 30 4 = some (.istore_n 1, 1, 1, 0, 0, 0) := by decide +kernel
theorem t30_5 : zT 30 5 = some (.iload_n 1, 1, 1, 0, 0, 0) := by decide +kernel
theorem t30_6 : zT 30 6 = some (.iconst (-1), 1, 0, 0, (-1), 0) := by decide +kernel
theorem t30_7 : zT 30 7 = some (.if_icmp .eq 13, 3, 20, 0, 0, 0) := by decide +kernel
theorem t30_10 : zT 30 10 = some (.aload_n 0, 1, 0, 0, 0, 0) := by decide +kernel
theorem t30_11 : zT 30 11 = some (.dup, 1, 0, 0, 0, 0) := by decide +kernel
theorem t30_12 : zT 30 12 = some (.getfield 19, 3, 7, 2, 0, 262) := by decide +kernel
theorem t30_15 : zT 30 15 = some (.iconst 1, 1, 0, 0, 1, 0) := by decide +kernel
theorem t30_16 : zT 30 16 = some (.iadd, 1, 0, 0, 0, 0) := by decide +kernel
theorem t30_17 : zT 30 17 = some (.putfield 19, 3, 7, 2, 0, 262) := by decide +kernel
theorem t30_20 : zT 30 20 = some (.iload_n 1, 1, 1, 0, 0, 0) := by decide +kernel
theorem t30_21 : zT 30 21 = some (.ireturn, 1, 0, 0, 0, 0) := by decide +kernel
theorem t31_0 : zT 31 0 = some (.aload_n 0, 1, 0, 0, 0, 0) := by decide +kernel
theorem t31_1 : zT 31 1 = some (.getfield 19, 3, 7, 2, 0, 262) := by decide +kernel
theorem t31_4 : zT 31 4 = some (.ifCond .lt 30, 3, 34, 0, 0, 0) := by decide +kernel
theorem t31_7 : zT 31 7 = some (.aload_n 0, 1, 0, 0, 0, 0) := by decide +kernel
theorem t31_8 : zT 31 8 = some (.getfield 19, 3, 7, 2, 0, 262) := by decide +kernel
theorem t31_11 : zT 31 11 = some (.aload_n 0, 1, 0, 0, 0, 0) := by decide +kernel
theorem t31_12 : zT 31 12 = some (.getfield 15, 3, 7, 1, 0, 261) := by decide +kernel
theorem t31_15 : zT 31 15 = some (.if_icmp .ge 19, 3, 34, 0, 0, 0) := by decide +kernel
theorem t31_18 : zT 31 18 = some (.aload_n 0, 1, 0, 0, 0, 0) := by decide +kernel
theorem t31_19 : zT 31 19 = some (.getfield 9, 3, 7, 0, 0, 260) := by decide +kernel
theorem t31_22 : zT 31 22 = some (.aload_n 0, 1, 0, 0, 0, 0) := by decide +kernel
theorem t31_23 : zT 31 23 = some (.getfield 19, 3, 7, 2, 0, 262) := by decide +kernel
theorem t31_26 : zT 31 26 = some (.baload, 1, 0, 0, 0, 0) := by decide +kernel
theorem t31_27 : zT 31 27 = some (.sipush 255, 3, 0, 0, 255, 0) := by decide +kernel
theorem t31_30 : zT 31 30 = some (.iand, 1, 0, 0, 0, 0) := by decide +kernel
theorem t31_31 : zT 31 31 = some (.goto 4, 3, 35, 0, 0, 0) := by decide +kernel
theorem t31_34 : zT 31 34 = some (.iconst (-1), 1, 0, 0, (-1), 0) := by decide +kernel
theorem t31_35 : zT 31 35 = some (.ireturn, 1, 0, 0, 0, 0) := by decide +kernel
theorem t32_0 : zT 32 0 = some (.iload_n 0, 1, 0, 0, 0, 0) := by decide +kernel
theorem t32_1 : zT 32 1 = some (.tableswitch 91 103 119 #[83, 87, 91, 91, 91, 91, 91, 91, 91, 87, 85, 83, 89, 91, 91, 91, 85], 83, 0, 0, 0, 0) := by decide +kernel
theorem t32_84 : zT 32 84 = some (.iconst 1, 1, 0, 0, 1, 0) := by decide +kernel
theorem t32_85 : zT 32 85 = some (.ireturn, 1, 0, 0, 0, 0) := by decide +kernel
theorem t32_86 : zT 32 86 = some (.iconst 2, 1, 0, 0, 2, 0) := by decide +kernel
theorem t32_87 : zT 32 87 = some (.ireturn, 1, 0, 0, 0, 0) := by decide +kernel
theorem t32_88 : zT 32 88 = some (.iconst 3, 1, 0, 0, 3, 0) := by decide +kernel
theorem t32_89 : zT 32 89 = some (.ireturn, 1, 0, 0, 0, 0) := by decide +kernel
theorem t32_90 : zT 32 90 = some (.iconst 4, 1, 0, 0, 4, 0) := by decide +kernel
theorem t32_91 : zT 32 91 = some (.ireturn, 1, 0, 0, 0, 0) := by decide +kernel
theorem t32_92 : zT 32 92 = some (.iconst 0, 1, 0, 0, 0, 0) := by decide +kernel
theorem t32_93 : zT 32 93 = some (.ireturn, 1, 0, 0, 0, 0) := by decide +kernel
theorem t33_0 : zT 33 0 = some (.iload_n 0, 1, 0, 0, 0, 0) := by decide +kernel
theorem t33_1 : zT 33 1 = some (.lookupswitch 80 #[(104, 50), (112, 65), (114, 35)], 35, 0, 0, 0, 0) := by decide +kernel
theorem t33_36 : zT 33 36 = some (.aload_n 1, 1, 1, 0, 0, 0) := by decide +kernel
theorem t33_37 : zT 33 37 = some (.getfield 73, 3, 6, 0, 0, 154) := by decide +kernel
theorem t33_40 : zT 33 40 = some (.bipush 8, 2, 0, 0, 8, 0) := by decide +kernel
theorem t33_42 : zT 33 42 = some (.if_icmp .lt 7, 3, 49, 0, 0, 0) := by decide +kernel
theorem t33_45 : zT 33 45 = some (.iconst 1, 1, 0, 0, 1, 0) := by decide +kernel
theorem t33_46 : zT 33 46 = some (.goto 4, 3, 50, 0, 0, 0) := by decide +kernel
theorem t33_49 : zT 33 49 = some (.iconst 0, 1, 0, 0, 0, 0) := by decide +kernel
theorem t33_50 : zT 33 50 = some (.ireturn, 1, 0, 0, 0, 0) := by decide +kernel
theorem t33_51 : zT 33 51 = some (.aload_n 1, 1, 1, 0, 0, 0) := by decide +kernel
theorem t33_52 : zT 33 52 = some (.getfield 79, 3, 6, 3, 0, 166) := by decide +kernel
theorem t33_55 : zT 33 55 = some (.bipush 60, 2, 0, 0, 60, 0) := by decide +kernel
theorem t33_57 : zT 33 57 = some (.if_icmp .lt 7, 3, 64, 0, 0, 0) := by decide +kernel
theorem t33_60 : zT 33 60 = some (.iconst 1, 1, 0, 0, 1, 0) := by decide +kernel
theorem t33_61 : zT 33 61 = some (.goto 4, 3, 65, 0, 0, 0) := by decide +kernel
theorem t33_64 : zT 33 64 = some (.iconst 0, 1, 0, 0, 0, 0) := by decide +kernel
theorem t33_65 : zT 33 65 = some (.ireturn, 1, 0, 0, 0, 0) := by decide +kernel
theorem t33_66 : zT 33 66 = some (.aload_n 1, 1, 1, 0, 0, 0) := by decide +kernel
theorem t33_67 : zT 33 67 = some (.getfield 82, 3, 6, 8, 0, 182) := by decide +kernel
theorem t33_70 : zT 33 70 = some (.bipush 12, 2, 0, 0, 12, 0) := by decide +kernel
theorem t33_72 : zT 33 72 = some (.if_icmp .lt 7, 3, 79, 0, 0, 0) := by decide +kernel
theorem t33_75 : zT 33 75 = some (.iconst 1, 1, 0, 0, 1, 0) := by decide +kernel
theorem t33_76 : zT 33 76 = some (.goto 4, 3, 80, 0, 0, 0) := by decide +kernel
theorem t33_79 : zT 33 79 = some (.iconst 0, 1, 0, 0, 0, 0) := by decide +kernel
theorem t33_80 : zT 33 80 = some (.ireturn, 1, 0, 0, 0, 0) := by decide +kernel
theorem t33_81 : zT 33 81 = some (.iconst 0, 1, 0, 0, 0, 0) := by decide +kernel
theorem t33_82 : zT 33 82 = some (.ireturn, 1, 0, 0, 0, 0) := by decide +kernel
theorem t34_0 : zT 34 0 = some (.aload_n 0, 1, 0, 0, 0, 0) := by decide +kernel
theorem t34_1 : zT 34 1 = some (.iload_n 1, 1, 1, 0, 0, 0) := by decide +kernel
theorem t34_2 : zT 34 2 = some (.putfield 22, 3, 7, 3, 0, 263) := by decide +kernel
theorem t34_5 : zT 34 5 = some (.iconst 0, 1, 0, 0, 0, 0) := by decide +kernel
theorem t34_6 : zT 34 6 = some (.ireturn, 1, 0, 0, 0, 0) := by decide +kernel
theorem t35_0 : zT 35 0 = some (.aload_n 0, 1, 0, 0, 0, 0) := by decide +kernel
theorem t35_1 : zT 35 1 = some (.aload_n 0, 1, 0, 0, 0, 0) := by decide +kernel
theorem t35_2 : zT 35 2 = some (.getfield 19, 3, 7, 2, 0, 262) := by decide +kernel
theorem t35_5 : zT 35 5 = some (.putfield 28, 3, 7, 5, 0, 265) := by decide +kernel
theorem t35_8 : zT 35 8 = some (.aload_n 0, 1, 0, 0, 0, 0) := by decide +kernel
theorem t35_9 : zT 35 9 = some (.invokevirtual 40, 3, 31, 0, 0, 709) := by decide +kernel
theorem t35_12 : zT 35 12 = some (.bipush 45, 2, 0, 0, 45, 0) := by decide +kernel
theorem t35_14 : zT 35 14 = some (.if_icmp .ne 7, 3, 21, 0, 0, 0) := by decide +kernel
theorem t35_17 : zT 35 17 = some (.iconst 1, 1, 0, 0, 1, 0) := by decide +kernel
theorem t35_18 : zT 35 18 = some (.goto 4, 3, 22, 0, 0, 0) := by decide +kernel
theorem t35_21 : zT 35 21 = some (.iconst 0, 1, 0, 0, 0, 0) := by decide +kernel
theorem t35_22 : zT 35 22 = some (.istore_n 1, 1, 1, 0, 0, 0) := by decide +kernel
theorem t35_23 : zT 35 23 = some (.iload_n 1, 1, 1, 0, 0, 0) := by decide +kernel
theorem t35_24 : zT 35 24 = some (.ifCond .eq 13, 3, 37, 0, 0, 0) := by decide +kernel
theorem t35_27 : zT 35 27 = some (.aload_n 0, 1, 0, 0, 0, 0) := by decide +kernel
theorem t35_28 : zT 35 28 = some (.dup, 1, 0, 0, 0, 0) := by decide +kernel
theorem t35_29 : zT 35 29 = some (.getfield 19, 3, 7, 2, 0, 262) := by decide +kernel
theorem t35_32 : zT 35 32 = some (.iconst 1, 1, 0, 0, 1, 0) := by decide +kernel
theorem t35_33 : zT 35 33 = some (.iadd, 1, 0, 0, 0, 0) := by decide +kernel
theorem t35_34 : zT 35 34 = some (.putfield 19, 3, 7, 2, 0, 262) := by decide +kernel
theorem t35_37 : zT 35 37 = some (.iconst 0, 1, 0, 0, 0, 0) := by decide +kernel
theorem t35_38 : zT 35 38 = some (.istore_n 2, 1, 2, 0, 0, 0) := by decide +kernel
theorem t35_39 : zT 35 39 = some (.iconst 0, 1, 0, 0, 0, 0) := by decide +kernel
theorem t35_40 : zT 35 40 = some (.istore_n 3, 1, 3, 0, 0, 0) := by decide +kernel
theorem t35_41 : zT 35 41 = some (.iload_n 3, 1, 3, 0, 0, 0) := by decide +kernel
theorem t35_42 : zT 35 42 = some (.iconst 4, 1, 0, 0, 4, 0) := by decide +kernel
theorem t35_43 : zT 35 43 = some (.if_icmp .ge 32, 3, 75, 0, 0, 0) := by decide +kernel
theorem t35_46 : zT 35 46 = some (.aload_n 0, 1, 0, 0, 0, 0) := by decide +kernel
theorem t35_47 : zT 35 47 = some (.invokevirtual 40, 3, 31, 0, 0, 709) := by decide +kernel
theorem t35_50 : zT 35 50 = some (.invokestatic 48, 3, 36, 2, 0, 727) := by decide +kernel
theorem t35_53 : zT 35 53 = some (.ifCond .eq 22, 3, 75, 0, 0, 0) := by decide +kernel
theorem t35_56 : zT 35 56 = some (.iload_n 2, 1, 2, 0, 0, 0) := by decide +kernel
theorem t35_57 : zT 35 57 = some (.bipush 10, 2, 0, 0, 10, 0) := by decide +kernel
theorem t35_59 : zT 35 59 = some (.imul, 1, 0, 0, 0, 0) := by decide +kernel
theorem t35_60 : zT 35 60 = some (.aload_n 0, 1, 0, 0, 0, 0) := by decide +kernel
theorem t35_61 : zT 35 61 = some (.invokevirtual 51, 3, 30, 0, 0, 730) := by decide +kernel
theorem t35_64 : zT 35 64 = some (.iadd, 1, 0, 0, 0, 0) := by decide +kernel
theorem t35_65 : zT 35 65 = some (.bipush 48, 2, 0, 0, 48, 0) := by decide +kernel
theorem t35_67 : zT 35 67 = some (.isub, 1, 0, 0, 0, 0) := by decide +kernel
theorem t35_68 : zT 35 68 = some (.istore_n 2, 1, 2, 0, 0, 0) := by decide +kernel
theorem t35_69 : zT 35 69 = some (.iinc 3 1, 3, 0, 0, 0, 0) := by decide +kernel
theorem t35_72 : zT 35 72 = some (.goto (-31), 3, 41, 0, 0, 0) := by decide +kernel
theorem t35_75 : zT 35 75 = some (.iload_n 3, 1, 3, 0, 0, 0) := by decide +kernel
theorem t35_76 : zT 35 76 = some (.ifCond .eq 13, 3, 89, 0, 0, 0) := by decide +kernel
theorem t35_79 : zT 35 79 = some (.aload_n 0, 1, 0, 0, 0, 0) := by decide +kernel
theorem t35_80 : zT 35 80 = some (.invokevirtual 40, 3, 31, 0, 0, 709) := by decide +kernel
theorem t35_83 : zT 35 83 = some (.invokestatic 48, 3, 36, 2, 0, 727) := by decide +kernel
theorem t35_86 : zT 35 86 = some (.ifCond .eq 12, 3, 98, 0, 0, 0) := by decide +kernel
theorem t35_89 : zT 35 89 = some (.aload_n 0, 1, 0, 0, 0, 0) := by decide +kernel
theorem t35_90 : zT 35 90 = some (.aload_n 0, 1, 0, 0, 0, 0) := by decide +kernel
theorem t35_91 : zT 35 91 = some (.getfield 19, 3, 7, 2, 0, 262) := by decide +kernel
theorem t35_94 : zT 35 94 = some (.invokevirtual 44, 3, 34, 0, 0, 731) := by decide +kernel
theorem t35_97 : zT 35 97 = some (.ireturn, 1, 0, 0, 0, 0) := by decide +kernel
theorem t35_98 : zT 35 98 = some (.aload_n 0, 1, 0, 0, 0, 0) := by decide +kernel
theorem t35_99 : zT 35 99 = some (.iload_n 1, 1, 1, 0, 0, 0) := by decide +kernel
theorem t35_100 : zT 35 100 = some (.ifCond .eq 8, 3, 108, 0, 0, 0) := by decide +kernel
theorem t35_103 : zT 35 103 = some (.iload_n 2, 1, 2, 0, 0, 0) := by decide +kernel
theorem t35_104 : zT 35 104 = some (.ineg, 1, 0, 0, 0, 0) := by decide +kernel
theorem t35_105 : zT 35 105 = some (.goto 4, 3, 109, 0, 0, 0) := by decide +kernel
theorem t35_108 : zT 35 108 = some (.iload_n 2, 1, 2, 0, 0, 0) := by decide +kernel
theorem t35_109 : zT 35 109 = some (.putfield 25, 3, 7, 4, 0, 264) := by decide +kernel
theorem t35_112 : zT 35 112 = some (.iconst 1, 1, 0, 0, 1, 0) := by decide +kernel
theorem t35_113 : zT 35 113 = some (.ireturn, 1, 0, 0, 0, 0) := by decide +kernel
theorem t36_0 : zT 36 0 = some (.iload_n 0, 1, 0, 0, 0, 0) := by decide +kernel
theorem t36_1 : zT 36 1 = some (.bipush 48, 2, 0, 0, 48, 0) := by decide +kernel
theorem t36_3 : zT 36 3 = some (.if_icmp .lt 13, 3, 16, 0, 0, 0) := by decide +kernel
theorem t36_6 : zT 36 6 = some (.iload_n 0, 1, 0, 0, 0, 0) := by decide +kernel
theorem t36_7 : zT 36 7 = some (.bipush 57, 2, 0, 0, 57, 0) := by decide +kernel
theorem t36_9 : zT 36 9 = some (.if_icmp .gt 7, 3, 16, 0, 0, 0) := by decide +kernel
theorem t36_12 : zT 36 12 = some (.iconst 1, 1, 0, 0, 1, 0) := by decide +kernel
theorem t36_13 : zT 36 13 = some (.goto 4, 3, 17, 0, 0, 0) := by decide +kernel
theorem t36_16 : zT 36 16 = some (.iconst 0, 1, 0, 0, 0, 0) := by decide +kernel
theorem t36_17 : zT 36 17 = some (.ireturn, 1, 0, 0, 0, 0) := by decide +kernel
theorem t37_0 : zT 37 0 = some (.aload_n 0, 1, 0, 0, 0, 0) := by decide +kernel
theorem t37_1 : zT 37 1 = some (.getfield 25, 3, 7, 4, 0, 264) := by decide +kernel
theorem t37_4 : zT 37 4 = some (.ireturn, 1, 0, 0, 0, 0) := by decide +kernel
theorem t38_0 : zT 38 0 = some (.iload_n 1, 1, 1, 0, 0, 0) := by decide +kernel
theorem t38_1 : zT 38 1 = some (.lookupswitch 122 #[(104, 78), (112, 86), (114, 43), (119, 92)], 43, 0, 0, 0, 0) := by decide +kernel
theorem t38_44 : zT 38 44 = some (.iload_n 3, 1, 3, 0, 0, 0) := by decide +kernel
theorem t38_45 : zT 38 45 = some (.aload 4, 2, 0, 0, 0, 0) := by decide +kernel
theorem t38_47 : zT 38 47 = some (.getfield 73, 3, 6, 0, 0, 154) := by decide +kernel
theorem t38_50 : zT 38 50 = some (.ifCond .ne 7, 3, 57, 0, 0, 0) := by decide +kernel
theorem t38_53 : zT 38 53 = some (.iconst 1, 1, 0, 0, 1, 0) := by decide +kernel
theorem t38_54 : zT 38 54 = some (.goto 18, 3, 72, 0, 0, 0) := by decide +kernel
theorem t38_57 : zT 38 57 = some (.aload 4, 2, 0, 0, 0, 0) := by decide +kernel
theorem t38_59 : zT 38 59 = some (.getfield 85, 3, 6, 1, 0, 159) := by decide +kernel
theorem t38_62 : zT 38 62 = some (.aload 4, 2, 0, 0, 0, 0) := by decide +kernel
theorem t38_64 : zT 38 64 = some (.getfield 73, 3, 6, 0, 0, 154) := by decide +kernel
theorem t38_67 : zT 38 67 = some (.iconst 1, 1, 0, 0, 1, 0) := by decide +kernel
theorem t38_68 : zT 38 68 = some (.isub, 1, 0, 0, 0, 0) := by decide +kernel
theorem t38_69 : zT 38 69 = some (.iaload, 1, 0, 0, 0, 0) := by decide +kernel
theorem t38_70 : zT 38 70 = some (.iconst 1, 1, 0, 0, 1, 0) := by decide +kernel
theorem t38_71 : zT 38 71 = some (.iadd, 1, 0, 0, 0, 0) := by decide +kernel
theorem t38_72 : zT 38 72 = some (.sipush 999, 3, 0, 0, 999, 0) := by decide +kernel
theorem t38_75 : zT 38 75 = some (.invokestatic 88, 3, 39, 2, 0, 740) := by decide +kernel
theorem t38_78 : zT 38 78 = some (.ireturn, 1, 0, 0, 0, 0) := by decide +kernel
theorem t38_79 : zT 38 79 = some (.iload_n 2, 1, 2, 0, 0, 0) := by decide +kernel
theorem t38_80 : zT 38 80 = some (.iload_n 3, 1, 3, 0, 0, 0) := by decide +kernel
theorem t38_81 : zT 38 81 = some (.aload 4, 2, 0, 0, 0, 0) := by decide +kernel
theorem t38_83 : zT 38 83 = some (.invokestatic 92, 3, 40, 1, 0, 743) := by decide +kernel
theorem t38_86 : zT 38 86 = some (.ireturn, 1, 0, 0, 0, 0) := by decide +kernel
theorem t38_87 : zT 38 87 = some (.iload_n 2, 1, 2, 0, 0, 0) := by decide +kernel
theorem t38_88 : zT 38 88 = some (.iload_n 3, 1, 3, 0, 0, 0) := by decide +kernel
theorem t38_89 : zT 38 89 = some (.invokestatic 96, 3, 43, 1, 0, 753) := by decide +kernel
theorem t38_92 : zT 38 92 = some (.ireturn, 1, 0, 0, 0, 0) := by decide +kernel
theorem t38_93 : zT 38 93 = some (.iconst 5, 1, 0, 0, 5, 0) := by decide +kernel
theorem t38_94 : zT 38 94 = some (.iload_n 2, 1, 2, 0, 0, 0) := by decide +kernel
theorem t38_95 : zT 38 95 = some (.iadd, 1, 0, 0, 0, 0) := by decide +kernel
theorem t38_96 : zT 38 96 = some (.iload_n 3, 1, 3, 0, 0, 0) := by decide +kernel
theorem t38_97 : zT 38 97 = some (.invokestatic 100, 3, 44, 1, 0, 756) := by decide +kernel
theorem t38_100 : zT 38 100 = some (.ifCond .eq 21, 3, 121, 0, 0, 0) := by decide +kernel
theorem t38_103 : zT 38 103 = some (.iload_n 2, 1, 2, 0, 0, 0) := by decide +kernel
theorem t38_104 : zT 38 104 = some (.ifCond .eq 13, 3, 117, 0, 0, 0) := by decide +kernel
theorem t38_107 : zT 38 107 = some (.iload_n 3, 1, 3, 0, 0, 0) := by decide +kernel
theorem t38_108 : zT 38 108 = some (.aload_n 0, 1, 0, 0, 0, 0) := by decide +kernel
theorem t38_109 : zT 38 109 = some (.getfield 11, 3, 3, 0, 0, 285) := by decide +kernel
theorem t38_112 : zT 38 112 = some (.iconst 0, 1, 0, 0, 0, 0) := by decide +kernel
theorem t38_113 : zT 38 113 = some (.iaload, 1, 0, 0, 0, 0) := by decide +kernel
theorem t38_114 : zT 38 114 = some (.if_icmp .lt 7, 3, 121, 0, 0, 0) := by decide +kernel
theorem t38_117 : zT 38 117 = some (.iconst 1, 1, 0, 0, 1, 0) := by decide +kernel
theorem t38_118 : zT 38 118 = some (.goto 4, 3, 122, 0, 0, 0) := by decide +kernel
theorem t38_121 : zT 38 121 = some (.iconst 0, 1, 0, 0, 0, 0) := by decide +kernel
theorem t38_122 : zT 38 122 = some (.ireturn, 1, 0, 0, 0, 0) := by decide +kernel
theorem t38_123 : zT 38 123 = some (.iload_n 1, 1, 1, 0, 0, 0) := by decide +kernel
theorem t38_124 : zT 38 124 = some (.invokestatic 103, 3, 45, 1, 0, 763) := by decide +kernel
theorem t38_127 : zT 38 127 = some (.iload_n 2, 1, 2, 0, 0, 0) := by decide +kernel
theorem t38_128 : zT 38 128 = some (.iadd, 1, 0, 0, 0, 0) := by decide +kernel
theorem t38_129 : zT 38 129 = some (.iload_n 3, 1, 3, 0, 0, 0) := by decide +kernel
theorem t38_130 : zT 38 130 = some (.invokestatic 100, 3, 44, 1, 0, 756) := by decide +kernel
theorem t38_133 : zT 38 133 = some (.ireturn, 1, 0, 0, 0, 0) := by decide +kernel
theorem t40_0 : zT 40 0 = some (.iload_n 0, 1, 0, 0, 0, 0) := by decide +kernel
theorem t40_1 : zT 40 1 = some (.ifCond .ne 9, 3, 10, 0, 0, 0) := by decide +kernel
theorem t40_4 : zT 40 4 = some (.aload_n 2, 1, 2, 0, 0, 0) := by decide +kernel
theorem t40_5 : zT 40 5 = some (.iload_n 1, 1, 1, 0, 0, 0) := by decide +kernel
theorem t40_6 : zT 40 6 = some (.invokevirtual 106, 3, 41, 0, 0, 746) := by decide +kernel
theorem t40_9 : zT 40 9 = some (.ireturn, 1, 0, 0, 0, 0) := by decide +kernel
theorem t40_10 : zT 40 10 = some (.iload_n 0, 1, 0, 0, 0, 0) := by decide +kernel
theorem t40_11 : zT 40 11 = some (.iconst 1, 1, 0, 0, 1, 0) := by decide +kernel
theorem t40_12 : zT 40 12 = some (.if_icmp .ne 10, 3, 22, 0, 0, 0) := by decide +kernel
theorem t40_15 : zT 40 15 = some (.iload_n 1, 1, 1, 0, 0, 0) := by decide +kernel
theorem t40_16 : zT 40 16 = some (.invokestatic 109, 3, 42, 2, 0, 750) := by decide +kernel
theorem t40_19 : zT 40 19 = some (.goto 11, 3, 30, 0, 0, 0) := by decide +kernel
theorem t40_22 : zT 40 22 = some (.iload_n 1, 1, 1, 0, 0, 0) := by decide +kernel
theorem t40_23 : zT 40 23 = some (.iconst 0, 1, 0, 0, 0, 0) := by decide +kernel
theorem t40_24 : zT 40 24 = some (.sipush 999, 3, 0, 0, 999, 0) := by decide +kernel
theorem t40_27 : zT 40 27 = some (.invokestatic 88, 3, 39, 2, 0, 740) := by decide +kernel
theorem t40_30 : zT 40 30 = some (.ireturn, 1, 0, 0, 0, 0) := by decide +kernel
theorem t41_12 : zT 41 12 = some (.iconst 1, 1, 0, 0, 1, 0) := by decide +kernel
theorem t41_13 : zT 41 13 = some (.goto 4, 3, 17, 0, 0, 0) := by decide +kernel
theorem t42_0 : zT 42 0 = some (.iload_n 0, 1, 0, 0, 0, 0) := by decide +kernel
theorem t42_1 : zT 42 1 = some (.sipush (-9999), 3, 0, 0, (-9999), 0) := by decide +kernel
theorem t42_4 : zT 42 4 = some (.if_icmp .lt 14, 3, 18, 0, 0, 0) := by decide +kernel
theorem t42_7 : zT 42 7 = some (.iload_n 0, 1, 0, 0, 0, 0) := by decide +kernel
theorem t42_8 : zT 42 8 = some (.sipush 9999, 3, 0, 0, 9999, 0) := by decide +kernel
theorem t42_11 : zT 42 11 = some (.if_icmp .gt 7, 3, 18, 0, 0, 0) := by decide +kernel
theorem t42_14 : zT 42 14 = some (.iconst 1, 1, 0, 0, 1, 0) := by decide +kernel
theorem t42_15 : zT 42 15 = some (.goto 4, 3, 19, 0, 0, 0) := by decide +kernel
theorem t42_18 : zT 42 18 = some (.iconst 0, 1, 0, 0, 0, 0) := by decide +kernel
theorem t42_19 : zT 42 19 = some (.ireturn, 1, 0, 0, 0, 0) := by decide +kernel
theorem t43_0 : zT 43 0 = some (.iload_n 0, 1, 0, 0, 0, 0) := by decide +kernel
theorem t43_1 : zT 43 1 = some (.ifCond .ne 8, 3, 9, 0, 0, 0) := by decide +kernel
theorem t43_4 : zT 43 4 = some (.iload_n 1, 1, 1, 0, 0, 0) := by decide +kernel
theorem t43_5 : zT 43 5 = some (.invokestatic 109, 3, 42, 2, 0, 750) := by decide +kernel
theorem t43_8 : zT 43 8 = some (.ireturn, 1, 0, 0, 0, 0) := by decide +kernel
theorem t43_9 : zT 43 9 = some (.iload_n 0, 1, 0, 0, 0, 0) := by decide +kernel
theorem t43_10 : zT 43 10 = some (.iconst 1, 1, 0, 0, 1, 0) := by decide +kernel
theorem t43_11 : zT 43 11 = some (.if_icmp .ne 14, 3, 25, 0, 0, 0) := by decide +kernel
theorem t43_14 : zT 43 14 = some (.iload_n 1, 1, 1, 0, 0, 0) := by decide +kernel
theorem t43_15 : zT 43 15 = some (.bipush (-50), 2, 0, 0, (-50), 0) := by decide +kernel
theorem t43_17 : zT 43 17 = some (.bipush 50, 2, 0, 0, 50, 0) := by decide +kernel
theorem t43_19 : zT 43 19 = some (.invokestatic 88, 3, 39, 2, 0, 740) := by decide +kernel
theorem t43_22 : zT 43 22 = some (.goto 10, 3, 32, 0, 0, 0) := by decide +kernel
theorem t43_25 : zT 43 25 = some (.iload_n 1, 1, 1, 0, 0, 0) := by decide +kernel
theorem t43_26 : zT 43 26 = some (.bipush (-5), 2, 0, 0, (-5), 0) := by decide +kernel
theorem t43_28 : zT 43 28 = some (.iconst 5, 1, 0, 0, 5, 0) := by decide +kernel
theorem t43_29 : zT 43 29 = some (.invokestatic 88, 3, 39, 2, 0, 740) := by decide +kernel
theorem t43_32 : zT 43 32 = some (.ireturn, 1, 0, 0, 0, 0) := by decide +kernel
theorem t44_0 : zT 44 0 = some (.iload_n 0, 1, 0, 0, 0, 0) := by decide +kernel
theorem t44_1 : zT 44 1 = some (.ifCond .lt 30, 3, 31, 0, 0, 0) := by decide +kernel
theorem t44_4 : zT 44 4 = some (.iload_n 0, 1, 0, 0, 0, 0) := by decide +kernel
theorem t44_5 : zT 44 5 = some (.bipush 9, 2, 0, 0, 9, 0) := by decide +kernel
theorem t44_7 : zT 44 7 = some (.if_icmp .ge 24, 3, 31, 0, 0, 0) := by decide +kernel
theorem t44_10 : zT 44 10 = some (.iload_n 1, 1, 1, 0, 0, 0) := by decide +kernel
theorem t44_11 : zT 44 11 = some (.getstatic 112, 3, 1, 1, 0, 759) := by decide +kernel
theorem t44_14 : zT 44 14 = some (.iload_n 0, 1, 0, 0, 0, 0) := by decide +kernel
theorem t44_15 : zT 44 15 = some (.iaload, 1, 0, 0, 0, 0) := by decide +kernel
theorem t44_16 : zT 44 16 = some (.getstatic 115, 3, 2, 1, 0, 761) := by decide +kernel
theorem t44_19 : zT 44 19 = some (.iload_n 0, 1, 0, 0, 0, 0) := by decide +kernel
theorem t44_20 : zT 44 20 = some (.iaload, 1, 0, 0, 0, 0) := by decide +kernel
theorem t44_21 : zT 44 21 = some (.invokestatic 88, 3, 39, 2, 0, 740) := by decide +kernel
theorem t44_24 : zT 44 24 = some (.ifCond .eq 7, 3, 31, 0, 0, 0) := by decide +kernel
theorem t44_27 : zT 44 27 = some (.iconst 1, 1, 0, 0, 1, 0) := by decide +kernel
theorem t44_28 : zT 44 28 = some (.goto 4, 3, 32, 0, 0, 0) := by decide +kernel
theorem t44_31 : zT 44 31 = some (.iconst 0, 1, 0, 0, 0, 0) := by decide +kernel
theorem t44_32 : zT 44 32 = some (.ireturn, 1, 0, 0, 0, 0) := by decide +kernel
theorem t45_0 : zT 45 0 = some (.iload_n 0, 1, 0, 0, 0, 0) := by decide +kernel
theorem t45_1 : zT 45 1 = some (.lookupswitch 52 #[(103, 45), (113, 49), (115, 43), (119, 47)], 43, 0, 0, 0, 0) := by decide +kernel
theorem t45_44 : zT 45 44 = some (.iconst 0, 1, 0, 0, 0, 0) := by decide +kernel
theorem t45_45 : zT 45 45 = some (.ireturn, 1, 0, 0, 0, 0) := by decide +kernel
theorem t45_46 : zT 45 46 = some (.iconst 4, 1, 0, 0, 4, 0) := by decide +kernel
theorem t45_47 : zT 45 47 = some (.ireturn, 1, 0, 0, 0, 0) := by decide +kernel
theorem t45_48 : zT 45 48 = some (.iconst 5, 1, 0, 0, 5, 0) := by decide +kernel
theorem t45_49 : zT 45 49 = some (.ireturn, 1, 0, 0, 0, 0) := by decide +kernel
theorem t45_50 : zT 45 50 = some (.bipush 7, 2, 0, 0, 7, 0) := by decide +kernel
theorem t45_52 : zT 45 52 = some (.ireturn, 1, 0, 0, 0, 0) := by decide +kernel
theorem t45_53 : zT 45 53 = some (.bipush 9, 2, 0, 0, 9, 0) := by decide +kernel
theorem t45_55 : zT 45 55 = some (.ireturn, 1, 0, 0, 0, 0) := by decide +kernel
theorem t46_0 : zT 46 0 = some (.aload_n 0, 1, 0, 0, 0, 0) := by decide +kernel
theorem t46_1 : zT 46 1 = some (.getfield 28, 3, 7, 5, 0, 265) := by decide +kernel
theorem t46_4 : zT 46 4 = some (.ireturn, 1, 0, 0, 0, 0) := by decide +kernel
theorem t47_0 : zT 47 0 = some (.aload_n 0, 1, 0, 0, 0, 0) := by decide +kernel
theorem t47_1 : zT 47 1 = some (.invokevirtual 40, 3, 31, 0, 0, 709) := by decide +kernel
theorem t47_4 : zT 47 4 = some (.iload_n 1, 1, 1, 0, 0, 0) := by decide +kernel
theorem t47_5 : zT 47 5 = some (.if_icmp .eq 12, 3, 17, 0, 0, 0) := by decide +kernel
theorem t47_8 : zT 47 8 = some (.aload_n 0, 1, 0, 0, 0, 0) := by decide +kernel
theorem t47_9 : zT 47 9 = some (.aload_n 0, 1, 0, 0, 0, 0) := by decide +kernel
theorem t47_10 : zT 47 10 = some (.getfield 19, 3, 7, 2, 0, 262) := by decide +kernel
theorem t47_13 : zT 47 13 = some (.invokevirtual 44, 3, 34, 0, 0, 731) := by decide +kernel
theorem t47_16 : zT 47 16 = some (.ireturn, 1, 0, 0, 0, 0) := by decide +kernel
theorem t47_17 : zT 47 17 = some (.aload_n 0, 1, 0, 0, 0, 0) := by decide +kernel
theorem t47_18 : zT 47 18 = some (.dup, 1, 0, 0, 0, 0) := by decide +kernel
theorem t47_19 : zT 47 19 = some (.getfield 19, 3, 7, 2, 0, 262) := by decide +kernel
theorem t47_22 : zT 47 22 = some (.iconst 1, 1, 0, 0, 1, 0) := by decide +kernel
theorem t47_23 : zT 47 23 = some (.iadd, 1, 0, 0, 0, 0) := by decide +kernel
theorem t47_24 : zT 47 24 = some (.putfield 19, 3, 7, 2, 0, 262) := by decide +kernel
theorem t47_27 : zT 47 27 = some (.iconst 1, 1, 0, 0, 1, 0) := by decide +kernel
theorem t47_28 : zT 47 28 = some (.ireturn, 1, 0, 0, 0, 0) := by decide +kernel
theorem t48_0 : zT 48 0 = some (.iload_n 1, 1, 1, 0, 0, 0) := by decide +kernel
theorem t48_1 : zT 48 1 = some (.lookupswitch 103 #[(104, 46), (112, 80), (114, 35)], 35, 0, 0, 0, 0) := by decide +kernel
theorem t48_36 : zT 48 36 = some (.aload_n 2, 1, 2, 0, 0, 0) := by decide +kernel
theorem t48_37 : zT 48 37 = some (.aload_n 0, 1, 0, 0, 0, 0) := by decide +kernel
theorem t48_38 : zT 48 38 = some (.getfield 11, 3, 3, 0, 0, 285) := by decide +kernel
theorem t48_41 : zT 48 41 = some (.iconst 0, 1, 0, 0, 0, 0) := by decide +kernel
theorem t48_42 : zT 48 42 = some (.iaload, 1, 0, 0, 0, 0) := by decide +kernel
theorem t48_43 : zT 48 43 = some (.invokevirtual 118, 3, 49, 0, 0, 778) := by decide +kernel
theorem t48_46 : zT 48 46 = some (.ireturn, 1, 0, 0, 0, 0) := by decide +kernel
theorem t48_47 : zT 48 47 = some (.aload_n 2, 1, 2, 0, 0, 0) := by decide +kernel
theorem t48_48 : zT 48 48 = some (.aload_n 0, 1, 0, 0, 0, 0) := by decide +kernel
theorem t48_49 : zT 48 49 = some (.getfield 11, 3, 3, 0, 0, 285) := by decide +kernel
theorem t48_52 : zT 48 52 = some (.iconst 0, 1, 0, 0, 0, 0) := by decide +kernel
theorem t48_53 : zT 48 53 = some (.iaload, 1, 0, 0, 0, 0) := by decide +kernel
theorem t48_54 : zT 48 54 = some (.aload_n 0, 1, 0, 0, 0, 0) := by decide +kernel
theorem t48_55 : zT 48 55 = some (.getfield 11, 3, 3, 0, 0, 285) := by decide +kernel
theorem t48_58 : zT 48 58 = some (.iconst 1, 1, 0, 0, 1, 0) := by decide +kernel
theorem t48_59 : zT 48 59 = some (.iaload, 1, 0, 0, 0, 0) := by decide +kernel
theorem t48_60 : zT 48 60 = some (.aload_n 0, 1, 0, 0, 0, 0) := by decide +kernel
theorem t48_61 : zT 48 61 = some (.getfield 11, 3, 3, 0, 0, 285) := by decide +kernel
theorem t48_64 : zT 48 64 = some (.iconst 2, 1, 0, 0, 2, 0) := by decide +kernel
theorem t48_65 : zT 48 65 = some (.iaload, 1, 0, 0, 0, 0) := by decide +kernel
theorem t48_66 : zT 48 66 = some (.bipush (-2), 2, 0, 0, (-2), 0) := by decide +kernel
theorem t48_68 : zT 48 68 = some (.invokevirtual 121, 3, 50, 0, 0, 782) := by decide +kernel
theorem t48_71 : zT 48 71 = some (.iconst (-1), 1, 0, 0, (-1), 0) := by decide +kernel
theorem t48_72 : zT 48 72 = some (.if_icmp .eq 7, 3, 79, 0, 0, 0) := by decide +kernel
theorem t48_75 : zT 48 75 = some (.iconst 1, 1, 0, 0, 1, 0) := by decide +kernel
theorem t48_76 : zT 48 76 = some (.goto 4, 3, 80, 0, 0, 0) := by decide +kernel
theorem t48_79 : zT 48 79 = some (.iconst 0, 1, 0, 0, 0, 0) := by decide +kernel
theorem t48_80 : zT 48 80 = some (.ireturn, 1, 0, 0, 0, 0) := by decide +kernel
theorem t48_81 : zT 48 81 = some (.aload_n 2, 1, 2, 0, 0, 0) := by decide +kernel
theorem t48_82 : zT 48 82 = some (.aload_n 0, 1, 0, 0, 0, 0) := by decide +kernel
theorem t48_83 : zT 48 83 = some (.getfield 11, 3, 3, 0, 0, 285) := by decide +kernel
theorem t48_86 : zT 48 86 = some (.iconst 0, 1, 0, 0, 0, 0) := by decide +kernel
theorem t48_87 : zT 48 87 = some (.iaload, 1, 0, 0, 0, 0) := by decide +kernel
theorem t48_88 : zT 48 88 = some (.aload_n 0, 1, 0, 0, 0, 0) := by decide +kernel
theorem t48_89 : zT 48 89 = some (.getfield 11, 3, 3, 0, 0, 285) := by decide +kernel
theorem t48_92 : zT 48 92 = some (.iconst 1, 1, 0, 0, 1, 0) := by decide +kernel
theorem t48_93 : zT 48 93 = some (.iaload, 1, 0, 0, 0, 0) := by decide +kernel
theorem t48_94 : zT 48 94 = some (.aload_n 0, 1, 0, 0, 0, 0) := by decide +kernel
theorem t48_95 : zT 48 95 = some (.getfield 11, 3, 3, 0, 0, 285) := by decide +kernel
theorem t48_98 : zT 48 98 = some (.iconst 2, 1, 0, 0, 2, 0) := by decide +kernel
theorem t48_99 : zT 48 99 = some (.iaload, 1, 0, 0, 0, 0) := by decide +kernel
theorem t48_100 : zT 48 100 = some (.invokevirtual 125, 3, 52, 0, 0, 793) := by decide +kernel
theorem t48_103 : zT 48 103 = some (.ireturn, 1, 0, 0, 0, 0) := by decide +kernel
theorem t48_104 : zT 48 104 = some (.iconst 0, 1, 0, 0, 0, 0) := by decide +kernel
theorem t48_105 : zT 48 105 = some (.istore_n 3, 1, 3, 0, 0, 0) := by decide +kernel
theorem t48_106 : zT 48 106 = some (.iload_n 3, 1, 3, 0, 0, 0) := by decide +kernel
theorem t48_107 : zT 48 107 = some (.iload_n 1, 1, 1, 0, 0, 0) := by decide +kernel
theorem t48_108 : zT 48 108 = some (.invokestatic 41, 3, 32, 1, 0, 713) := by decide +kernel
theorem t48_111 : zT 48 111 = some (.if_icmp .ge 25, 3, 136, 0, 0, 0) := by decide +kernel
theorem t48_114 : zT 48 114 = some (.aload_n 2, 1, 2, 0, 0, 0) := by decide +kernel
theorem t48_115 : zT 48 115 = some (.iload_n 1, 1, 1, 0, 0, 0) := by decide +kernel
theorem t48_116 : zT 48 116 = some (.invokestatic 103, 3, 45, 1, 0, 763) := by decide +kernel
theorem t48_119 : zT 48 119 = some (.iload_n 3, 1, 3, 0, 0, 0) := by decide +kernel
theorem t48_120 : zT 48 120 = some (.iadd, 1, 0, 0, 0, 0) := by decide +kernel
theorem t48_121 : zT 48 121 = some (.aload_n 0, 1, 0, 0, 0, 0) := by decide +kernel
theorem t48_122 : zT 48 122 = some (.getfield 11, 3, 3, 0, 0, 285) := by decide +kernel
theorem t48_125 : zT 48 125 = some (.iload_n 3, 1, 3, 0, 0, 0) := by decide +kernel
theorem t48_126 : zT 48 126 = some (.iaload, 1, 0, 0, 0, 0) := by decide +kernel
theorem t48_127 : zT 48 127 = some (.invokevirtual 128, 3, 56, 0, 0, 809) := by decide +kernel
theorem t48_130 : zT 48 130 = some (.iinc 3 1, 3, 0, 0, 0, 0) := by decide +kernel
theorem t48_133 : zT 48 133 = some (.goto (-27), 3, 106, 0, 0, 0) := by decide +kernel
theorem t48_136 : zT 48 136 = some (.iconst 1, 1, 0, 0, 1, 0) := by decide +kernel
theorem t48_137 : zT 48 137 = some (.ireturn, 1, 0, 0, 0, 0) := by decide +kernel
theorem t49_0 : zT 49 0 = some (.aload_n 0, 1, 0, 0, 0, 0) := by decide +kernel
theorem t49_1 : zT 49 1 = some (.getfield 9, 3, 6, 0, 0, 151) := by decide +kernel
theorem t49_4 : zT 49 4 = some (.bipush 8, 2, 0, 0, 8, 0) := by decide +kernel
theorem t49_6 : zT 49 6 = some (.if_icmp .lt 5, 3, 11, 0, 0, 0) := by decide +kernel
theorem t49_9 : zT 49 9 = some (.iconst 0, 1, 0, 0, 0, 0) := by decide +kernel
theorem t49_10 : zT 49 10 = some (.ireturn, 1, 0, 0, 0, 0) := by decide +kernel
theorem t49_11 : zT 49 11 = some (.aload_n 0, 1, 0, 0, 0, 0) := by decide +kernel
theorem t49_12 : zT 49 12 = some (.getfield 15, 3, 6, 1, 0, 157) := by decide +kernel
theorem t49_15 : zT 49 15 = some (.aload_n 0, 1, 0, 0, 0, 0) := by decide +kernel
theorem t49_16 : zT 49 16 = some (.getfield 9, 3, 6, 0, 0, 151) := by decide +kernel
theorem t49_19 : zT 49 19 = some (.iload_n 1, 1, 1, 0, 0, 0) := by decide +kernel
theorem t49_20 : zT 49 20 = some (.iastore, 1, 0, 0, 0, 0) := by decide +kernel
theorem t49_21 : zT 49 21 = some (.aload_n 0, 1, 0, 0, 0, 0) := by decide +kernel
theorem t49_22 : zT 49 22 = some (.getfield 19, 3, 6, 2, 0, 161) := by decide +kernel
theorem t49_25 : zT 49 25 = some (.aload_n 0, 1, 0, 0, 0, 0) := by decide +kernel
theorem t49_26 : zT 49 26 = some (.getfield 9, 3, 6, 0, 0, 151) := by decide +kernel
theorem t49_29 : zT 49 29 = some (.iconst 1, 1, 0, 0, 1, 0) := by decide +kernel
theorem t49_30 : zT 49 30 = some (.bastore, 1, 0, 0, 0, 0) := by decide +kernel
theorem t49_31 : zT 49 31 = some (.aload_n 0, 1, 0, 0, 0, 0) := by decide +kernel
theorem t49_32 : zT 49 32 = some (.dup, 1, 0, 0, 0, 0) := by decide +kernel
theorem t49_33 : zT 49 33 = some (.getfield 9, 3, 6, 0, 0, 151) := by decide +kernel
theorem t49_36 : zT 49 36 = some (.iconst 1, 1, 0, 0, 1, 0) := by decide +kernel
theorem t49_37 : zT 49 37 = some (.iadd, 1, 0, 0, 0, 0) := by decide +kernel
theorem t49_38 : zT 49 38 = some (.putfield 9, 3, 6, 0, 0, 151) := by decide +kernel
theorem t49_41 : zT 49 41 = some (.iconst 1, 1, 0, 0, 1, 0) := by decide +kernel
theorem t49_42 : zT 49 42 = some (.ireturn, 1, 0, 0, 0, 0) := by decide +kernel
theorem t50_0 : zT 50 0 = some (.aload_n 0, 1, 0, 0, 0, 0) := by decide +kernel
theorem t50_1 : zT 50 1 = some (.iload_n 1, 1, 1, 0, 0, 0) := by decide +kernel
theorem t50_2 : zT 50 2 = some (.iload_n 2, 1, 2, 0, 0, 0) := by decide +kernel
theorem t50_3 : zT 50 3 = some (.iload_n 3, 1, 3, 0, 0, 0) := by decide +kernel
theorem t50_4 : zT 50 4 = some (.invokevirtual 119, 3, 51, 0, 0, 786) := by decide +kernel
theorem t50_7 : zT 50 7 = some (.ifCond .ne 5, 3, 12, 0, 0, 0) := by decide +kernel
theorem t50_10 : zT 50 10 = some (.iconst (-1), 1, 0, 0, (-1), 0) := by decide +kernel
theorem t50_11 : zT 50 11 = some (.ireturn, 1, 0, 0, 0, 0) := by decide +kernel
theorem t50_12 : zT 50 12 = some (.aload_n 0, 1, 0, 0, 0, 0) := by decide +kernel
theorem t50_13 : zT 50 13 = some (.getfield 26, 3, 6, 4, 0, 168) := by decide +kernel
theorem t50_16 : zT 50 16 = some (.aload_n 0, 1, 0, 0, 0, 0) := by decide +kernel
theorem t50_17 : zT 50 17 = some (.getfield 23, 3, 6, 3, 0, 164) := by decide +kernel
theorem t50_20 : zT 50 20 = some (.iload_n 1, 1, 1, 0, 0, 0) := by decide +kernel
theorem t50_21 : zT 50 21 = some (.iastore, 1, 0, 0, 0, 0) := by decide +kernel
theorem t50_22 : zT 50 22 = some (.aload_n 0, 1, 0, 0, 0, 0) := by decide +kernel
theorem t50_23 : zT 50 23 = some (.getfield 29, 3, 6, 5, 0, 171) := by decide +kernel
theorem t50_26 : zT 50 26 = some (.aload_n 0, 1, 0, 0, 0, 0) := by decide +kernel
theorem t50_27 : zT 50 27 = some (.getfield 23, 3, 6, 3, 0, 164) := by decide +kernel
theorem t50_30 : zT 50 30 = some (.iload_n 2, 1, 2, 0, 0, 0) := by decide +kernel
theorem t50_31 : zT 50 31 = some (.iastore, 1, 0, 0, 0, 0) := by decide +kernel
theorem t50_32 : zT 50 32 = some (.aload_n 0, 1, 0, 0, 0, 0) := by decide +kernel
theorem t50_33 : zT 50 33 = some (.getfield 32, 3, 6, 6, 0, 175) := by decide +kernel
theorem t50_36 : zT 50 36 = some (.aload_n 0, 1, 0, 0, 0, 0) := by decide +kernel
theorem t50_37 : zT 50 37 = some (.getfield 23, 3, 6, 3, 0, 164) := by decide +kernel
theorem t50_40 : zT 50 40 = some (.iload_n 3, 1, 3, 0, 0, 0) := by decide +kernel
theorem t50_41 : zT 50 41 = some (.iastore, 1, 0, 0, 0, 0) := by decide +kernel
theorem t50_42 : zT 50 42 = some (.aload_n 0, 1, 0, 0, 0, 0) := by decide +kernel
theorem t50_43 : zT 50 43 = some (.getfield 35, 3, 6, 7, 0, 177) := by decide +kernel
theorem t50_46 : zT 50 46 = some (.aload_n 0, 1, 0, 0, 0, 0) := by decide +kernel
theorem t50_47 : zT 50 47 = some (.getfield 23, 3, 6, 3, 0, 164) := by decide +kernel
theorem t50_50 : zT 50 50 = some (.iload 4, 2, 0, 0, 0, 0) := by decide +kernel
theorem t50_52 : zT 50 52 = some (.iastore, 1, 0, 0, 0, 0) := by decide +kernel
theorem t50_53 : zT 50 53 = some (.aload_n 0, 1, 0, 0, 0, 0) := by decide +kernel
theorem t50_54 : zT 50 54 = some (.dup, 1, 0, 0, 0, 0) := by decide +kernel
theorem t50_55 : zT 50 55 = some (.getfield 23, 3, 6, 3, 0, 164) := by decide +kernel
theorem t50_58 : zT 50 58 = some (.iconst 1, 1, 0, 0, 1, 0) := by decide +kernel
theorem t50_59 : zT 50 59 = some (.iadd, 1, 0, 0, 0, 0) := by decide +kernel
theorem t50_60 : zT 50 60 = some (.putfield 23, 3, 6, 3, 0, 164) := by decide +kernel
theorem t50_63 : zT 50 63 = some (.aload_n 0, 1, 0, 0, 0, 0) := by decide +kernel
theorem t50_64 : zT 50 64 = some (.getfield 23, 3, 6, 3, 0, 164) := by decide +kernel
theorem t50_67 : zT 50 67 = some (.iconst 1, 1, 0, 0, 1, 0) := by decide +kernel
theorem t50_68 : zT 50 68 = some (.isub, 1, 0, 0, 0, 0) := by decide +kernel
theorem t50_69 : zT 50 69 = some (.ireturn, 1, 0, 0, 0, 0) := by decide +kernel
theorem t51_8 : zT 51 8 = some (.iload_n 2, 1, 2, 0, 0, 0) := by decide +kernel
theorem t51_9 : zT 51 9 = some (.invokestatic 116, 3, 42, 2, 0, 791) := by decide +kernel
theorem t51_12 : zT 51 12 = some (.ifCond .eq 27, 3, 39, 0, 0, 0) := by decide +kernel
theorem t51_15 : zT 51 15 = some (.iload_n 3, 1, 3, 0, 0, 0) := by decide +kernel
theorem t51_16 : zT 51 16 = some (.iconst 0, 1, 0, 0, 0, 0) := by decide +kernel
theorem t51_17 : zT 51 17 = some (.sipush 999, 3, 0, 0, 999, 0) := by decide +kernel
theorem t51_20 : zT 51 20 = some (.invokestatic 91, 3, 39, 2, 0, 792) := by decide +kernel
theorem t51_23 : zT 51 23 = some (.ifCond .eq 16, 3, 39, 0, 0, 0) := by decide +kernel
theorem t51_26 : zT 51 26 = some (.aload_n 0, 1, 0, 0, 0, 0) := by decide +kernel
theorem t51_27 : zT 51 27 = some (.getfield 23, 3, 6, 3, 0, 164) := by decide +kernel
theorem t51_30 : zT 51 30 = some (.bipush 60, 2, 0, 0, 60, 0) := by decide +kernel
theorem t51_32 : zT 51 32 = some (.if_icmp .ge 7, 3, 39, 0, 0, 0) := by decide +kernel
theorem t51_35 : zT 51 35 = some (.iconst 1, 1, 0, 0, 1, 0) := by decide +kernel
theorem t51_36 : zT 51 36 = some (.goto 4, 3, 40, 0, 0, 0) := by decide +kernel
theorem t52_0 : zT 52 0 = some (.aload_n 0, 1, 0, 0, 0, 0) := by decide +kernel
theorem t52_1 : zT 52 1 = some (.getfield 38, 3, 6, 8, 0, 180) := by decide +kernel
theorem t52_4 : zT 52 4 = some (.bipush 12, 2, 0, 0, 12, 0) := by decide +kernel
theorem t52_6 : zT 52 6 = some (.if_icmp .lt 5, 3, 11, 0, 0, 0) := by decide +kernel
theorem t52_9 : zT 52 9 = some (.iconst 0, 1, 0, 0, 0, 0) := by decide +kernel
theorem t52_10 : zT 52 10 = some (.ireturn, 1, 0, 0, 0, 0) := by decide +kernel
theorem t52_11 : zT 52 11 = some (.aload_n 0, 1, 0, 0, 0, 0) := by decide +kernel
theorem t52_12 : zT 52 12 = some (.getfield 41, 3, 6, 9, 0, 184) := by decide +kernel
theorem t52_15 : zT 52 15 = some (.aload_n 0, 1, 0, 0, 0, 0) := by decide +kernel
theorem t52_16 : zT 52 16 = some (.getfield 38, 3, 6, 8, 0, 180) := by decide +kernel
theorem t52_19 : zT 52 19 = some (.iload_n 1, 1, 1, 0, 0, 0) := by decide +kernel
theorem t52_20 : zT 52 20 = some (.iastore, 1, 0, 0, 0, 0) := by decide +kernel
theorem t52_21 : zT 52 21 = some (.aload_n 0, 1, 0, 0, 0, 0) := by decide +kernel
theorem t52_22 : zT 52 22 = some (.getfield 44, 3, 6, 10, 0, 186) := by decide +kernel
theorem t52_25 : zT 52 25 = some (.aload_n 0, 1, 0, 0, 0, 0) := by decide +kernel
theorem t52_26 : zT 52 26 = some (.getfield 38, 3, 6, 8, 0, 180) := by decide +kernel
theorem t52_29 : zT 52 29 = some (.iload_n 2, 1, 2, 0, 0, 0) := by decide +kernel
theorem t52_30 : zT 52 30 = some (.iastore, 1, 0, 0, 0, 0) := by decide +kernel
theorem t52_31 : zT 52 31 = some (.aload_n 0, 1, 0, 0, 0, 0) := by decide +kernel
theorem t52_32 : zT 52 32 = some (.getfield 47, 3, 6, 11, 0, 188) := by decide +kernel
theorem t52_35 : zT 52 35 = some (.aload_n 0, 1, 0, 0, 0, 0) := by decide +kernel
theorem t52_36 : zT 52 36 = some (.getfield 38, 3, 6, 8, 0, 180) := by decide +kernel
theorem t52_39 : zT 52 39 = some (.iload_n 3, 1, 3, 0, 0, 0) := by decide +kernel
theorem t52_40 : zT 52 40 = some (.iastore, 1, 0, 0, 0, 0) := by decide +kernel
theorem t52_41 : zT 52 41 = some (.aload_n 0, 1, 0, 0, 0, 0) := by decide +kernel
theorem t52_42 : zT 52 42 = some (.dup, 1, 0, 0, 0, 0) := by decide +kernel
theorem t52_43 : zT 52 43 = some (.getfield 38, 3, 6, 8, 0, 180) := by decide +kernel
theorem t52_46 : zT 52 46 = some (.iconst 1, 1, 0, 0, 1, 0) := by decide +kernel
theorem t52_47 : zT 52 47 = some (.iadd, 1, 0, 0, 0, 0) := by decide +kernel
theorem t52_48 : zT 52 48 = some (.putfield 38, 3, 6, 8, 0, 180) := by decide +kernel
theorem t52_51 : zT 52 51 = some (.iconst 0, 1, 0, 0, 0, 0) := by decide +kernel
theorem t52_52 : zT 52 52 = some (.istore 4, 2, 0, 0, 0, 0) := by decide +kernel
theorem t52_54 : zT 52 54 = some (.iload 4, 2, 0, 0, 0, 0) := by decide +kernel
theorem t52_56 : zT 52 56 = some (.aload_n 0, 1, 0, 0, 0, 0) := by decide +kernel
theorem t52_57 : zT 52 57 = some (.getfield 9, 3, 6, 0, 0, 151) := by decide +kernel
theorem t52_60 : zT 52 60 = some (.if_icmp .ge 66, 3, 126, 0, 0, 0) := by decide +kernel
theorem t52_63 : zT 52 63 = some (.iload_n 1, 1, 1, 0, 0, 0) := by decide +kernel
theorem t52_64 : zT 52 64 = some (.aload_n 0, 1, 0, 0, 0, 0) := by decide +kernel
theorem t52_65 : zT 52 65 = some (.iload 4, 2, 0, 0, 0, 0) := by decide +kernel
theorem t52_67 : zT 52 67 = some (.iload_n 2, 1, 2, 0, 0, 0) := by decide +kernel
theorem t52_68 : zT 52 68 = some (.invokevirtual 104, 3, 53, 0, 0, 797) := by decide +kernel
theorem t52_71 : zT 52 71 = some (.iadd, 1, 0, 0, 0, 0) := by decide +kernel
theorem t52_72 : zT 52 72 = some (.aload_n 0, 1, 0, 0, 0, 0) := by decide +kernel
theorem t52_73 : zT 52 73 = some (.iload 4, 2, 0, 0, 0, 0) := by decide +kernel
theorem t52_75 : zT 52 75 = some (.iload_n 3, 1, 3, 0, 0, 0) := by decide +kernel
theorem t52_76 : zT 52 76 = some (.invokevirtual 107, 3, 55, 0, 0, 804) := by decide +kernel
theorem t52_79 : zT 52 79 = some (.iadd, 1, 0, 0, 0, 0) := by decide +kernel
theorem t52_80 : zT 52 80 = some (.istore 5, 2, 0, 0, 0, 0) := by decide +kernel
theorem t52_82 : zT 52 82 = some (.iload 5, 2, 0, 0, 0, 0) := by decide +kernel
theorem t52_84 : zT 52 84 = some (.invokestatic 116, 3, 42, 2, 0, 791) := by decide +kernel
theorem t52_87 : zT 52 87 = some (.ifCond .eq 33, 3, 120, 0, 0, 0) := by decide +kernel
theorem t52_90 : zT 52 90 = some (.aload_n 0, 1, 0, 0, 0, 0) := by decide +kernel
theorem t52_91 : zT 52 91 = some (.iload 4, 2, 0, 0, 0, 0) := by decide +kernel
theorem t52_93 : zT 52 93 = some (.iload 5, 2, 0, 0, 0, 0) := by decide +kernel
theorem t52_95 : zT 52 95 = some (.aload_n 0, 1, 0, 0, 0, 0) := by decide +kernel
theorem t52_96 : zT 52 96 = some (.getfield 15, 3, 6, 1, 0, 157) := by decide +kernel
theorem t52_99 : zT 52 99 = some (.iload 4, 2, 0, 0, 0, 0) := by decide +kernel
theorem t52_101 : zT 52 101 = some (.iaload, 1, 0, 0, 0, 0) := by decide +kernel
theorem t52_102 : zT 52 102 = some (.bipush 10, 2, 0, 0, 10, 0) := by decide +kernel
theorem t52_104 : zT 52 104 = some (.idiv, 1, 0, 0, 0, 0) := by decide +kernel
theorem t52_105 : zT 52 105 = some (.aload_n 0, 1, 0, 0, 0, 0) := by decide +kernel
theorem t52_106 : zT 52 106 = some (.getfield 38, 3, 6, 8, 0, 180) := by decide +kernel
theorem t52_109 : zT 52 109 = some (.iconst 1, 1, 0, 0, 1, 0) := by decide +kernel
theorem t52_110 : zT 52 110 = some (.isub, 1, 0, 0, 0, 0) := by decide +kernel
theorem t52_111 : zT 52 111 = some (.invokevirtual 122, 3, 50, 0, 0, 808) := by decide +kernel
theorem t52_114 : zT 52 114 = some (.iconst (-1), 1, 0, 0, (-1), 0) := by decide +kernel
theorem t52_115 : zT 52 115 = some (.if_icmp .ne 5, 3, 120, 0, 0, 0) := by decide +kernel
theorem t52_118 : zT 52 118 = some (.iconst 0, 1, 0, 0, 0, 0) := by decide +kernel
theorem t52_119 : zT 52 119 = some (.ireturn, 1, 0, 0, 0, 0) := by decide +kernel
theorem t52_120 : zT 52 120 = some (.iinc 4 1, 3, 0, 0, 0, 0) := by decide +kernel
theorem t52_123 : zT 52 123 = some (.goto (-69), 3, 54, 0, 0, 0) := by decide +kernel
theorem t52_126 : zT 52 126 = some (.iconst 1, 1, 0, 0, 1, 0) := by decide +kernel
theorem t52_127 : zT 52 127 = some (.ireturn, 1, 0, 0, 0, 0) := by decide +kernel
theorem t53_0 : zT 53 0 = some (.aload_n 0, 1, 0, 0, 0, 0) := by decide +kernel
theorem t53_1 : zT 53 1 = some (.iload_n 1, 1, 1, 0, 0, 0) := by decide +kernel
theorem t53_2 : zT 53 2 = some (.invokevirtual 98, 3, 41, 0, 0, 790) := by decide +kernel
theorem t53_5 : zT 53 5 = some (.ifCond .eq 19, 3, 24, 0, 0, 0) := by decide +kernel
theorem t53_8 : zT 53 8 = some (.iload_n 2, 1, 2, 0, 0, 0) := by decide +kernel
theorem t53_9 : zT 53 9 = some (.aload_n 0, 1, 0, 0, 0, 0) := by decide +kernel
theorem t53_10 : zT 53 10 = some (.getfield 15, 3, 6, 1, 0, 157) := by decide +kernel
theorem t53_13 : zT 53 13 = some (.iload_n 1, 1, 1, 0, 0, 0) := by decide +kernel
theorem t53_14 : zT 53 14 = some (.iaload, 1, 0, 0, 0, 0) := by decide +kernel
theorem t53_15 : zT 53 15 = some (.imul, 1, 0, 0, 0, 0) := by decide +kernel
theorem t53_16 : zT 53 16 = some (.bipush 100, 2, 0, 0, 100, 0) := by decide +kernel
theorem t53_18 : zT 53 18 = some (.invokestatic 101, 3, 54, 1, 0, 801) := by decide +kernel
theorem t53_21 : zT 53 21 = some (.goto 4, 3, 25, 0, 0, 0) := by decide +kernel
theorem t53_24 : zT 53 24 = some (.iconst 0, 1, 0, 0, 0, 0) := by decide +kernel
theorem t53_25 : zT 53 25 = some (.ireturn, 1, 0, 0, 0, 0) := by decide +kernel
theorem t54_0 : zT 54 0 = some (.iload_n 0, 1, 0, 0, 0, 0) := by decide +kernel
theorem t54_1 : zT 54 1 = some (.iload_n 1, 1, 1, 0, 0, 0) := by decide +kernel
theorem t54_2 : zT 54 2 = some (.idiv, 1, 0, 0, 0, 0) := by decide +kernel
theorem t54_3 : zT 54 3 = some (.istore_n 2, 1, 2, 0, 0, 0) := by decide +kernel
theorem t54_4 : zT 54 4 = some (.iload_n 0, 1, 0, 0, 0, 0) := by decide +kernel
theorem t54_5 : zT 54 5 = some (.iload_n 1, 1, 1, 0, 0, 0) := by decide +kernel
theorem t54_6 : zT 54 6 = some (.ixor, 1, 0, 0, 0, 0) := by decide +kernel
theorem t54_7 : zT 54 7 = some (.ifCond .ge 14, 3, 21, 0, 0, 0) := by decide +kernel
theorem t54_10 : zT 54 10 = some (.iload_n 2, 1, 2, 0, 0, 0) := by decide +kernel
theorem t54_11 : zT 54 11 = some (.iload_n 1, 1, 1, 0, 0, 0) := by decide +kernel
theorem t54_12 : zT 54 12 = some (.imul, 1, 0, 0, 0, 0) := by decide +kernel
theorem t54_13 : zT 54 13 = some (.iload_n 0, 1, 0, 0, 0, 0) := by decide +kernel
theorem t54_14 : zT 54 14 = some (.if_icmp .eq 7, 3, 21, 0, 0, 0) := by decide +kernel
theorem t54_17 : zT 54 17 = some (.iload_n 2, 1, 2, 0, 0, 0) := by decide +kernel
theorem t54_18 : zT 54 18 = some (.iconst 1, 1, 0, 0, 1, 0) := by decide +kernel
theorem t54_19 : zT 54 19 = some (.isub, 1, 0, 0, 0, 0) := by decide +kernel
theorem t54_20 : zT 54 20 = some (.ireturn, 1, 0, 0, 0, 0) := by decide +kernel
theorem t54_21 : zT 54 21 = some (.iload_n 2, 1, 2, 0, 0, 0) := by decide +kernel
theorem t54_22 : zT 54 22 = some (.ireturn, 1, 0, 0, 0, 0) := by decide +kernel
theorem t55_0 : zT 55 0 = some (.aload_n 0, 1, 0, 0, 0, 0) := by decide +kernel
theorem t55_1 : zT 55 1 = some (.iload_n 1, 1, 1, 0, 0, 0) := by decide +kernel
theorem t55_2 : zT 55 2 = some (.invokevirtual 98, 3, 41, 0, 0, 790) := by decide +kernel
theorem t55_5 : zT 55 5 = some (.ifCond .eq 27, 3, 32, 0, 0, 0) := by decide +kernel
theorem t55_8 : zT 55 8 = some (.iload_n 2, 1, 2, 0, 0, 0) := by decide +kernel
theorem t55_9 : zT 55 9 = some (.aload_n 0, 1, 0, 0, 0, 0) := by decide +kernel
theorem t55_10 : zT 55 10 = some (.getfield 15, 3, 6, 1, 0, 157) := by decide +kernel
theorem t55_13 : zT 55 13 = some (.iload_n 1, 1, 1, 0, 0, 0) := by decide +kernel
theorem t55_14 : zT 55 14 = some (.iaload, 1, 0, 0, 0, 0) := by decide +kernel
theorem t55_15 : zT 55 15 = some (.imul, 1, 0, 0, 0, 0) := by decide +kernel
theorem t55_16 : zT 55 16 = some (.aload_n 0, 1, 0, 0, 0, 0) := by decide +kernel
theorem t55_17 : zT 55 17 = some (.getfield 15, 3, 6, 1, 0, 157) := by decide +kernel
theorem t55_20 : zT 55 20 = some (.iload_n 1, 1, 1, 0, 0, 0) := by decide +kernel
theorem t55_21 : zT 55 21 = some (.iaload, 1, 0, 0, 0, 0) := by decide +kernel
theorem t55_22 : zT 55 22 = some (.imul, 1, 0, 0, 0, 0) := by decide +kernel
theorem t55_23 : zT 55 23 = some (.sipush 10000, 3, 0, 0, 10000, 0) := by decide +kernel
theorem t55_26 : zT 55 26 = some (.invokestatic 101, 3, 54, 1, 0, 801) := by decide +kernel
theorem t55_29 : zT 55 29 = some (.goto 4, 3, 33, 0, 0, 0) := by decide +kernel
theorem t55_32 : zT 55 32 = some (.iconst 0, 1, 0, 0, 0, 0) := by decide +kernel
theorem t55_33 : zT 55 33 = some (.ireturn, 1, 0, 0, 0, 0) := by decide +kernel
theorem t83_0 : zT 83 0 = some (.aload_n 1, 1, 1, 0, 0, 0) := by decide +kernel
theorem t83_1 : zT 83 1 = some (.invokevirtual 21, 3, 26, 0, 0, 689) := by decide +kernel
theorem t83_4 : zT 83 4 = some (.iconst 0, 1, 0, 0, 0, 0) := by decide +kernel
theorem t83_5 : zT 83 5 = some (.istore_n 2, 1, 2, 0, 0, 0) := by decide +kernel
theorem t83_6 : zT 83 6 = some (.iload_n 2, 1, 2, 0, 0, 0) := by decide +kernel
theorem t83_7 : zT 83 7 = some (.bipush 20, 2, 0, 0, 20, 0) := by decide +kernel
theorem t83_9 : zT 83 9 = some (.if_icmp .ge 27, 3, 36, 0, 0, 0) := by decide +kernel
theorem t83_12 : zT 83 12 = some (.aload_n 1, 1, 1, 0, 0, 0) := by decide +kernel
theorem t83_13 : zT 83 13 = some (.invokevirtual 26, 3, 27, 0, 0, 693) := by decide +kernel
theorem t83_16 : zT 83 16 = some (.ifCond .ne 20, 3, 36, 0, 0, 0) := by decide +kernel
theorem t83_19 : zT 83 19 = some (.aload_n 0, 1, 0, 0, 0, 0) := by decide +kernel
theorem t83_20 : zT 83 20 = some (.aload_n 1, 1, 1, 0, 0, 0) := by decide +kernel
theorem t83_21 : zT 83 21 = some (.iload_n 2, 1, 2, 0, 0, 0) := by decide +kernel
theorem t83_22 : zT 83 22 = some (.invokevirtual 132, 3, 84, 0, 0, 977) := by decide +kernel
theorem t83_25 : zT 83 25 = some (.ifCond .ne 5, 3, 30, 0, 0, 0) := by decide +kernel
theorem t83_28 : zT 83 28 = some (.iconst (-1), 1, 0, 0, (-1), 0) := by decide +kernel
theorem t83_29 : zT 83 29 = some (.ireturn, 1, 0, 0, 0, 0) := by decide +kernel
theorem t83_30 : zT 83 30 = some (.iinc 2 1, 3, 0, 0, 0, 0) := by decide +kernel
theorem t83_33 : zT 83 33 = some (.goto (-27), 3, 6, 0, 0, 0) := by decide +kernel
theorem t83_36 : zT 83 36 = some (.aload_n 1, 1, 1, 0, 0, 0) := by decide +kernel
theorem t83_37 : zT 83 37 = some (.invokevirtual 26, 3, 27, 0, 0, 693) := by decide +kernel
theorem t83_40 : zT 83 40 = some (.ifCond .ne 14, 3, 54, 0, 0, 0) := by decide +kernel
theorem t83_43 : zT 83 43 = some (.aload_n 1, 1, 1, 0, 0, 0) := by decide +kernel
theorem t83_44 : zT 83 44 = some (.aload_n 1, 1, 1, 0, 0, 0) := by decide +kernel
theorem t83_45 : zT 83 45 = some (.invokevirtual 34, 3, 29, 0, 0, 701) := by decide +kernel
theorem t83_48 : zT 83 48 = some (.invokevirtual 49, 3, 34, 0, 0, 719) := by decide +kernel
theorem t83_51 : zT 83 51 = some (.pop, 1, 0, 0, 0, 0) := by decide +kernel
theorem t83_52 : zT 83 52 = some (.iconst (-1), 1, 0, 0, (-1), 0) := by decide +kernel
theorem t83_53 : zT 83 53 = some (.ireturn, 1, 0, 0, 0, 0) := by decide +kernel
theorem t83_54 : zT 83 54 = some (.iload_n 2, 1, 2, 0, 0, 0) := by decide +kernel
theorem t83_55 : zT 83 55 = some (.ireturn, 1, 0, 0, 0, 0) := by decide +kernel
theorem t84_0 : zT 84 0 = some (.aload_n 1, 1, 1, 0, 0, 0) := by decide +kernel
theorem t84_1 : zT 84 1 = some (.invokevirtual 34, 3, 29, 0, 0, 701) := by decide +kernel
theorem t84_4 : zT 84 4 = some (.istore_n 3, 1, 3, 0, 0, 0) := by decide +kernel
theorem t84_5 : zT 84 5 = some (.aload_n 1, 1, 1, 0, 0, 0) := by decide +kernel
theorem t84_6 : zT 84 6 = some (.invokevirtual 38, 3, 30, 0, 0, 705) := by decide +kernel
theorem t84_9 : zT 84 9 = some (.istore 4, 2, 0, 0, 0, 0) := by decide +kernel
theorem t84_11 : zT 84 11 = some (.iload 4, 2, 0, 0, 0, 0) := by decide +kernel
theorem t84_13 : zT 84 13 = some (.invokestatic 136, 3, 85, 1, 0, 981) := by decide +kernel
theorem t84_16 : zT 84 16 = some (.istore 5, 2, 0, 0, 0, 0) := by decide +kernel
theorem t84_18 : zT 84 18 = some (.iload 5, 2, 0, 0, 0, 0) := by decide +kernel
theorem t84_20 : zT 84 20 = some (.ifCond .ne 9, 3, 29, 0, 0, 0) := by decide +kernel
theorem t84_23 : zT 84 23 = some (.aload_n 1, 1, 1, 0, 0, 0) := by decide +kernel
theorem t84_24 : zT 84 24 = some (.iload_n 3, 1, 3, 0, 0, 0) := by decide +kernel
theorem t84_25 : zT 84 25 = some (.invokevirtual 49, 3, 34, 0, 0, 719) := by decide +kernel
theorem t84_28 : zT 84 28 = some (.ireturn, 1, 0, 0, 0, 0) := by decide +kernel
theorem t84_29 : zT 84 29 = some (.aload_n 0, 1, 0, 0, 0, 0) := by decide +kernel
theorem t84_30 : zT 84 30 = some (.getfield 15, 3, 3, 1, 0, 286) := by decide +kernel
theorem t84_33 : zT 84 33 = some (.iload_n 2, 1, 2, 0, 0, 0) := by decide +kernel
theorem t84_34 : zT 84 34 = some (.iload 4, 2, 0, 0, 0, 0) := by decide +kernel
theorem t84_36 : zT 84 36 = some (.iastore, 1, 0, 0, 0, 0) := by decide +kernel
theorem t84_37 : zT 84 37 = some (.iconst 0, 1, 0, 0, 0, 0) := by decide +kernel
theorem t84_38 : zT 84 38 = some (.istore 6, 2, 0, 0, 0, 0) := by decide +kernel
theorem t84_40 : zT 84 40 = some (.iload 6, 2, 0, 0, 0, 0) := by decide +kernel
theorem t84_42 : zT 84 42 = some (.iload 5, 2, 0, 0, 0, 0) := by decide +kernel
theorem t84_44 : zT 84 44 = some (.if_icmp .ge 58, 3, 102, 0, 0, 0) := by decide +kernel
theorem t84_47 : zT 84 47 = some (.aload_n 1, 1, 1, 0, 0, 0) := by decide +kernel
theorem t84_48 : zT 84 48 = some (.invokevirtual 53, 3, 35, 0, 0, 723) := by decide +kernel
theorem t84_51 : zT 84 51 = some (.ifCond .ne 5, 3, 56, 0, 0, 0) := by decide +kernel
theorem t84_54 : zT 84 54 = some (.iconst 0, 1, 0, 0, 0, 0) := by decide +kernel
theorem t84_55 : zT 84 55 = some (.ireturn, 1, 0, 0, 0, 0) := by decide +kernel
theorem t84_56 : zT 84 56 = some (.aload_n 0, 1, 0, 0, 0, 0) := by decide +kernel
theorem t84_57 : zT 84 57 = some (.getfield 18, 3, 3, 2, 0, 287) := by decide +kernel
theorem t84_60 : zT 84 60 = some (.iload_n 2, 1, 2, 0, 0, 0) := by decide +kernel
theorem t84_61 : zT 84 61 = some (.iconst 4, 1, 0, 0, 4, 0) := by decide +kernel
theorem t84_62 : zT 84 62 = some (.imul, 1, 0, 0, 0, 0) := by decide +kernel
theorem t84_63 : zT 84 63 = some (.iload 6, 2, 0, 0, 0, 0) := by decide +kernel
theorem t84_65 : zT 84 65 = some (.iadd, 1, 0, 0, 0, 0) := by decide +kernel
theorem t84_66 : zT 84 66 = some (.aload_n 1, 1, 1, 0, 0, 0) := by decide +kernel
theorem t84_67 : zT 84 67 = some (.invokevirtual 56, 3, 37, 0, 0, 732) := by decide +kernel
theorem t84_70 : zT 84 70 = some (.iastore, 1, 0, 0, 0, 0) := by decide +kernel
theorem t84_71 : zT 84 71 = some (.aload_n 1, 1, 1, 0, 0, 0) := by decide +kernel
theorem t84_72 : zT 84 72 = some (.iload 6, 2, 0, 0, 0, 0) := by decide +kernel
theorem t84_74 : zT 84 74 = some (.iconst 1, 1, 0, 0, 1, 0) := by decide +kernel
theorem t84_75 : zT 84 75 = some (.iadd, 1, 0, 0, 0, 0) := by decide +kernel
theorem t84_76 : zT 84 76 = some (.iload 5, 2, 0, 0, 0, 0) := by decide +kernel
theorem t84_78 : zT 84 78 = some (.if_icmp .ge 8, 3, 86, 0, 0, 0) := by decide +kernel
theorem t84_81 : zT 84 81 = some (.bipush 44, 2, 0, 0, 44, 0) := by decide +kernel
theorem t84_83 : zT 84 83 = some (.goto 5, 3, 88, 0, 0, 0) := by decide +kernel
theorem t84_86 : zT 84 86 = some (.bipush 59, 2, 0, 0, 59, 0) := by decide +kernel
theorem t84_88 : zT 84 88 = some (.invokevirtual 66, 3, 47, 0, 0, 770) := by decide +kernel
theorem t84_91 : zT 84 91 = some (.ifCond .ne 5, 3, 96, 0, 0, 0) := by decide +kernel
theorem t84_94 : zT 84 94 = some (.iconst 0, 1, 0, 0, 0, 0) := by decide +kernel
theorem t84_95 : zT 84 95 = some (.ireturn, 1, 0, 0, 0, 0) := by decide +kernel
theorem t84_96 : zT 84 96 = some (.iinc 6 1, 3, 0, 0, 0, 0) := by decide +kernel
theorem t84_99 : zT 84 99 = some (.goto (-59), 3, 40, 0, 0, 0) := by decide +kernel
theorem t84_102 : zT 84 102 = some (.iconst 1, 1, 0, 0, 1, 0) := by decide +kernel
theorem t84_103 : zT 84 103 = some (.ireturn, 1, 0, 0, 0, 0) := by decide +kernel
theorem t85_0 : zT 85 0 = some (.iload_n 0, 1, 0, 0, 0, 0) := by decide +kernel
theorem t85_1 : zT 85 1 = some (.lookupswitch 47 #[(100, 45), (104, 43), (110, 45), (120, 45)], 43, 0, 0, 0, 0) := by decide +kernel
theorem t85_44 : zT 85 44 = some (.iconst 3, 1, 0, 0, 3, 0) := by decide +kernel
theorem t85_45 : zT 85 45 = some (.ireturn, 1, 0, 0, 0, 0) := by decide +kernel
theorem t85_46 : zT 85 46 = some (.iconst 1, 1, 0, 0, 1, 0) := by decide +kernel
theorem t85_47 : zT 85 47 = some (.ireturn, 1, 0, 0, 0, 0) := by decide +kernel
theorem t85_48 : zT 85 48 = some (.iconst 0, 1, 0, 0, 0, 0) := by decide +kernel
theorem t85_49 : zT 85 49 = some (.ireturn, 1, 0, 0, 0, 0) := by decide +kernel
theorem fk_zMc_10 : zK zMc 10 = (20, 60) := by decide +kernel
theorem fk_zMc_11 : zK zMc 11 = (20, 60) := by decide +kernel
theorem fk_zMc_12 : zK zMc 12 = (20, 60) := by decide +kernel
theorem fk_zMc_13 : zK zMc 13 = (20, 60) := by decide +kernel
theorem fk_zMc_156 : zK zMc 156 = (21, 500) := by decide +kernel
theorem fk_zMc_157 : zK zMc 157 = (3, 0) := by decide +kernel
theorem fk_zMc_158 : zK zMc 158 = (20, 4) := by decide +kernel
theorem fk_zMc_159 : zK zMc 159 = (20, 20) := by decide +kernel
theorem fk_zMc_160 : zK zMc 160 = (20, 80) := by decide +kernel
theorem fk_zMc_19 : zK zMc 19 = (6, 0) := by decide +kernel
theorem fk_zMc_2 : zK zMc 2 = (20, 9) := by decide +kernel
theorem fk_zMc_20 : zK zMc 20 = (20, 8) := by decide +kernel
theorem fk_zMc_21 : zK zMc 21 = (22, 8) := by decide +kernel
theorem fk_zMc_22 : zK zMc 22 = (20, 60) := by decide +kernel
theorem fk_zMc_23 : zK zMc 23 = (20, 60) := by decide +kernel
theorem fk_zMc_24 : zK zMc 24 = (20, 60) := by decide +kernel
theorem fk_zMc_25 : zK zMc 25 = (20, 60) := by decide +kernel
theorem fk_zMc_26 : zK zMc 26 = (20, 12) := by decide +kernel
theorem fk_zMc_27 : zK zMc 27 = (20, 12) := by decide +kernel
theorem fk_zMc_28 : zK zMc 28 = (20, 12) := by decide +kernel
theorem fk_zMc_29 : zK zMc 29 = (20, 9) := by decide +kernel
theorem fk_zMc_3 : zK zMc 3 = (20, 9) := by decide +kernel
theorem fk_zMc_8 : zK zMc 8 = (20, 8) := by decide +kernel
theorem fv_zMc_155_0 : zfv zMc 155 (cY 7 0) 0 = .ref 156 := by decide +kernel
theorem fv_zMc_157_0 : zfv zMc 157 (cY 3 0) 0 = .ref 158 := by decide +kernel
theorem fv_zMc_157_1 : zfv zMc 157 (cY 3 1) 1 = .ref 159 := by decide +kernel
theorem fv_zMc_157_2 : zfv zMc 157 (cY 3 2) 2 = .ref 160 := by decide +kernel
theorem fv_zMc_19_1 : zfv zMc 19 (cY 6 1) 1 = .ref 20 := by decide +kernel
theorem fv_zMc_19_10 : zfv zMc 19 (cY 6 10) 10 = .ref 27 := by decide +kernel
theorem fv_zMc_19_11 : zfv zMc 19 (cY 6 11) 11 = .ref 28 := by decide +kernel
theorem fv_zMc_19_12 : zfv zMc 19 (cY 6 12) 12 = .ref 29 := by decide +kernel
theorem fv_zMc_19_2 : zfv zMc 19 (cY 6 2) 2 = .ref 21 := by decide +kernel
theorem fv_zMc_19_4 : zfv zMc 19 (cY 6 4) 4 = .ref 22 := by decide +kernel
theorem fv_zMc_19_5 : zfv zMc 19 (cY 6 5) 5 = .ref 23 := by decide +kernel
theorem fv_zMc_19_6 : zfv zMc 19 (cY 6 6) 6 = .ref 24 := by decide +kernel
theorem fv_zMc_19_7 : zfv zMc 19 (cY 6 7) 7 = .ref 25 := by decide +kernel
theorem fv_zMc_19_9 : zfv zMc 19 (cY 6 9) 9 = .ref 26 := by decide +kernel
theorem fv_zMc_7_1 : zfv zMc 7 (cY 6 1) 1 = .ref 8 := by decide +kernel
theorem fv_zMc_7_4 : zfv zMc 7 (cY 6 4) 4 = .ref 10 := by decide +kernel
theorem fv_zMc_7_5 : zfv zMc 7 (cY 6 5) 5 = .ref 11 := by decide +kernel
theorem fv_zMc_7_6 : zfv zMc 7 (cY 6 6) 6 = .ref 12 := by decide +kernel
theorem fv_zMc_7_7 : zfv zMc 7 (cY 6 7) 7 = .ref 13 := by decide +kernel
theorem ib155_1 {M : zM} (h : zIv cLo cHi M) : 0 ≤ (zI M 155 1).toInt ∧ (zI M 155 1).toInt ≤ 500 := h 155 1
theorem ib155_2 {M : zM} (h : zIv cLo cHi M) : (-2147483648) ≤ (zI M 155 2).toInt ∧ (zI M 155 2).toInt ≤ 2147483647 := h 155 2
theorem ib155_4 {M : zM} (h : zIv cLo cHi M) : (-2147483648) ≤ (zI M 155 4).toInt ∧ (zI M 155 4).toInt ≤ 2147483647 := h 155 4
theorem ib155_5 {M : zM} (h : zIv cLo cHi M) : (-2147483648) ≤ (zI M 155 5).toInt ∧ (zI M 155 5).toInt ≤ 2147483647 := h 155 5
theorem ib156 {M : zM} (h : zIv cLo cHi M) (j : Nat) : (-128) ≤ (zI M 156 j).toInt ∧ (zI M 156 j).toInt ≤ 127 := h 156 j
theorem ib158 {M : zM} (h : zIv cLo cHi M) (j : Nat) : (-2147483648) ≤ (zI M 158 j).toInt ∧ (zI M 158 j).toInt ≤ 2147483647 := h 158 j
theorem ib19_0 {M : zM} (h : zIv cLo cHi M) : 0 ≤ (zI M 19 0).toInt ∧ (zI M 19 0).toInt ≤ 8 := h 19 0
theorem ib19_3 {M : zM} (h : zIv cLo cHi M) : 0 ≤ (zI M 19 3).toInt ∧ (zI M 19 3).toInt ≤ 60 := h 19 3
theorem ib19_8 {M : zM} (h : zIv cLo cHi M) : 0 ≤ (zI M 19 8).toInt ∧ (zI M 19 8).toInt ≤ 12 := h 19 8
theorem ib2 {M : zM} (h : zIv cLo cHi M) (j : Nat) : (-2147483648) ≤ (zI M 2 j).toInt ∧ (zI M 2 j).toInt ≤ 2147483647 := h 2 j
theorem ib20 {M : zM} (h : zIv cLo cHi M) (j : Nat) : (-2147483648) ≤ (zI M 20 j).toInt ∧ (zI M 20 j).toInt ≤ 2147483647 := h 20 j
theorem ib3 {M : zM} (h : zIv cLo cHi M) (j : Nat) : (-2147483648) ≤ (zI M 3 j).toInt ∧ (zI M 3 j).toInt ≤ 2147483647 := h 3 j
theorem ib7_0 {M : zM} (h : zIv cLo cHi M) : 0 ≤ (zI M 7 0).toInt ∧ (zI M 7 0).toInt ≤ 8 := h 7 0
theorem ib7_3 {M : zM} (h : zIv cLo cHi M) : 0 ≤ (zI M 7 3).toInt ∧ (zI M 7 3).toInt ≤ 60 := h 7 3
theorem ib8 {M : zM} (h : zIv cLo cHi M) (j : Nat) : (-2147483648) ≤ (zI M 8 j).toInt ∧ (zI M 8 j).toInt ≤ 2147483647 := h 8 j
theorem C31_155 {X : zX} {l : Launch} {M : zM} {Q : Option Value → zM → Prop} (hs : zSk zMc M) (hI : zIv cLo cHi M) (hQ : ∀ v : Int32, (-1) ≤ v.toInt → v.toInt ≤ 255 → Q (some (.int v)) M) : zCall X l 0 0 0 31 [.ref 155] M Q := by
  refine zs_in (by decide) mf31 (Nat.le_of_ble_eq_true rfl) ?_
  show zGo X l 0 0 0 31 0 [(0, .ref 155)] [] M _
  refine zs_aload_n (pc := 0) t31_0 rfl ?_
  have w1 := ib155_2 hI
  refine zs_get (pc := 1) t31_1 (by decide) (zk1 (hs.k fk_zMc_155)) (zfvi rfl rfl) ?_
  by_cases w2 : (zI M 155 2).toInt < 0
  · refine zs_if_ltT (pc := 4) t31_4 rfl (by omega) ?_
    refine zs_iconst (pc := 34) t31_34 (v := -1) (by decide) ?_
    exact zs_iret (pc := 35) t31_35 mr31 (by decide) (hQ _ (by decide) (by decide))
  · refine zs_if_ltF (pc := 4) t31_4 rfl (by omega) ?_
    refine zs_aload_n (pc := 7) t31_7 rfl ?_
    refine zs_get (pc := 8) t31_8 (by decide) (zk1 (hs.k fk_zMc_155)) (zfvi rfl rfl) ?_
    refine zs_aload_n (pc := 11) t31_11 rfl ?_
    have w3 := ib155_1 hI
    refine zs_get (pc := 12) t31_12 (by decide) (zk1 (hs.k fk_zMc_155)) (zfvi rfl rfl) ?_
    by_cases w4 : (zI M 155 1).toInt ≤ (zI M 155 2).toInt
    · refine zs_icmp_geT (pc := 15) t31_15 rfl rfl (by omega) ?_
      refine zs_iconst (pc := 34) t31_34 (v := -1) (by decide) ?_
      exact zs_iret (pc := 35) t31_35 mr31 (by decide) (hQ _ (by decide) (by decide))
    · refine zs_icmp_geF (pc := 15) t31_15 rfl rfl (by omega) ?_
      refine zs_aload_n (pc := 18) t31_18 rfl ?_
      refine zs_get (pc := 19) t31_19 (by decide) (zk1 (hs.k fk_zMc_155)) (hs.p rfl fv_zMc_155_0) ?_
      refine zs_aload_n (pc := 22) t31_22 rfl ?_
      refine zs_get (pc := 23) t31_23 (by decide) (zk1 (hs.k fk_zMc_155)) (zfvi rfl rfl) ?_
      obtain ⟨w5n, w5⟩ : ∃ n : Nat, (zI M 155 2).toInt = (n : Int) := ⟨(zI M 155 2).toInt.toNat, by omega⟩
      have w6 := ib156 hI w5n
      refine zs_bald (pc := 26) t31_26 (j := w5n) (Or.inl (zk1 (hs.k fk_zMc_156))) w5 (zk2 (hs.k fk_zMc_156) (by omega)) rfl ?_
      refine zs_sipush (pc := 27) t31_27 (v := 255) (by decide) ?_
      obtain ⟨w7v, w7⟩ : ∃ v, (zI M 156 w5n) &&& (255 : Int32) = v := ⟨_, rfl⟩
      have w7g : 0 ≤ w7v.toInt ∧ w7v.toInt ≤ 255 := by rw [← w7]; exact zand li255 (by decide)
      refine zs_iand (pc := 30) t31_30 (c := w7v) w7 ?_
      refine zs_goto (pc := 31) t31_31 ?_
      exact zs_iret (pc := 35) t31_35 mr31 rfl (hQ _ (by omega) (by omega))
theorem C30_155 {X : zX} {l : Launch} {M : zM} {Q : Option Value → zM → Prop} (hs : zSk zMc M) (hI : zIv cLo cHi M) (hQ : ∀ (M' : zM) (v : Int32), zSk zMc M' → zIv cLo cHi M' → zFr [(155, 155, none)] M M' → (-1) ≤ v.toInt → v.toInt ≤ 255 → Q (some (.int v)) M') : zCall X l 1 0 0 30 [.ref 155] M Q := by
  refine zs_in (by decide) mf30 (Nat.le_of_ble_eq_true rfl) ?_
  show zGo X l 1 0 0 30 0 [(0, .ref 155)] [] M _
  refine zs_aload_n (pc := 0) t30_0 rfl ?_
  refine zs_invV (pc := 1) (k := 155) (as' := []) (st := []) t30_1 mf31 rfl rfl (Or.inl ⟨by decide, (zk1 (hs.k fk_zMc_155))⟩) ⟨by decide, by decide, Nat.le_of_ble_eq_true rfl, Nat.le_of_ble_eq_true rfl⟩ (C31_155 hs hI ?_) (fun _ _ q => q)
  intro w1v w1a w1b
  show zGo X l 1 0 0 30 4 [(0, .ref 155)] [.int w1v] M _
  refine zs_istore_n (pc := 4) t30_4 (ls' := [(1, .int w1v), (0, .ref 155)]) (zml mf30 (by decide)) rfl ?_
  refine zs_iload_n (pc := 5) t30_5 rfl ?_
  refine zs_iconst (pc := 6) t30_6 (v := -1) (by decide) ?_
  by_cases w2 : w1v.toInt = (-1)
  · refine zs_icmp_eqT (pc := 7) t30_7 rfl lin1 (by omega) ?_
    refine zs_iload_n (pc := 20) t30_20 rfl ?_
    exact zs_iret (pc := 21) t30_21 mr30 rfl (hQ _ _ hs hI (zFr.refl) (by omega) (by omega))
  · refine zs_icmp_eqF (pc := 7) t30_7 rfl lin1 (by omega) ?_
    refine zs_aload_n (pc := 10) t30_10 rfl ?_
    refine zs_dup (pc := 11) t30_11 rfl ?_
    have w3 := ib155_2 hI
    refine zs_get (pc := 12) t30_12 (by decide) (zk1 (hs.k fk_zMc_155)) (zfvi rfl rfl) ?_
    refine zs_iconst (pc := 15) t30_15 (v := 1) (by decide) ?_
    obtain ⟨w4v, w4⟩ : ∃ v, v = (zI M 155 2) + (1 : Int32) := ⟨_, rfl⟩
    have w4g := zrg w4v
    refine zs_iadd (pc := 16) t30_16 (c := w4v) w4.symm ?_
    have w5 : zIv cLo cHi (zsI M 155 2 w4v) := zIv.put hI (show (-2147483648) ≤ w4v.toInt ∧ w4v.toInt ≤ 2147483647 from (zrg w4v))
    refine zs_putI (pc := 17) t30_17 (zk1 (hs.k fk_zMc_155)) rfl ?_
    refine zs_iload_n (pc := 20) t30_20 rfl ?_
    exact zs_iret (pc := 21) t30_21 mr30 rfl (hQ _ _ hs w5 ((zFr.refl).put rfl) (by omega) (by omega))
theorem C35_155 {X : zX} {l : Launch} {M : zM} {Q : Option Value → zM → Prop} (hs : zSk zMc M) (hI : zIv cLo cHi M) (hQ : ∀ (M' : zM) (v : Int32), zSk zMc M' → zIv cLo cHi M' → zFr [(155, 155, none)] M M' → 0 ≤ v.toInt → v.toInt ≤ 1 → Q (some (.int v)) M') : zCall X l 2 0 0 35 [.ref 155] M Q := by
  refine zs_in (by decide) mf35 (Nat.le_of_ble_eq_true rfl) ?_
  show zGo X l 2 0 0 35 0 [(0, .ref 155)] [] M _
  refine zs_aload_n (pc := 0) t35_0 rfl ?_
  refine zs_aload_n (pc := 1) t35_1 rfl ?_
  have w1 := ib155_2 hI
  refine zs_get (pc := 2) t35_2 (by decide) (zk1 (hs.k fk_zMc_155)) (zfvi rfl rfl) ?_
  have w2 : zIv cLo cHi (zsI M 155 5 (zI M 155 2)) := zIv.put hI (show (-2147483648) ≤ (zI M 155 2).toInt ∧ (zI M 155 2).toInt ≤ 2147483647 from (zrg (zI M 155 2)))
  refine zs_putI (pc := 5) t35_5 (zk1 (hs.k fk_zMc_155)) rfl ?_
  refine zs_aload_n (pc := 8) t35_8 rfl ?_
  refine zs_invV (pc := 9) (k := 155) (as' := []) (st := []) t35_9 mf31 rfl rfl (Or.inl ⟨by decide, (zk1 (hs.k fk_zMc_155))⟩) ⟨by decide, by decide, Nat.le_of_ble_eq_true rfl, Nat.le_of_ble_eq_true rfl⟩ (C31_155 hs w2 ?_) (fun _ _ q => q)
  intro w3v w3a w3b
  show zGo X l 2 0 0 35 12 [(0, .ref 155)] [.int w3v] (zsI M 155 5 (zI M 155 2)) _
  refine zs_bipush (pc := 12) t35_12 (v := 45) (by decide) ?_
  by_cases w4 : w3v.toInt ≠ 45
  · refine zs_icmp_neT (pc := 14) t35_14 rfl li45 (by omega) ?_
    refine zs_iconst (pc := 21) t35_21 (v := 0) (by decide) ?_
    refine zs_istore_n (pc := 22) t35_22 (ls' := [(1, .int (0 : Int32)), (0, .ref 155)]) (zml mf35 (by decide)) rfl ?_
    refine zs_iload_n (pc := 23) t35_23 rfl ?_
    refine zs_if_eqT (pc := 24) t35_24 li0 (by decide) ?_
    refine zs_iconst (pc := 37) t35_37 (v := 0) (by decide) ?_
    refine zs_istore_n (pc := 38) t35_38 (ls' := [(2, .int (0 : Int32)), (1, .int (0 : Int32)), (0, .ref 155)]) (zml mf35 (by decide)) rfl ?_
    refine zs_iconst (pc := 39) t35_39 (v := 0) (by decide) ?_
    refine zs_istore_n (pc := 40) t35_40 (ls' := [(3, .int (0 : Int32)), (2, .int (0 : Int32)), (1, .int (0 : Int32)), (0, .ref 155)]) (zml mf35 (by decide)) rfl ?_
    have w5L : ∀ (m : Nat) (w5x2 : Int32) (w5x3 : Int32) (w5M : zM), (0 ≤ w5x3.toInt ∧ w5x3.toInt ≤ 4) → zSk zMc w5M → zIv cLo cHi w5M → zFr [(155, 155, none)] (zsI M 155 5 (zI M 155 2)) w5M → 4 - w5x3.toInt ≤ (m : Int) → zGo X l 2 0 0 35 41 [(0, .ref 155), (1, .int (0 : Int32)), (2, .int w5x2), (3, .int w5x3)] [] w5M Q := by
      intro m
      induction m using Nat.strongRecOn with
      | ind w5m w5ih =>
        intro w5x2 w5x3 w5M w5b3 w5s w5I w5F w5q
        have w5g2 := zrg w5x2
        refine zs_iload_n (pc := 41) t35_41 rfl ?_
        refine zs_iconst (pc := 42) t35_42 (v := 4) (by decide) ?_
        by_cases w6 : 4 ≤ w5x3.toInt
        · refine zs_icmp_geT (pc := 43) t35_43 rfl li4 (by omega) ?_
          refine zs_iload_n (pc := 75) t35_75 rfl ?_
          refine zs_if_eqF (pc := 76) t35_76 rfl (by omega) ?_
          refine zs_aload_n (pc := 79) t35_79 rfl ?_
          refine zs_invV (pc := 80) (k := 155) (as' := []) (st := []) t35_80 mf31 rfl rfl (Or.inl ⟨by decide, (zk1 (w5s.k fk_zMc_155))⟩) ⟨by decide, by decide, Nat.le_of_ble_eq_true rfl, Nat.le_of_ble_eq_true rfl⟩ (C31_155 w5s w5I ?_) (fun _ _ q => q)
          intro w7v w7a w7b
          show zGo X l 2 0 0 35 83 [(0, .ref 155), (1, .int (0 : Int32)), (2, .int w5x2), (3, .int w5x3)] [.int w7v] w5M _
          refine zs_invS (pc := 83) (as := [.int w7v]) (st := []) t35_83 (by decide) mf36 rfl rfl ⟨by decide, by decide, Nat.le_of_ble_eq_true rfl, Nat.le_of_ble_eq_true rfl⟩ (zs_in (by decide) mf36 (Nat.le_of_ble_eq_true rfl) ?_) (fun _ _ q => q)
          show zGo X l 0 0 0 36 0 [(0, .int w7v)] [] w5M _
          refine zs_iload_n (pc := 0) t36_0 rfl ?_
          refine zs_bipush (pc := 1) t36_1 (v := 48) (by decide) ?_
          by_cases w8 : w7v.toInt < 48
          · refine zs_icmp_ltT (pc := 3) t36_3 rfl li48 (by omega) ?_
            refine zs_iconst (pc := 16) t36_16 (v := 0) (by decide) ?_
            refine zs_iret (pc := 17) t36_17 mr36 (by decide) ?_
            show zGo X l 2 0 0 35 86 [(0, .ref 155), (1, .int (0 : Int32)), (2, .int w5x2), (3, .int w5x3)] [.int (0 : Int32)] w5M _
            refine zs_if_eqT (pc := 86) t35_86 li0 (by decide) ?_
            refine zs_aload_n (pc := 98) t35_98 rfl ?_
            refine zs_iload_n (pc := 99) t35_99 rfl ?_
            refine zs_if_eqT (pc := 100) t35_100 li0 (by decide) ?_
            refine zs_iload_n (pc := 108) t35_108 rfl ?_
            have w9 : zIv cLo cHi (zsI w5M 155 4 w5x2) := zIv.put w5I (show (-2147483648) ≤ w5x2.toInt ∧ w5x2.toInt ≤ 2147483647 from (zrg w5x2))
            refine zs_putI (pc := 109) t35_109 (zk1 (w5s.k fk_zMc_155)) rfl ?_
            refine zs_iconst (pc := 112) t35_112 (v := 1) (by decide) ?_
            exact zs_iret (pc := 113) t35_113 mr35 (by decide) (hQ _ _ w5s w9 ((((zFr.refl).put rfl).trans (w5F.mono rfl)).put rfl) (by decide) (by decide))
          · refine zs_icmp_ltF (pc := 3) t36_3 rfl li48 (by omega) ?_
            refine zs_iload_n (pc := 6) t36_6 rfl ?_
            refine zs_bipush (pc := 7) t36_7 (v := 57) (by decide) ?_
            by_cases w10 : 57 < w7v.toInt
            · refine zs_icmp_gtT (pc := 9) t36_9 rfl li57 (by omega) ?_
              refine zs_iconst (pc := 16) t36_16 (v := 0) (by decide) ?_
              refine zs_iret (pc := 17) t36_17 mr36 (by decide) ?_
              show zGo X l 2 0 0 35 86 [(0, .ref 155), (1, .int (0 : Int32)), (2, .int w5x2), (3, .int w5x3)] [.int (0 : Int32)] w5M _
              refine zs_if_eqT (pc := 86) t35_86 li0 (by decide) ?_
              refine zs_aload_n (pc := 98) t35_98 rfl ?_
              refine zs_iload_n (pc := 99) t35_99 rfl ?_
              refine zs_if_eqT (pc := 100) t35_100 li0 (by decide) ?_
              refine zs_iload_n (pc := 108) t35_108 rfl ?_
              have w11 : zIv cLo cHi (zsI w5M 155 4 w5x2) := zIv.put w5I (show (-2147483648) ≤ w5x2.toInt ∧ w5x2.toInt ≤ 2147483647 from (zrg w5x2))
              refine zs_putI (pc := 109) t35_109 (zk1 (w5s.k fk_zMc_155)) rfl ?_
              refine zs_iconst (pc := 112) t35_112 (v := 1) (by decide) ?_
              exact zs_iret (pc := 113) t35_113 mr35 (by decide) (hQ _ _ w5s w11 ((((zFr.refl).put rfl).trans (w5F.mono rfl)).put rfl) (by decide) (by decide))
            · refine zs_icmp_gtF (pc := 9) t36_9 rfl li57 (by omega) ?_
              refine zs_iconst (pc := 12) t36_12 (v := 1) (by decide) ?_
              refine zs_goto (pc := 13) t36_13 ?_
              refine zs_iret (pc := 17) t36_17 mr36 (by decide) ?_
              show zGo X l 2 0 0 35 86 [(0, .ref 155), (1, .int (0 : Int32)), (2, .int w5x2), (3, .int w5x3)] [.int (1 : Int32)] w5M _
              refine zs_if_eqF (pc := 86) t35_86 li1 (by decide) ?_
              refine zs_aload_n (pc := 89) t35_89 rfl ?_
              refine zs_aload_n (pc := 90) t35_90 rfl ?_
              have w12 := ib155_2 w5I
              refine zs_get (pc := 91) t35_91 (by decide) (zk1 (w5s.k fk_zMc_155)) (zfvi rfl rfl) ?_
              refine zs_invV (pc := 94) (k := 155) (as' := [.int (zI w5M 155 2)]) (st := []) t35_94 mf34 rfl rfl (Or.inl ⟨by decide, (zk1 (w5s.k fk_zMc_155))⟩) ⟨by decide, by decide, Nat.le_of_ble_eq_true rfl, Nat.le_of_ble_eq_true rfl⟩ (zs_in (by decide) mf34 (Nat.le_of_ble_eq_true rfl) ?_) (fun _ _ q => q)
              show zGo X l 0 0 0 34 0 [(0, .ref 155), (1, .int (zI w5M 155 2))] [] w5M _
              refine zs_aload_n (pc := 0) t34_0 rfl ?_
              refine zs_iload_n (pc := 1) t34_1 rfl ?_
              have w13 : zIv cLo cHi (zsI w5M 155 3 (zI w5M 155 2)) := zIv.put w5I (show (-2147483648) ≤ (zI w5M 155 2).toInt ∧ (zI w5M 155 2).toInt ≤ 2147483647 from (zrg (zI w5M 155 2)))
              refine zs_putI (pc := 2) t34_2 (zk1 (w5s.k fk_zMc_155)) rfl ?_
              refine zs_iconst (pc := 5) t34_5 (v := 0) (by decide) ?_
              refine zs_iret (pc := 6) t34_6 mr34 (by decide) ?_
              show zGo X l 2 0 0 35 97 [(0, .ref 155), (1, .int (0 : Int32)), (2, .int w5x2), (3, .int w5x3)] [.int (0 : Int32)] (zsI w5M 155 3 (zI w5M 155 2)) _
              exact zs_iret (pc := 97) t35_97 mr35 (by decide) (hQ _ _ w5s w13 ((((zFr.refl).put rfl).trans (w5F.mono rfl)).put rfl) (by decide) (by decide))
        · refine zs_icmp_geF (pc := 43) t35_43 rfl li4 (by omega) ?_
          refine zs_aload_n (pc := 46) t35_46 rfl ?_
          refine zs_invV (pc := 47) (k := 155) (as' := []) (st := []) t35_47 mf31 rfl rfl (Or.inl ⟨by decide, (zk1 (w5s.k fk_zMc_155))⟩) ⟨by decide, by decide, Nat.le_of_ble_eq_true rfl, Nat.le_of_ble_eq_true rfl⟩ (C31_155 w5s w5I ?_) (fun _ _ q => q)
          intro w14v w14a w14b
          show zGo X l 2 0 0 35 50 [(0, .ref 155), (1, .int (0 : Int32)), (2, .int w5x2), (3, .int w5x3)] [.int w14v] w5M _
          refine zs_invS (pc := 50) (as := [.int w14v]) (st := []) t35_50 (by decide) mf36 rfl rfl ⟨by decide, by decide, Nat.le_of_ble_eq_true rfl, Nat.le_of_ble_eq_true rfl⟩ (zs_in (by decide) mf36 (Nat.le_of_ble_eq_true rfl) ?_) (fun _ _ q => q)
          show zGo X l 0 0 0 36 0 [(0, .int w14v)] [] w5M _
          refine zs_iload_n (pc := 0) t36_0 rfl ?_
          refine zs_bipush (pc := 1) t36_1 (v := 48) (by decide) ?_
          by_cases w15 : w14v.toInt < 48
          · refine zs_icmp_ltT (pc := 3) t36_3 rfl li48 (by omega) ?_
            refine zs_iconst (pc := 16) t36_16 (v := 0) (by decide) ?_
            refine zs_iret (pc := 17) t36_17 mr36 (by decide) ?_
            show zGo X l 2 0 0 35 53 [(0, .ref 155), (1, .int (0 : Int32)), (2, .int w5x2), (3, .int w5x3)] [.int (0 : Int32)] w5M _
            refine zs_if_eqT (pc := 53) t35_53 li0 (by decide) ?_
            refine zs_iload_n (pc := 75) t35_75 rfl ?_
            by_cases w16 : w5x3.toInt = 0
            · refine zs_if_eqT (pc := 76) t35_76 rfl (by omega) ?_
              refine zs_aload_n (pc := 89) t35_89 rfl ?_
              refine zs_aload_n (pc := 90) t35_90 rfl ?_
              have w17 := ib155_2 w5I
              refine zs_get (pc := 91) t35_91 (by decide) (zk1 (w5s.k fk_zMc_155)) (zfvi rfl rfl) ?_
              refine zs_invV (pc := 94) (k := 155) (as' := [.int (zI w5M 155 2)]) (st := []) t35_94 mf34 rfl rfl (Or.inl ⟨by decide, (zk1 (w5s.k fk_zMc_155))⟩) ⟨by decide, by decide, Nat.le_of_ble_eq_true rfl, Nat.le_of_ble_eq_true rfl⟩ (zs_in (by decide) mf34 (Nat.le_of_ble_eq_true rfl) ?_) (fun _ _ q => q)
              show zGo X l 0 0 0 34 0 [(0, .ref 155), (1, .int (zI w5M 155 2))] [] w5M _
              refine zs_aload_n (pc := 0) t34_0 rfl ?_
              refine zs_iload_n (pc := 1) t34_1 rfl ?_
              have w18 : zIv cLo cHi (zsI w5M 155 3 (zI w5M 155 2)) := zIv.put w5I (show (-2147483648) ≤ (zI w5M 155 2).toInt ∧ (zI w5M 155 2).toInt ≤ 2147483647 from (zrg (zI w5M 155 2)))
              refine zs_putI (pc := 2) t34_2 (zk1 (w5s.k fk_zMc_155)) rfl ?_
              refine zs_iconst (pc := 5) t34_5 (v := 0) (by decide) ?_
              refine zs_iret (pc := 6) t34_6 mr34 (by decide) ?_
              show zGo X l 2 0 0 35 97 [(0, .ref 155), (1, .int (0 : Int32)), (2, .int w5x2), (3, .int w5x3)] [.int (0 : Int32)] (zsI w5M 155 3 (zI w5M 155 2)) _
              exact zs_iret (pc := 97) t35_97 mr35 (by decide) (hQ _ _ w5s w18 ((((zFr.refl).put rfl).trans (w5F.mono rfl)).put rfl) (by decide) (by decide))
            · refine zs_if_eqF (pc := 76) t35_76 rfl (by omega) ?_
              refine zs_aload_n (pc := 79) t35_79 rfl ?_
              refine zs_invV (pc := 80) (k := 155) (as' := []) (st := []) t35_80 mf31 rfl rfl (Or.inl ⟨by decide, (zk1 (w5s.k fk_zMc_155))⟩) ⟨by decide, by decide, Nat.le_of_ble_eq_true rfl, Nat.le_of_ble_eq_true rfl⟩ (C31_155 w5s w5I ?_) (fun _ _ q => q)
              intro w19v w19a w19b
              show zGo X l 2 0 0 35 83 [(0, .ref 155), (1, .int (0 : Int32)), (2, .int w5x2), (3, .int w5x3)] [.int w19v] w5M _
              refine zs_invS (pc := 83) (as := [.int w19v]) (st := []) t35_83 (by decide) mf36 rfl rfl ⟨by decide, by decide, Nat.le_of_ble_eq_true rfl, Nat.le_of_ble_eq_true rfl⟩ (zs_in (by decide) mf36 (Nat.le_of_ble_eq_true rfl) ?_) (fun _ _ q => q)
              show zGo X l 0 0 0 36 0 [(0, .int w19v)] [] w5M _
              refine zs_iload_n (pc := 0) t36_0 rfl ?_
              refine zs_bipush (pc := 1) t36_1 (v := 48) (by decide) ?_
              by_cases w20 : w19v.toInt < 48
              · refine zs_icmp_ltT (pc := 3) t36_3 rfl li48 (by omega) ?_
                refine zs_iconst (pc := 16) t36_16 (v := 0) (by decide) ?_
                refine zs_iret (pc := 17) t36_17 mr36 (by decide) ?_
                show zGo X l 2 0 0 35 86 [(0, .ref 155), (1, .int (0 : Int32)), (2, .int w5x2), (3, .int w5x3)] [.int (0 : Int32)] w5M _
                refine zs_if_eqT (pc := 86) t35_86 li0 (by decide) ?_
                refine zs_aload_n (pc := 98) t35_98 rfl ?_
                refine zs_iload_n (pc := 99) t35_99 rfl ?_
                refine zs_if_eqT (pc := 100) t35_100 li0 (by decide) ?_
                refine zs_iload_n (pc := 108) t35_108 rfl ?_
                have w21 : zIv cLo cHi (zsI w5M 155 4 w5x2) := zIv.put w5I (show (-2147483648) ≤ w5x2.toInt ∧ w5x2.toInt ≤ 2147483647 from (zrg w5x2))
                refine zs_putI (pc := 109) t35_109 (zk1 (w5s.k fk_zMc_155)) rfl ?_
                refine zs_iconst (pc := 112) t35_112 (v := 1) (by decide) ?_
                exact zs_iret (pc := 113) t35_113 mr35 (by decide) (hQ _ _ w5s w21 ((((zFr.refl).put rfl).trans (w5F.mono rfl)).put rfl) (by decide) (by decide))
              · refine zs_icmp_ltF (pc := 3) t36_3 rfl li48 (by omega) ?_
                refine zs_iload_n (pc := 6) t36_6 rfl ?_
                refine zs_bipush (pc := 7) t36_7 (v := 57) (by decide) ?_
                by_cases w22 : 57 < w19v.toInt
                · refine zs_icmp_gtT (pc := 9) t36_9 rfl li57 (by omega) ?_
                  refine zs_iconst (pc := 16) t36_16 (v := 0) (by decide) ?_
                  refine zs_iret (pc := 17) t36_17 mr36 (by decide) ?_
                  show zGo X l 2 0 0 35 86 [(0, .ref 155), (1, .int (0 : Int32)), (2, .int w5x2), (3, .int w5x3)] [.int (0 : Int32)] w5M _
                  refine zs_if_eqT (pc := 86) t35_86 li0 (by decide) ?_
                  refine zs_aload_n (pc := 98) t35_98 rfl ?_
                  refine zs_iload_n (pc := 99) t35_99 rfl ?_
                  refine zs_if_eqT (pc := 100) t35_100 li0 (by decide) ?_
                  refine zs_iload_n (pc := 108) t35_108 rfl ?_
                  have w23 : zIv cLo cHi (zsI w5M 155 4 w5x2) := zIv.put w5I (show (-2147483648) ≤ w5x2.toInt ∧ w5x2.toInt ≤ 2147483647 from (zrg w5x2))
                  refine zs_putI (pc := 109) t35_109 (zk1 (w5s.k fk_zMc_155)) rfl ?_
                  refine zs_iconst (pc := 112) t35_112 (v := 1) (by decide) ?_
                  exact zs_iret (pc := 113) t35_113 mr35 (by decide) (hQ _ _ w5s w23 ((((zFr.refl).put rfl).trans (w5F.mono rfl)).put rfl) (by decide) (by decide))
                · refine zs_icmp_gtF (pc := 9) t36_9 rfl li57 (by omega) ?_
                  refine zs_iconst (pc := 12) t36_12 (v := 1) (by decide) ?_
                  refine zs_goto (pc := 13) t36_13 ?_
                  refine zs_iret (pc := 17) t36_17 mr36 (by decide) ?_
                  show zGo X l 2 0 0 35 86 [(0, .ref 155), (1, .int (0 : Int32)), (2, .int w5x2), (3, .int w5x3)] [.int (1 : Int32)] w5M _
                  refine zs_if_eqF (pc := 86) t35_86 li1 (by decide) ?_
                  refine zs_aload_n (pc := 89) t35_89 rfl ?_
                  refine zs_aload_n (pc := 90) t35_90 rfl ?_
                  have w24 := ib155_2 w5I
                  refine zs_get (pc := 91) t35_91 (by decide) (zk1 (w5s.k fk_zMc_155)) (zfvi rfl rfl) ?_
                  refine zs_invV (pc := 94) (k := 155) (as' := [.int (zI w5M 155 2)]) (st := []) t35_94 mf34 rfl rfl (Or.inl ⟨by decide, (zk1 (w5s.k fk_zMc_155))⟩) ⟨by decide, by decide, Nat.le_of_ble_eq_true rfl, Nat.le_of_ble_eq_true rfl⟩ (zs_in (by decide) mf34 (Nat.le_of_ble_eq_true rfl) ?_) (fun _ _ q => q)
                  show zGo X l 0 0 0 34 0 [(0, .ref 155), (1, .int (zI w5M 155 2))] [] w5M _
                  refine zs_aload_n (pc := 0) t34_0 rfl ?_
                  refine zs_iload_n (pc := 1) t34_1 rfl ?_
                  have w25 : zIv cLo cHi (zsI w5M 155 3 (zI w5M 155 2)) := zIv.put w5I (show (-2147483648) ≤ (zI w5M 155 2).toInt ∧ (zI w5M 155 2).toInt ≤ 2147483647 from (zrg (zI w5M 155 2)))
                  refine zs_putI (pc := 2) t34_2 (zk1 (w5s.k fk_zMc_155)) rfl ?_
                  refine zs_iconst (pc := 5) t34_5 (v := 0) (by decide) ?_
                  refine zs_iret (pc := 6) t34_6 mr34 (by decide) ?_
                  show zGo X l 2 0 0 35 97 [(0, .ref 155), (1, .int (0 : Int32)), (2, .int w5x2), (3, .int w5x3)] [.int (0 : Int32)] (zsI w5M 155 3 (zI w5M 155 2)) _
                  exact zs_iret (pc := 97) t35_97 mr35 (by decide) (hQ _ _ w5s w25 ((((zFr.refl).put rfl).trans (w5F.mono rfl)).put rfl) (by decide) (by decide))
          · refine zs_icmp_ltF (pc := 3) t36_3 rfl li48 (by omega) ?_
            refine zs_iload_n (pc := 6) t36_6 rfl ?_
            refine zs_bipush (pc := 7) t36_7 (v := 57) (by decide) ?_
            by_cases w26 : 57 < w14v.toInt
            · refine zs_icmp_gtT (pc := 9) t36_9 rfl li57 (by omega) ?_
              refine zs_iconst (pc := 16) t36_16 (v := 0) (by decide) ?_
              refine zs_iret (pc := 17) t36_17 mr36 (by decide) ?_
              show zGo X l 2 0 0 35 53 [(0, .ref 155), (1, .int (0 : Int32)), (2, .int w5x2), (3, .int w5x3)] [.int (0 : Int32)] w5M _
              refine zs_if_eqT (pc := 53) t35_53 li0 (by decide) ?_
              refine zs_iload_n (pc := 75) t35_75 rfl ?_
              by_cases w27 : w5x3.toInt = 0
              · refine zs_if_eqT (pc := 76) t35_76 rfl (by omega) ?_
                refine zs_aload_n (pc := 89) t35_89 rfl ?_
                refine zs_aload_n (pc := 90) t35_90 rfl ?_
                have w28 := ib155_2 w5I
                refine zs_get (pc := 91) t35_91 (by decide) (zk1 (w5s.k fk_zMc_155)) (zfvi rfl rfl) ?_
                refine zs_invV (pc := 94) (k := 155) (as' := [.int (zI w5M 155 2)]) (st := []) t35_94 mf34 rfl rfl (Or.inl ⟨by decide, (zk1 (w5s.k fk_zMc_155))⟩) ⟨by decide, by decide, Nat.le_of_ble_eq_true rfl, Nat.le_of_ble_eq_true rfl⟩ (zs_in (by decide) mf34 (Nat.le_of_ble_eq_true rfl) ?_) (fun _ _ q => q)
                show zGo X l 0 0 0 34 0 [(0, .ref 155), (1, .int (zI w5M 155 2))] [] w5M _
                refine zs_aload_n (pc := 0) t34_0 rfl ?_
                refine zs_iload_n (pc := 1) t34_1 rfl ?_
                have w29 : zIv cLo cHi (zsI w5M 155 3 (zI w5M 155 2)) := zIv.put w5I (show (-2147483648) ≤ (zI w5M 155 2).toInt ∧ (zI w5M 155 2).toInt ≤ 2147483647 from (zrg (zI w5M 155 2)))
                refine zs_putI (pc := 2) t34_2 (zk1 (w5s.k fk_zMc_155)) rfl ?_
                refine zs_iconst (pc := 5) t34_5 (v := 0) (by decide) ?_
                refine zs_iret (pc := 6) t34_6 mr34 (by decide) ?_
                show zGo X l 2 0 0 35 97 [(0, .ref 155), (1, .int (0 : Int32)), (2, .int w5x2), (3, .int w5x3)] [.int (0 : Int32)] (zsI w5M 155 3 (zI w5M 155 2)) _
                exact zs_iret (pc := 97) t35_97 mr35 (by decide) (hQ _ _ w5s w29 ((((zFr.refl).put rfl).trans (w5F.mono rfl)).put rfl) (by decide) (by decide))
              · refine zs_if_eqF (pc := 76) t35_76 rfl (by omega) ?_
                refine zs_aload_n (pc := 79) t35_79 rfl ?_
                refine zs_invV (pc := 80) (k := 155) (as' := []) (st := []) t35_80 mf31 rfl rfl (Or.inl ⟨by decide, (zk1 (w5s.k fk_zMc_155))⟩) ⟨by decide, by decide, Nat.le_of_ble_eq_true rfl, Nat.le_of_ble_eq_true rfl⟩ (C31_155 w5s w5I ?_) (fun _ _ q => q)
                intro w30v w30a w30b
                show zGo X l 2 0 0 35 83 [(0, .ref 155), (1, .int (0 : Int32)), (2, .int w5x2), (3, .int w5x3)] [.int w30v] w5M _
                refine zs_invS (pc := 83) (as := [.int w30v]) (st := []) t35_83 (by decide) mf36 rfl rfl ⟨by decide, by decide, Nat.le_of_ble_eq_true rfl, Nat.le_of_ble_eq_true rfl⟩ (zs_in (by decide) mf36 (Nat.le_of_ble_eq_true rfl) ?_) (fun _ _ q => q)
                show zGo X l 0 0 0 36 0 [(0, .int w30v)] [] w5M _
                refine zs_iload_n (pc := 0) t36_0 rfl ?_
                refine zs_bipush (pc := 1) t36_1 (v := 48) (by decide) ?_
                by_cases w31 : w30v.toInt < 48
                · refine zs_icmp_ltT (pc := 3) t36_3 rfl li48 (by omega) ?_
                  refine zs_iconst (pc := 16) t36_16 (v := 0) (by decide) ?_
                  refine zs_iret (pc := 17) t36_17 mr36 (by decide) ?_
                  show zGo X l 2 0 0 35 86 [(0, .ref 155), (1, .int (0 : Int32)), (2, .int w5x2), (3, .int w5x3)] [.int (0 : Int32)] w5M _
                  refine zs_if_eqT (pc := 86) t35_86 li0 (by decide) ?_
                  refine zs_aload_n (pc := 98) t35_98 rfl ?_
                  refine zs_iload_n (pc := 99) t35_99 rfl ?_
                  refine zs_if_eqT (pc := 100) t35_100 li0 (by decide) ?_
                  refine zs_iload_n (pc := 108) t35_108 rfl ?_
                  have w32 : zIv cLo cHi (zsI w5M 155 4 w5x2) := zIv.put w5I (show (-2147483648) ≤ w5x2.toInt ∧ w5x2.toInt ≤ 2147483647 from (zrg w5x2))
                  refine zs_putI (pc := 109) t35_109 (zk1 (w5s.k fk_zMc_155)) rfl ?_
                  refine zs_iconst (pc := 112) t35_112 (v := 1) (by decide) ?_
                  exact zs_iret (pc := 113) t35_113 mr35 (by decide) (hQ _ _ w5s w32 ((((zFr.refl).put rfl).trans (w5F.mono rfl)).put rfl) (by decide) (by decide))
                · refine zs_icmp_ltF (pc := 3) t36_3 rfl li48 (by omega) ?_
                  refine zs_iload_n (pc := 6) t36_6 rfl ?_
                  refine zs_bipush (pc := 7) t36_7 (v := 57) (by decide) ?_
                  by_cases w33 : 57 < w30v.toInt
                  · refine zs_icmp_gtT (pc := 9) t36_9 rfl li57 (by omega) ?_
                    refine zs_iconst (pc := 16) t36_16 (v := 0) (by decide) ?_
                    refine zs_iret (pc := 17) t36_17 mr36 (by decide) ?_
                    show zGo X l 2 0 0 35 86 [(0, .ref 155), (1, .int (0 : Int32)), (2, .int w5x2), (3, .int w5x3)] [.int (0 : Int32)] w5M _
                    refine zs_if_eqT (pc := 86) t35_86 li0 (by decide) ?_
                    refine zs_aload_n (pc := 98) t35_98 rfl ?_
                    refine zs_iload_n (pc := 99) t35_99 rfl ?_
                    refine zs_if_eqT (pc := 100) t35_100 li0 (by decide) ?_
                    refine zs_iload_n (pc := 108) t35_108 rfl ?_
                    have w34 : zIv cLo cHi (zsI w5M 155 4 w5x2) := zIv.put w5I (show (-2147483648) ≤ w5x2.toInt ∧ w5x2.toInt ≤ 2147483647 from (zrg w5x2))
                    refine zs_putI (pc := 109) t35_109 (zk1 (w5s.k fk_zMc_155)) rfl ?_
                    refine zs_iconst (pc := 112) t35_112 (v := 1) (by decide) ?_
                    exact zs_iret (pc := 113) t35_113 mr35 (by decide) (hQ _ _ w5s w34 ((((zFr.refl).put rfl).trans (w5F.mono rfl)).put rfl) (by decide) (by decide))
                  · refine zs_icmp_gtF (pc := 9) t36_9 rfl li57 (by omega) ?_
                    refine zs_iconst (pc := 12) t36_12 (v := 1) (by decide) ?_
                    refine zs_goto (pc := 13) t36_13 ?_
                    refine zs_iret (pc := 17) t36_17 mr36 (by decide) ?_
                    show zGo X l 2 0 0 35 86 [(0, .ref 155), (1, .int (0 : Int32)), (2, .int w5x2), (3, .int w5x3)] [.int (1 : Int32)] w5M _
                    refine zs_if_eqF (pc := 86) t35_86 li1 (by decide) ?_
                    refine zs_aload_n (pc := 89) t35_89 rfl ?_
                    refine zs_aload_n (pc := 90) t35_90 rfl ?_
                    have w35 := ib155_2 w5I
                    refine zs_get (pc := 91) t35_91 (by decide) (zk1 (w5s.k fk_zMc_155)) (zfvi rfl rfl) ?_
                    refine zs_invV (pc := 94) (k := 155) (as' := [.int (zI w5M 155 2)]) (st := []) t35_94 mf34 rfl rfl (Or.inl ⟨by decide, (zk1 (w5s.k fk_zMc_155))⟩) ⟨by decide, by decide, Nat.le_of_ble_eq_true rfl, Nat.le_of_ble_eq_true rfl⟩ (zs_in (by decide) mf34 (Nat.le_of_ble_eq_true rfl) ?_) (fun _ _ q => q)
                    show zGo X l 0 0 0 34 0 [(0, .ref 155), (1, .int (zI w5M 155 2))] [] w5M _
                    refine zs_aload_n (pc := 0) t34_0 rfl ?_
                    refine zs_iload_n (pc := 1) t34_1 rfl ?_
                    have w36 : zIv cLo cHi (zsI w5M 155 3 (zI w5M 155 2)) := zIv.put w5I (show (-2147483648) ≤ (zI w5M 155 2).toInt ∧ (zI w5M 155 2).toInt ≤ 2147483647 from (zrg (zI w5M 155 2)))
                    refine zs_putI (pc := 2) t34_2 (zk1 (w5s.k fk_zMc_155)) rfl ?_
                    refine zs_iconst (pc := 5) t34_5 (v := 0) (by decide) ?_
                    refine zs_iret (pc := 6) t34_6 mr34 (by decide) ?_
                    show zGo X l 2 0 0 35 97 [(0, .ref 155), (1, .int (0 : Int32)), (2, .int w5x2), (3, .int w5x3)] [.int (0 : Int32)] (zsI w5M 155 3 (zI w5M 155 2)) _
                    exact zs_iret (pc := 97) t35_97 mr35 (by decide) (hQ _ _ w5s w36 ((((zFr.refl).put rfl).trans (w5F.mono rfl)).put rfl) (by decide) (by decide))
            · refine zs_icmp_gtF (pc := 9) t36_9 rfl li57 (by omega) ?_
              refine zs_iconst (pc := 12) t36_12 (v := 1) (by decide) ?_
              refine zs_goto (pc := 13) t36_13 ?_
              refine zs_iret (pc := 17) t36_17 mr36 (by decide) ?_
              show zGo X l 2 0 0 35 53 [(0, .ref 155), (1, .int (0 : Int32)), (2, .int w5x2), (3, .int w5x3)] [.int (1 : Int32)] w5M _
              refine zs_if_eqF (pc := 53) t35_53 li1 (by decide) ?_
              refine zs_iload_n (pc := 56) t35_56 rfl ?_
              refine zs_bipush (pc := 57) t35_57 (v := 10) (by decide) ?_
              obtain ⟨w37v, w37⟩ : ∃ v, w5x2 * (10 : Int32) = v := ⟨_, rfl⟩
              have w37g := zrg w37v
              refine zs_imul (pc := 59) t35_59 (c := w37v) w37 ?_
              refine zs_aload_n (pc := 60) t35_60 rfl ?_
              refine zs_invV (pc := 61) (k := 155) (as' := []) (st := [.int w37v]) t35_61 mf30 rfl rfl (Or.inl ⟨by decide, (zk1 (w5s.k fk_zMc_155))⟩) ⟨by decide, by decide, Nat.le_of_ble_eq_true rfl, Nat.le_of_ble_eq_true rfl⟩ (C30_155 w5s w5I ?_) (fun _ _ q => q)
              intro w38M w38v w38s w38I w38F w38a w38b
              show zGo X l 2 0 0 35 64 [(0, .ref 155), (1, .int (0 : Int32)), (2, .int w5x2), (3, .int w5x3)] [.int w38v, .int w37v] w38M _
              obtain ⟨w39v, w39⟩ : ∃ v, v = w37v + w38v := ⟨_, rfl⟩
              have w39g := zrg w39v
              refine zs_iadd (pc := 64) t35_64 (c := w39v) w39.symm ?_
              refine zs_bipush (pc := 65) t35_65 (v := 48) (by decide) ?_
              obtain ⟨w40v, w40⟩ : ∃ v, v = w39v - (48 : Int32) := ⟨_, rfl⟩
              have w40g := zrg w40v
              refine zs_isub (pc := 67) t35_67 (c := w40v) w40.symm ?_
              refine zs_istore_n (pc := 68) t35_68 (ls' := [(2, .int w40v), (0, .ref 155), (1, .int (0 : Int32)), (3, .int w5x3)]) (zml mf35 (by decide)) rfl ?_
              obtain ⟨w41v, w41e, w41⟩ := ziadd (a := w5x3) (b := Int32.ofInt 1) rfl (show (Int32.ofInt 1).toInt = 1 by decide) (by omega) (by omega)
              refine zs_iinc (pc := 69) t35_69 (ls' := [(3, .int w41v), (2, .int w40v), (0, .ref 155), (1, .int (0 : Int32))]) (zml mf35 (by decide)) rfl (c := w41v) w41e rfl ?_
              refine zs_goto (pc := 72) t35_72 ?_
              refine zGo.locals (ls' := [(0, .ref 155), (1, .int (0 : Int32)), (2, .int w40v), (3, .int w41v)]) (by simp) ?_
              exact w5ih (w5m - 1) (by omega) w40v w41v w38M ⟨by omega, by omega⟩ w38s w38I (((zFr.refl).trans (w5F.mono rfl)).trans (w38F.mono rfl)) (by omega)
    refine zGo.locals (ls' := [(0, .ref 155), (1, .int (0 : Int32)), (2, .int (0 : Int32)), (3, .int (0 : Int32))]) (by simp) ?_
    have w42 := li0
    have w43 := li0
    exact w5L ((4 - 0 : Int).toNat) (0 : Int32) (0 : Int32) (zsI M 155 5 (zI M 155 2)) ⟨by decide, by decide⟩ hs w2 zFr.refl (by omega)
  · refine zs_icmp_neF (pc := 14) t35_14 rfl li45 (by omega) ?_
    refine zs_iconst (pc := 17) t35_17 (v := 1) (by decide) ?_
    refine zs_goto (pc := 18) t35_18 ?_
    refine zs_istore_n (pc := 22) t35_22 (ls' := [(1, .int (1 : Int32)), (0, .ref 155)]) (zml mf35 (by decide)) rfl ?_
    refine zs_iload_n (pc := 23) t35_23 rfl ?_
    refine zs_if_eqF (pc := 24) t35_24 li1 (by decide) ?_
    refine zs_aload_n (pc := 27) t35_27 rfl ?_
    refine zs_dup (pc := 28) t35_28 rfl ?_
    refine zs_get (pc := 29) t35_29 (by decide) (zk1 (hs.k fk_zMc_155)) (zfvi rfl ((zIoj (by decide)).trans rfl)) ?_
    refine zs_iconst (pc := 32) t35_32 (v := 1) (by decide) ?_
    obtain ⟨w44v, w44⟩ : ∃ v, v = (zI M 155 2) + (1 : Int32) := ⟨_, rfl⟩
    have w44g := zrg w44v
    refine zs_iadd (pc := 33) t35_33 (c := w44v) w44.symm ?_
    have w45 : zIv cLo cHi (zsI (zsI M 155 5 (zI M 155 2)) 155 2 w44v) := zIv.put w2 (show (-2147483648) ≤ w44v.toInt ∧ w44v.toInt ≤ 2147483647 from (zrg w44v))
    refine zs_putI (pc := 34) t35_34 (zk1 (hs.k fk_zMc_155)) rfl ?_
    refine zs_iconst (pc := 37) t35_37 (v := 0) (by decide) ?_
    refine zs_istore_n (pc := 38) t35_38 (ls' := [(2, .int (0 : Int32)), (1, .int (1 : Int32)), (0, .ref 155)]) (zml mf35 (by decide)) rfl ?_
    refine zs_iconst (pc := 39) t35_39 (v := 0) (by decide) ?_
    refine zs_istore_n (pc := 40) t35_40 (ls' := [(3, .int (0 : Int32)), (2, .int (0 : Int32)), (1, .int (1 : Int32)), (0, .ref 155)]) (zml mf35 (by decide)) rfl ?_
    have w46L : ∀ (m : Nat) (w46x2 : Int32) (w46x3 : Int32) (w46M : zM), (0 ≤ w46x3.toInt ∧ w46x3.toInt ≤ 4) → zSk zMc w46M → zIv cLo cHi w46M → zFr [(155, 155, none)] (zsI (zsI M 155 5 (zI M 155 2)) 155 2 w44v) w46M → 4 - w46x3.toInt ≤ (m : Int) → zGo X l 2 0 0 35 41 [(0, .ref 155), (1, .int (1 : Int32)), (2, .int w46x2), (3, .int w46x3)] [] w46M Q := by
      intro m
      induction m using Nat.strongRecOn with
      | ind w46m w46ih =>
        intro w46x2 w46x3 w46M w46b3 w46s w46I w46F w46q
        have w46g2 := zrg w46x2
        refine zs_iload_n (pc := 41) t35_41 rfl ?_
        refine zs_iconst (pc := 42) t35_42 (v := 4) (by decide) ?_
        by_cases w47 : 4 ≤ w46x3.toInt
        · refine zs_icmp_geT (pc := 43) t35_43 rfl li4 (by omega) ?_
          refine zs_iload_n (pc := 75) t35_75 rfl ?_
          refine zs_if_eqF (pc := 76) t35_76 rfl (by omega) ?_
          refine zs_aload_n (pc := 79) t35_79 rfl ?_
          refine zs_invV (pc := 80) (k := 155) (as' := []) (st := []) t35_80 mf31 rfl rfl (Or.inl ⟨by decide, (zk1 (w46s.k fk_zMc_155))⟩) ⟨by decide, by decide, Nat.le_of_ble_eq_true rfl, Nat.le_of_ble_eq_true rfl⟩ (C31_155 w46s w46I ?_) (fun _ _ q => q)
          intro w48v w48a w48b
          show zGo X l 2 0 0 35 83 [(0, .ref 155), (1, .int (1 : Int32)), (2, .int w46x2), (3, .int w46x3)] [.int w48v] w46M _
          refine zs_invS (pc := 83) (as := [.int w48v]) (st := []) t35_83 (by decide) mf36 rfl rfl ⟨by decide, by decide, Nat.le_of_ble_eq_true rfl, Nat.le_of_ble_eq_true rfl⟩ (zs_in (by decide) mf36 (Nat.le_of_ble_eq_true rfl) ?_) (fun _ _ q => q)
          show zGo X l 0 0 0 36 0 [(0, .int w48v)] [] w46M _
          refine zs_iload_n (pc := 0) t36_0 rfl ?_
          refine zs_bipush (pc := 1) t36_1 (v := 48) (by decide) ?_
          by_cases w49 : w48v.toInt < 48
          · refine zs_icmp_ltT (pc := 3) t36_3 rfl li48 (by omega) ?_
            refine zs_iconst (pc := 16) t36_16 (v := 0) (by decide) ?_
            refine zs_iret (pc := 17) t36_17 mr36 (by decide) ?_
            show zGo X l 2 0 0 35 86 [(0, .ref 155), (1, .int (1 : Int32)), (2, .int w46x2), (3, .int w46x3)] [.int (0 : Int32)] w46M _
            refine zs_if_eqT (pc := 86) t35_86 li0 (by decide) ?_
            refine zs_aload_n (pc := 98) t35_98 rfl ?_
            refine zs_iload_n (pc := 99) t35_99 rfl ?_
            refine zs_if_eqF (pc := 100) t35_100 li1 (by decide) ?_
            refine zs_iload_n (pc := 103) t35_103 rfl ?_
            obtain ⟨w50v, w50e⟩ : ∃ v, -w46x2 = v := ⟨_, rfl⟩
            have w50 := zrg w50v
            refine zs_ineg (pc := 104) t35_104 (c := w50v) w50e ?_
            refine zs_goto (pc := 105) t35_105 ?_
            have w51 : zIv cLo cHi (zsI w46M 155 4 w50v) := zIv.put w46I (show (-2147483648) ≤ w50v.toInt ∧ w50v.toInt ≤ 2147483647 from (zrg w50v))
            refine zs_putI (pc := 109) t35_109 (zk1 (w46s.k fk_zMc_155)) rfl ?_
            refine zs_iconst (pc := 112) t35_112 (v := 1) (by decide) ?_
            exact zs_iret (pc := 113) t35_113 mr35 (by decide) (hQ _ _ w46s w51 (((((zFr.refl).put rfl).put rfl).trans (w46F.mono rfl)).put rfl) (by decide) (by decide))
          · refine zs_icmp_ltF (pc := 3) t36_3 rfl li48 (by omega) ?_
            refine zs_iload_n (pc := 6) t36_6 rfl ?_
            refine zs_bipush (pc := 7) t36_7 (v := 57) (by decide) ?_
            by_cases w52 : 57 < w48v.toInt
            · refine zs_icmp_gtT (pc := 9) t36_9 rfl li57 (by omega) ?_
              refine zs_iconst (pc := 16) t36_16 (v := 0) (by decide) ?_
              refine zs_iret (pc := 17) t36_17 mr36 (by decide) ?_
              show zGo X l 2 0 0 35 86 [(0, .ref 155), (1, .int (1 : Int32)), (2, .int w46x2), (3, .int w46x3)] [.int (0 : Int32)] w46M _
              refine zs_if_eqT (pc := 86) t35_86 li0 (by decide) ?_
              refine zs_aload_n (pc := 98) t35_98 rfl ?_
              refine zs_iload_n (pc := 99) t35_99 rfl ?_
              refine zs_if_eqF (pc := 100) t35_100 li1 (by decide) ?_
              refine zs_iload_n (pc := 103) t35_103 rfl ?_
              obtain ⟨w53v, w53e⟩ : ∃ v, -w46x2 = v := ⟨_, rfl⟩
              have w53 := zrg w53v
              refine zs_ineg (pc := 104) t35_104 (c := w53v) w53e ?_
              refine zs_goto (pc := 105) t35_105 ?_
              have w54 : zIv cLo cHi (zsI w46M 155 4 w53v) := zIv.put w46I (show (-2147483648) ≤ w53v.toInt ∧ w53v.toInt ≤ 2147483647 from (zrg w53v))
              refine zs_putI (pc := 109) t35_109 (zk1 (w46s.k fk_zMc_155)) rfl ?_
              refine zs_iconst (pc := 112) t35_112 (v := 1) (by decide) ?_
              exact zs_iret (pc := 113) t35_113 mr35 (by decide) (hQ _ _ w46s w54 (((((zFr.refl).put rfl).put rfl).trans (w46F.mono rfl)).put rfl) (by decide) (by decide))
            · refine zs_icmp_gtF (pc := 9) t36_9 rfl li57 (by omega) ?_
              refine zs_iconst (pc := 12) t36_12 (v := 1) (by decide) ?_
              refine zs_goto (pc := 13) t36_13 ?_
              refine zs_iret (pc := 17) t36_17 mr36 (by decide) ?_
              show zGo X l 2 0 0 35 86 [(0, .ref 155), (1, .int (1 : Int32)), (2, .int w46x2), (3, .int w46x3)] [.int (1 : Int32)] w46M _
              refine zs_if_eqF (pc := 86) t35_86 li1 (by decide) ?_
              refine zs_aload_n (pc := 89) t35_89 rfl ?_
              refine zs_aload_n (pc := 90) t35_90 rfl ?_
              have w55 := ib155_2 w46I
              refine zs_get (pc := 91) t35_91 (by decide) (zk1 (w46s.k fk_zMc_155)) (zfvi rfl rfl) ?_
              refine zs_invV (pc := 94) (k := 155) (as' := [.int (zI w46M 155 2)]) (st := []) t35_94 mf34 rfl rfl (Or.inl ⟨by decide, (zk1 (w46s.k fk_zMc_155))⟩) ⟨by decide, by decide, Nat.le_of_ble_eq_true rfl, Nat.le_of_ble_eq_true rfl⟩ (zs_in (by decide) mf34 (Nat.le_of_ble_eq_true rfl) ?_) (fun _ _ q => q)
              show zGo X l 0 0 0 34 0 [(0, .ref 155), (1, .int (zI w46M 155 2))] [] w46M _
              refine zs_aload_n (pc := 0) t34_0 rfl ?_
              refine zs_iload_n (pc := 1) t34_1 rfl ?_
              have w56 : zIv cLo cHi (zsI w46M 155 3 (zI w46M 155 2)) := zIv.put w46I (show (-2147483648) ≤ (zI w46M 155 2).toInt ∧ (zI w46M 155 2).toInt ≤ 2147483647 from (zrg (zI w46M 155 2)))
              refine zs_putI (pc := 2) t34_2 (zk1 (w46s.k fk_zMc_155)) rfl ?_
              refine zs_iconst (pc := 5) t34_5 (v := 0) (by decide) ?_
              refine zs_iret (pc := 6) t34_6 mr34 (by decide) ?_
              show zGo X l 2 0 0 35 97 [(0, .ref 155), (1, .int (1 : Int32)), (2, .int w46x2), (3, .int w46x3)] [.int (0 : Int32)] (zsI w46M 155 3 (zI w46M 155 2)) _
              exact zs_iret (pc := 97) t35_97 mr35 (by decide) (hQ _ _ w46s w56 (((((zFr.refl).put rfl).put rfl).trans (w46F.mono rfl)).put rfl) (by decide) (by decide))
        · refine zs_icmp_geF (pc := 43) t35_43 rfl li4 (by omega) ?_
          refine zs_aload_n (pc := 46) t35_46 rfl ?_
          refine zs_invV (pc := 47) (k := 155) (as' := []) (st := []) t35_47 mf31 rfl rfl (Or.inl ⟨by decide, (zk1 (w46s.k fk_zMc_155))⟩) ⟨by decide, by decide, Nat.le_of_ble_eq_true rfl, Nat.le_of_ble_eq_true rfl⟩ (C31_155 w46s w46I ?_) (fun _ _ q => q)
          intro w57v w57a w57b
          show zGo X l 2 0 0 35 50 [(0, .ref 155), (1, .int (1 : Int32)), (2, .int w46x2), (3, .int w46x3)] [.int w57v] w46M _
          refine zs_invS (pc := 50) (as := [.int w57v]) (st := []) t35_50 (by decide) mf36 rfl rfl ⟨by decide, by decide, Nat.le_of_ble_eq_true rfl, Nat.le_of_ble_eq_true rfl⟩ (zs_in (by decide) mf36 (Nat.le_of_ble_eq_true rfl) ?_) (fun _ _ q => q)
          show zGo X l 0 0 0 36 0 [(0, .int w57v)] [] w46M _
          refine zs_iload_n (pc := 0) t36_0 rfl ?_
          refine zs_bipush (pc := 1) t36_1 (v := 48) (by decide) ?_
          by_cases w58 : w57v.toInt < 48
          · refine zs_icmp_ltT (pc := 3) t36_3 rfl li48 (by omega) ?_
            refine zs_iconst (pc := 16) t36_16 (v := 0) (by decide) ?_
            refine zs_iret (pc := 17) t36_17 mr36 (by decide) ?_
            show zGo X l 2 0 0 35 53 [(0, .ref 155), (1, .int (1 : Int32)), (2, .int w46x2), (3, .int w46x3)] [.int (0 : Int32)] w46M _
            refine zs_if_eqT (pc := 53) t35_53 li0 (by decide) ?_
            refine zs_iload_n (pc := 75) t35_75 rfl ?_
            by_cases w59 : w46x3.toInt = 0
            · refine zs_if_eqT (pc := 76) t35_76 rfl (by omega) ?_
              refine zs_aload_n (pc := 89) t35_89 rfl ?_
              refine zs_aload_n (pc := 90) t35_90 rfl ?_
              have w60 := ib155_2 w46I
              refine zs_get (pc := 91) t35_91 (by decide) (zk1 (w46s.k fk_zMc_155)) (zfvi rfl rfl) ?_
              refine zs_invV (pc := 94) (k := 155) (as' := [.int (zI w46M 155 2)]) (st := []) t35_94 mf34 rfl rfl (Or.inl ⟨by decide, (zk1 (w46s.k fk_zMc_155))⟩) ⟨by decide, by decide, Nat.le_of_ble_eq_true rfl, Nat.le_of_ble_eq_true rfl⟩ (zs_in (by decide) mf34 (Nat.le_of_ble_eq_true rfl) ?_) (fun _ _ q => q)
              show zGo X l 0 0 0 34 0 [(0, .ref 155), (1, .int (zI w46M 155 2))] [] w46M _
              refine zs_aload_n (pc := 0) t34_0 rfl ?_
              refine zs_iload_n (pc := 1) t34_1 rfl ?_
              have w61 : zIv cLo cHi (zsI w46M 155 3 (zI w46M 155 2)) := zIv.put w46I (show (-2147483648) ≤ (zI w46M 155 2).toInt ∧ (zI w46M 155 2).toInt ≤ 2147483647 from (zrg (zI w46M 155 2)))
              refine zs_putI (pc := 2) t34_2 (zk1 (w46s.k fk_zMc_155)) rfl ?_
              refine zs_iconst (pc := 5) t34_5 (v := 0) (by decide) ?_
              refine zs_iret (pc := 6) t34_6 mr34 (by decide) ?_
              show zGo X l 2 0 0 35 97 [(0, .ref 155), (1, .int (1 : Int32)), (2, .int w46x2), (3, .int w46x3)] [.int (0 : Int32)] (zsI w46M 155 3 (zI w46M 155 2)) _
              exact zs_iret (pc := 97) t35_97 mr35 (by decide) (hQ _ _ w46s w61 (((((zFr.refl).put rfl).put rfl).trans (w46F.mono rfl)).put rfl) (by decide) (by decide))
            · refine zs_if_eqF (pc := 76) t35_76 rfl (by omega) ?_
              refine zs_aload_n (pc := 79) t35_79 rfl ?_
              refine zs_invV (pc := 80) (k := 155) (as' := []) (st := []) t35_80 mf31 rfl rfl (Or.inl ⟨by decide, (zk1 (w46s.k fk_zMc_155))⟩) ⟨by decide, by decide, Nat.le_of_ble_eq_true rfl, Nat.le_of_ble_eq_true rfl⟩ (C31_155 w46s w46I ?_) (fun _ _ q => q)
              intro w62v w62a w62b
              show zGo X l 2 0 0 35 83 [(0, .ref 155), (1, .int (1 : Int32)), (2, .int w46x2), (3, .int w46x3)] [.int w62v] w46M _
              refine zs_invS (pc := 83) (as := [.int w62v]) (st := []) t35_83 (by decide) mf36 rfl rfl ⟨by decide, by decide, Nat.le_of_ble_eq_true rfl, Nat.le_of_ble_eq_true rfl⟩ (zs_in (by decide) mf36 (Nat.le_of_ble_eq_true rfl) ?_) (fun _ _ q => q)
              show zGo X l 0 0 0 36 0 [(0, .int w62v)] [] w46M _
              refine zs_iload_n (pc := 0) t36_0 rfl ?_
              refine zs_bipush (pc := 1) t36_1 (v := 48) (by decide) ?_
              by_cases w63 : w62v.toInt < 48
              · refine zs_icmp_ltT (pc := 3) t36_3 rfl li48 (by omega) ?_
                refine zs_iconst (pc := 16) t36_16 (v := 0) (by decide) ?_
                refine zs_iret (pc := 17) t36_17 mr36 (by decide) ?_
                show zGo X l 2 0 0 35 86 [(0, .ref 155), (1, .int (1 : Int32)), (2, .int w46x2), (3, .int w46x3)] [.int (0 : Int32)] w46M _
                refine zs_if_eqT (pc := 86) t35_86 li0 (by decide) ?_
                refine zs_aload_n (pc := 98) t35_98 rfl ?_
                refine zs_iload_n (pc := 99) t35_99 rfl ?_
                refine zs_if_eqF (pc := 100) t35_100 li1 (by decide) ?_
                refine zs_iload_n (pc := 103) t35_103 rfl ?_
                obtain ⟨w64v, w64e⟩ : ∃ v, -w46x2 = v := ⟨_, rfl⟩
                have w64 := zrg w64v
                refine zs_ineg (pc := 104) t35_104 (c := w64v) w64e ?_
                refine zs_goto (pc := 105) t35_105 ?_
                have w65 : zIv cLo cHi (zsI w46M 155 4 w64v) := zIv.put w46I (show (-2147483648) ≤ w64v.toInt ∧ w64v.toInt ≤ 2147483647 from (zrg w64v))
                refine zs_putI (pc := 109) t35_109 (zk1 (w46s.k fk_zMc_155)) rfl ?_
                refine zs_iconst (pc := 112) t35_112 (v := 1) (by decide) ?_
                exact zs_iret (pc := 113) t35_113 mr35 (by decide) (hQ _ _ w46s w65 (((((zFr.refl).put rfl).put rfl).trans (w46F.mono rfl)).put rfl) (by decide) (by decide))
              · refine zs_icmp_ltF (pc := 3) t36_3 rfl li48 (by omega) ?_
                refine zs_iload_n (pc := 6) t36_6 rfl ?_
                refine zs_bipush (pc := 7) t36_7 (v := 57) (by decide) ?_
                by_cases w66 : 57 < w62v.toInt
                · refine zs_icmp_gtT (pc := 9) t36_9 rfl li57 (by omega) ?_
                  refine zs_iconst (pc := 16) t36_16 (v := 0) (by decide) ?_
                  refine zs_iret (pc := 17) t36_17 mr36 (by decide) ?_
                  show zGo X l 2 0 0 35 86 [(0, .ref 155), (1, .int (1 : Int32)), (2, .int w46x2), (3, .int w46x3)] [.int (0 : Int32)] w46M _
                  refine zs_if_eqT (pc := 86) t35_86 li0 (by decide) ?_
                  refine zs_aload_n (pc := 98) t35_98 rfl ?_
                  refine zs_iload_n (pc := 99) t35_99 rfl ?_
                  refine zs_if_eqF (pc := 100) t35_100 li1 (by decide) ?_
                  refine zs_iload_n (pc := 103) t35_103 rfl ?_
                  obtain ⟨w67v, w67e⟩ : ∃ v, -w46x2 = v := ⟨_, rfl⟩
                  have w67 := zrg w67v
                  refine zs_ineg (pc := 104) t35_104 (c := w67v) w67e ?_
                  refine zs_goto (pc := 105) t35_105 ?_
                  have w68 : zIv cLo cHi (zsI w46M 155 4 w67v) := zIv.put w46I (show (-2147483648) ≤ w67v.toInt ∧ w67v.toInt ≤ 2147483647 from (zrg w67v))
                  refine zs_putI (pc := 109) t35_109 (zk1 (w46s.k fk_zMc_155)) rfl ?_
                  refine zs_iconst (pc := 112) t35_112 (v := 1) (by decide) ?_
                  exact zs_iret (pc := 113) t35_113 mr35 (by decide) (hQ _ _ w46s w68 (((((zFr.refl).put rfl).put rfl).trans (w46F.mono rfl)).put rfl) (by decide) (by decide))
                · refine zs_icmp_gtF (pc := 9) t36_9 rfl li57 (by omega) ?_
                  refine zs_iconst (pc := 12) t36_12 (v := 1) (by decide) ?_
                  refine zs_goto (pc := 13) t36_13 ?_
                  refine zs_iret (pc := 17) t36_17 mr36 (by decide) ?_
                  show zGo X l 2 0 0 35 86 [(0, .ref 155), (1, .int (1 : Int32)), (2, .int w46x2), (3, .int w46x3)] [.int (1 : Int32)] w46M _
                  refine zs_if_eqF (pc := 86) t35_86 li1 (by decide) ?_
                  refine zs_aload_n (pc := 89) t35_89 rfl ?_
                  refine zs_aload_n (pc := 90) t35_90 rfl ?_
                  have w69 := ib155_2 w46I
                  refine zs_get (pc := 91) t35_91 (by decide) (zk1 (w46s.k fk_zMc_155)) (zfvi rfl rfl) ?_
                  refine zs_invV (pc := 94) (k := 155) (as' := [.int (zI w46M 155 2)]) (st := []) t35_94 mf34 rfl rfl (Or.inl ⟨by decide, (zk1 (w46s.k fk_zMc_155))⟩) ⟨by decide, by decide, Nat.le_of_ble_eq_true rfl, Nat.le_of_ble_eq_true rfl⟩ (zs_in (by decide) mf34 (Nat.le_of_ble_eq_true rfl) ?_) (fun _ _ q => q)
                  show zGo X l 0 0 0 34 0 [(0, .ref 155), (1, .int (zI w46M 155 2))] [] w46M _
                  refine zs_aload_n (pc := 0) t34_0 rfl ?_
                  refine zs_iload_n (pc := 1) t34_1 rfl ?_
                  have w70 : zIv cLo cHi (zsI w46M 155 3 (zI w46M 155 2)) := zIv.put w46I (show (-2147483648) ≤ (zI w46M 155 2).toInt ∧ (zI w46M 155 2).toInt ≤ 2147483647 from (zrg (zI w46M 155 2)))
                  refine zs_putI (pc := 2) t34_2 (zk1 (w46s.k fk_zMc_155)) rfl ?_
                  refine zs_iconst (pc := 5) t34_5 (v := 0) (by decide) ?_
                  refine zs_iret (pc := 6) t34_6 mr34 (by decide) ?_
                  show zGo X l 2 0 0 35 97 [(0, .ref 155), (1, .int (1 : Int32)), (2, .int w46x2), (3, .int w46x3)] [.int (0 : Int32)] (zsI w46M 155 3 (zI w46M 155 2)) _
                  exact zs_iret (pc := 97) t35_97 mr35 (by decide) (hQ _ _ w46s w70 (((((zFr.refl).put rfl).put rfl).trans (w46F.mono rfl)).put rfl) (by decide) (by decide))
          · refine zs_icmp_ltF (pc := 3) t36_3 rfl li48 (by omega) ?_
            refine zs_iload_n (pc := 6) t36_6 rfl ?_
            refine zs_bipush (pc := 7) t36_7 (v := 57) (by decide) ?_
            by_cases w71 : 57 < w57v.toInt
            · refine zs_icmp_gtT (pc := 9) t36_9 rfl li57 (by omega) ?_
              refine zs_iconst (pc := 16) t36_16 (v := 0) (by decide) ?_
              refine zs_iret (pc := 17) t36_17 mr36 (by decide) ?_
              show zGo X l 2 0 0 35 53 [(0, .ref 155), (1, .int (1 : Int32)), (2, .int w46x2), (3, .int w46x3)] [.int (0 : Int32)] w46M _
              refine zs_if_eqT (pc := 53) t35_53 li0 (by decide) ?_
              refine zs_iload_n (pc := 75) t35_75 rfl ?_
              by_cases w72 : w46x3.toInt = 0
              · refine zs_if_eqT (pc := 76) t35_76 rfl (by omega) ?_
                refine zs_aload_n (pc := 89) t35_89 rfl ?_
                refine zs_aload_n (pc := 90) t35_90 rfl ?_
                have w73 := ib155_2 w46I
                refine zs_get (pc := 91) t35_91 (by decide) (zk1 (w46s.k fk_zMc_155)) (zfvi rfl rfl) ?_
                refine zs_invV (pc := 94) (k := 155) (as' := [.int (zI w46M 155 2)]) (st := []) t35_94 mf34 rfl rfl (Or.inl ⟨by decide, (zk1 (w46s.k fk_zMc_155))⟩) ⟨by decide, by decide, Nat.le_of_ble_eq_true rfl, Nat.le_of_ble_eq_true rfl⟩ (zs_in (by decide) mf34 (Nat.le_of_ble_eq_true rfl) ?_) (fun _ _ q => q)
                show zGo X l 0 0 0 34 0 [(0, .ref 155), (1, .int (zI w46M 155 2))] [] w46M _
                refine zs_aload_n (pc := 0) t34_0 rfl ?_
                refine zs_iload_n (pc := 1) t34_1 rfl ?_
                have w74 : zIv cLo cHi (zsI w46M 155 3 (zI w46M 155 2)) := zIv.put w46I (show (-2147483648) ≤ (zI w46M 155 2).toInt ∧ (zI w46M 155 2).toInt ≤ 2147483647 from (zrg (zI w46M 155 2)))
                refine zs_putI (pc := 2) t34_2 (zk1 (w46s.k fk_zMc_155)) rfl ?_
                refine zs_iconst (pc := 5) t34_5 (v := 0) (by decide) ?_
                refine zs_iret (pc := 6) t34_6 mr34 (by decide) ?_
                show zGo X l 2 0 0 35 97 [(0, .ref 155), (1, .int (1 : Int32)), (2, .int w46x2), (3, .int w46x3)] [.int (0 : Int32)] (zsI w46M 155 3 (zI w46M 155 2)) _
                exact zs_iret (pc := 97) t35_97 mr35 (by decide) (hQ _ _ w46s w74 (((((zFr.refl).put rfl).put rfl).trans (w46F.mono rfl)).put rfl) (by decide) (by decide))
              · refine zs_if_eqF (pc := 76) t35_76 rfl (by omega) ?_
                refine zs_aload_n (pc := 79) t35_79 rfl ?_
                refine zs_invV (pc := 80) (k := 155) (as' := []) (st := []) t35_80 mf31 rfl rfl (Or.inl ⟨by decide, (zk1 (w46s.k fk_zMc_155))⟩) ⟨by decide, by decide, Nat.le_of_ble_eq_true rfl, Nat.le_of_ble_eq_true rfl⟩ (C31_155 w46s w46I ?_) (fun _ _ q => q)
                intro w75v w75a w75b
                show zGo X l 2 0 0 35 83 [(0, .ref 155), (1, .int (1 : Int32)), (2, .int w46x2), (3, .int w46x3)] [.int w75v] w46M _
                refine zs_invS (pc := 83) (as := [.int w75v]) (st := []) t35_83 (by decide) mf36 rfl rfl ⟨by decide, by decide, Nat.le_of_ble_eq_true rfl, Nat.le_of_ble_eq_true rfl⟩ (zs_in (by decide) mf36 (Nat.le_of_ble_eq_true rfl) ?_) (fun _ _ q => q)
                show zGo X l 0 0 0 36 0 [(0, .int w75v)] [] w46M _
                refine zs_iload_n (pc := 0) t36_0 rfl ?_
                refine zs_bipush (pc := 1) t36_1 (v := 48) (by decide) ?_
                by_cases w76 : w75v.toInt < 48
                · refine zs_icmp_ltT (pc := 3) t36_3 rfl li48 (by omega) ?_
                  refine zs_iconst (pc := 16) t36_16 (v := 0) (by decide) ?_
                  refine zs_iret (pc := 17) t36_17 mr36 (by decide) ?_
                  show zGo X l 2 0 0 35 86 [(0, .ref 155), (1, .int (1 : Int32)), (2, .int w46x2), (3, .int w46x3)] [.int (0 : Int32)] w46M _
                  refine zs_if_eqT (pc := 86) t35_86 li0 (by decide) ?_
                  refine zs_aload_n (pc := 98) t35_98 rfl ?_
                  refine zs_iload_n (pc := 99) t35_99 rfl ?_
                  refine zs_if_eqF (pc := 100) t35_100 li1 (by decide) ?_
                  refine zs_iload_n (pc := 103) t35_103 rfl ?_
                  obtain ⟨w77v, w77e⟩ : ∃ v, -w46x2 = v := ⟨_, rfl⟩
                  have w77 := zrg w77v
                  refine zs_ineg (pc := 104) t35_104 (c := w77v) w77e ?_
                  refine zs_goto (pc := 105) t35_105 ?_
                  have w78 : zIv cLo cHi (zsI w46M 155 4 w77v) := zIv.put w46I (show (-2147483648) ≤ w77v.toInt ∧ w77v.toInt ≤ 2147483647 from (zrg w77v))
                  refine zs_putI (pc := 109) t35_109 (zk1 (w46s.k fk_zMc_155)) rfl ?_
                  refine zs_iconst (pc := 112) t35_112 (v := 1) (by decide) ?_
                  exact zs_iret (pc := 113) t35_113 mr35 (by decide) (hQ _ _ w46s w78 (((((zFr.refl).put rfl).put rfl).trans (w46F.mono rfl)).put rfl) (by decide) (by decide))
                · refine zs_icmp_ltF (pc := 3) t36_3 rfl li48 (by omega) ?_
                  refine zs_iload_n (pc := 6) t36_6 rfl ?_
                  refine zs_bipush (pc := 7) t36_7 (v := 57) (by decide) ?_
                  by_cases w79 : 57 < w75v.toInt
                  · refine zs_icmp_gtT (pc := 9) t36_9 rfl li57 (by omega) ?_
                    refine zs_iconst (pc := 16) t36_16 (v := 0) (by decide) ?_
                    refine zs_iret (pc := 17) t36_17 mr36 (by decide) ?_
                    show zGo X l 2 0 0 35 86 [(0, .ref 155), (1, .int (1 : Int32)), (2, .int w46x2), (3, .int w46x3)] [.int (0 : Int32)] w46M _
                    refine zs_if_eqT (pc := 86) t35_86 li0 (by decide) ?_
                    refine zs_aload_n (pc := 98) t35_98 rfl ?_
                    refine zs_iload_n (pc := 99) t35_99 rfl ?_
                    refine zs_if_eqF (pc := 100) t35_100 li1 (by decide) ?_
                    refine zs_iload_n (pc := 103) t35_103 rfl ?_
                    obtain ⟨w80v, w80e⟩ : ∃ v, -w46x2 = v := ⟨_, rfl⟩
                    have w80 := zrg w80v
                    refine zs_ineg (pc := 104) t35_104 (c := w80v) w80e ?_
                    refine zs_goto (pc := 105) t35_105 ?_
                    have w81 : zIv cLo cHi (zsI w46M 155 4 w80v) := zIv.put w46I (show (-2147483648) ≤ w80v.toInt ∧ w80v.toInt ≤ 2147483647 from (zrg w80v))
                    refine zs_putI (pc := 109) t35_109 (zk1 (w46s.k fk_zMc_155)) rfl ?_
                    refine zs_iconst (pc := 112) t35_112 (v := 1) (by decide) ?_
                    exact zs_iret (pc := 113) t35_113 mr35 (by decide) (hQ _ _ w46s w81 (((((zFr.refl).put rfl).put rfl).trans (w46F.mono rfl)).put rfl) (by decide) (by decide))
                  · refine zs_icmp_gtF (pc := 9) t36_9 rfl li57 (by omega) ?_
                    refine zs_iconst (pc := 12) t36_12 (v := 1) (by decide) ?_
                    refine zs_goto (pc := 13) t36_13 ?_
                    refine zs_iret (pc := 17) t36_17 mr36 (by decide) ?_
                    show zGo X l 2 0 0 35 86 [(0, .ref 155), (1, .int (1 : Int32)), (2, .int w46x2), (3, .int w46x3)] [.int (1 : Int32)] w46M _
                    refine zs_if_eqF (pc := 86) t35_86 li1 (by decide) ?_
                    refine zs_aload_n (pc := 89) t35_89 rfl ?_
                    refine zs_aload_n (pc := 90) t35_90 rfl ?_
                    have w82 := ib155_2 w46I
                    refine zs_get (pc := 91) t35_91 (by decide) (zk1 (w46s.k fk_zMc_155)) (zfvi rfl rfl) ?_
                    refine zs_invV (pc := 94) (k := 155) (as' := [.int (zI w46M 155 2)]) (st := []) t35_94 mf34 rfl rfl (Or.inl ⟨by decide, (zk1 (w46s.k fk_zMc_155))⟩) ⟨by decide, by decide, Nat.le_of_ble_eq_true rfl, Nat.le_of_ble_eq_true rfl⟩ (zs_in (by decide) mf34 (Nat.le_of_ble_eq_true rfl) ?_) (fun _ _ q => q)
                    show zGo X l 0 0 0 34 0 [(0, .ref 155), (1, .int (zI w46M 155 2))] [] w46M _
                    refine zs_aload_n (pc := 0) t34_0 rfl ?_
                    refine zs_iload_n (pc := 1) t34_1 rfl ?_
                    have w83 : zIv cLo cHi (zsI w46M 155 3 (zI w46M 155 2)) := zIv.put w46I (show (-2147483648) ≤ (zI w46M 155 2).toInt ∧ (zI w46M 155 2).toInt ≤ 2147483647 from (zrg (zI w46M 155 2)))
                    refine zs_putI (pc := 2) t34_2 (zk1 (w46s.k fk_zMc_155)) rfl ?_
                    refine zs_iconst (pc := 5) t34_5 (v := 0) (by decide) ?_
                    refine zs_iret (pc := 6) t34_6 mr34 (by decide) ?_
                    show zGo X l 2 0 0 35 97 [(0, .ref 155), (1, .int (1 : Int32)), (2, .int w46x2), (3, .int w46x3)] [.int (0 : Int32)] (zsI w46M 155 3 (zI w46M 155 2)) _
                    exact zs_iret (pc := 97) t35_97 mr35 (by decide) (hQ _ _ w46s w83 (((((zFr.refl).put rfl).put rfl).trans (w46F.mono rfl)).put rfl) (by decide) (by decide))
            · refine zs_icmp_gtF (pc := 9) t36_9 rfl li57 (by omega) ?_
              refine zs_iconst (pc := 12) t36_12 (v := 1) (by decide) ?_
              refine zs_goto (pc := 13) t36_13 ?_
              refine zs_iret (pc := 17) t36_17 mr36 (by decide) ?_
              show zGo X l 2 0 0 35 53 [(0, .ref 155), (1, .int (1 : Int32)), (2, .int w46x2), (3, .int w46x3)] [.int (1 : Int32)] w46M _
              refine zs_if_eqF (pc := 53) t35_53 li1 (by decide) ?_
              refine zs_iload_n (pc := 56) t35_56 rfl ?_
              refine zs_bipush (pc := 57) t35_57 (v := 10) (by decide) ?_
              obtain ⟨w84v, w84⟩ : ∃ v, w46x2 * (10 : Int32) = v := ⟨_, rfl⟩
              have w84g := zrg w84v
              refine zs_imul (pc := 59) t35_59 (c := w84v) w84 ?_
              refine zs_aload_n (pc := 60) t35_60 rfl ?_
              refine zs_invV (pc := 61) (k := 155) (as' := []) (st := [.int w84v]) t35_61 mf30 rfl rfl (Or.inl ⟨by decide, (zk1 (w46s.k fk_zMc_155))⟩) ⟨by decide, by decide, Nat.le_of_ble_eq_true rfl, Nat.le_of_ble_eq_true rfl⟩ (C30_155 w46s w46I ?_) (fun _ _ q => q)
              intro w85M w85v w85s w85I w85F w85a w85b
              show zGo X l 2 0 0 35 64 [(0, .ref 155), (1, .int (1 : Int32)), (2, .int w46x2), (3, .int w46x3)] [.int w85v, .int w84v] w85M _
              obtain ⟨w86v, w86⟩ : ∃ v, v = w84v + w85v := ⟨_, rfl⟩
              have w86g := zrg w86v
              refine zs_iadd (pc := 64) t35_64 (c := w86v) w86.symm ?_
              refine zs_bipush (pc := 65) t35_65 (v := 48) (by decide) ?_
              obtain ⟨w87v, w87⟩ : ∃ v, v = w86v - (48 : Int32) := ⟨_, rfl⟩
              have w87g := zrg w87v
              refine zs_isub (pc := 67) t35_67 (c := w87v) w87.symm ?_
              refine zs_istore_n (pc := 68) t35_68 (ls' := [(2, .int w87v), (0, .ref 155), (1, .int (1 : Int32)), (3, .int w46x3)]) (zml mf35 (by decide)) rfl ?_
              obtain ⟨w88v, w88e, w88⟩ := ziadd (a := w46x3) (b := Int32.ofInt 1) rfl (show (Int32.ofInt 1).toInt = 1 by decide) (by omega) (by omega)
              refine zs_iinc (pc := 69) t35_69 (ls' := [(3, .int w88v), (2, .int w87v), (0, .ref 155), (1, .int (1 : Int32))]) (zml mf35 (by decide)) rfl (c := w88v) w88e rfl ?_
              refine zs_goto (pc := 72) t35_72 ?_
              refine zGo.locals (ls' := [(0, .ref 155), (1, .int (1 : Int32)), (2, .int w87v), (3, .int w88v)]) (by simp) ?_
              exact w46ih (w46m - 1) (by omega) w87v w88v w85M ⟨by omega, by omega⟩ w85s w85I (((zFr.refl).trans (w46F.mono rfl)).trans (w85F.mono rfl)) (by omega)
    refine zGo.locals (ls' := [(0, .ref 155), (1, .int (1 : Int32)), (2, .int (0 : Int32)), (3, .int (0 : Int32))]) (by simp) ?_
    have w89 := li0
    have w90 := li0
    exact w46L ((4 - 0 : Int).toNat) (0 : Int32) (0 : Int32) (zsI (zsI M 155 5 (zI M 155 2)) 155 2 w44v) ⟨by decide, by decide⟩ hs w45 zFr.refl (by omega)
theorem C53_7 {X : zX} {l : Launch} {M : zM} {Q : Option Value → zM → Prop} {a b : Int32} (hs : zSk zMc M) (hI : zIv cLo cHi M) (hQ : ∀ v : Int32, (-2147483648) ≤ v.toInt → v.toInt ≤ 2147483647 → Q (some (.int v)) M) : zCall X l 1 0 0 53 [.ref 7, .int a, .int b] M Q := by
  have ga := zrg a
  have gb := zrg b
  refine zs_in (by decide) mf53 (Nat.le_of_ble_eq_true rfl) ?_
  show zGo X l 1 0 0 53 0 [(0, .ref 7), (1, .int a), (2, .int b)] [] M _
  refine zs_aload_n (pc := 0) t53_0 rfl ?_
  refine zs_iload_n (pc := 1) t53_1 rfl ?_
  refine zs_invV (pc := 2) (k := 7) (as' := [.int a]) (st := []) t53_2 mf41 rfl rfl (Or.inl ⟨by decide, (zk1 (hs.k fk_zMc_7))⟩) ⟨by decide, by decide, Nat.le_of_ble_eq_true rfl, Nat.le_of_ble_eq_true rfl⟩ (zs_in (by decide) mf41 (Nat.le_of_ble_eq_true rfl) ?_) (fun _ _ q => q)
  show zGo X l 0 0 0 41 0 [(0, .ref 7), (1, .int a)] [] M _
  refine zs_iload_n (pc := 0) t41_0 rfl ?_
  by_cases w1 : a.toInt < 0
  · refine zs_if_ltT (pc := 1) t41_1 rfl (by omega) ?_
    refine zs_iconst (pc := 16) t41_16 (v := 0) (by decide) ?_
    refine zs_iret (pc := 17) t41_17 mr41 (by decide) ?_
    show zGo X l 1 0 0 53 5 [(0, .ref 7), (1, .int a), (2, .int b)] [.int (0 : Int32)] M _
    refine zs_if_eqT (pc := 5) t53_5 li0 (by decide) ?_
    refine zs_iconst (pc := 24) t53_24 (v := 0) (by decide) ?_
    exact zs_iret (pc := 25) t53_25 mr53 (by decide) (hQ _ (by decide) (by decide))
  · refine zs_if_ltF (pc := 1) t41_1 rfl (by omega) ?_
    refine zs_iload_n (pc := 4) t41_4 rfl ?_
    refine zs_aload_n (pc := 5) t41_5 rfl ?_
    have w2 := ib7_0 hI
    refine zs_get (pc := 6) t41_6 (by decide) (zk1 (hs.k fk_zMc_7)) (zfvi rfl rfl) ?_
    by_cases w3 : (zI M 7 0).toInt ≤ a.toInt
    · refine zs_icmp_geT (pc := 9) t41_9 rfl rfl (by omega) ?_
      refine zs_iconst (pc := 16) t41_16 (v := 0) (by decide) ?_
      refine zs_iret (pc := 17) t41_17 mr41 (by decide) ?_
      show zGo X l 1 0 0 53 5 [(0, .ref 7), (1, .int a), (2, .int b)] [.int (0 : Int32)] M _
      refine zs_if_eqT (pc := 5) t53_5 li0 (by decide) ?_
      refine zs_iconst (pc := 24) t53_24 (v := 0) (by decide) ?_
      exact zs_iret (pc := 25) t53_25 mr53 (by decide) (hQ _ (by decide) (by decide))
    · refine zs_icmp_geF (pc := 9) t41_9 rfl rfl (by omega) ?_
      refine zs_iconst (pc := 12) t41_12 (v := 1) (by decide) ?_
      refine zs_goto (pc := 13) t41_13 ?_
      refine zs_iret (pc := 17) t41_17 mr41 (by decide) ?_
      show zGo X l 1 0 0 53 5 [(0, .ref 7), (1, .int a), (2, .int b)] [.int (1 : Int32)] M _
      refine zs_if_eqF (pc := 5) t53_5 li1 (by decide) ?_
      refine zs_iload_n (pc := 8) t53_8 rfl ?_
      refine zs_aload_n (pc := 9) t53_9 rfl ?_
      refine zs_get (pc := 10) t53_10 (by decide) (zk1 (hs.k fk_zMc_7)) (hs.p rfl fv_zMc_7_1) ?_
      refine zs_iload_n (pc := 13) t53_13 rfl ?_
      obtain ⟨w4n, w4⟩ : ∃ n : Nat, a.toInt = (n : Int) := ⟨a.toInt.toNat, by omega⟩
      have w5 := ib8 hI w4n
      refine zs_iald (pc := 14) t53_14 (j := w4n) (by decide) (zk1 (hs.k fk_zMc_8)) w4 (zk2 (hs.k fk_zMc_8) (by omega)) rfl ?_
      obtain ⟨w6v, w6⟩ : ∃ v, b * (zI M 8 w4n) = v := ⟨_, rfl⟩
      have w6g := zrg w6v
      refine zs_imul (pc := 15) t53_15 (c := w6v) w6 ?_
      refine zs_bipush (pc := 16) t53_16 (v := 100) (by decide) ?_
      refine zs_invS (pc := 18) (as := [.int w6v, .int (100 : Int32)]) (st := []) t53_18 (by decide) mf54 rfl rfl ⟨by decide, by decide, Nat.le_of_ble_eq_true rfl, Nat.le_of_ble_eq_true rfl⟩ (zs_in (by decide) mf54 (Nat.le_of_ble_eq_true rfl) ?_) (fun _ _ q => q)
      show zGo X l 0 0 0 54 0 [(0, .int w6v), (1, .int (100 : Int32))] [] M _
      refine zs_iload_n (pc := 0) t54_0 rfl ?_
      refine zs_iload_n (pc := 1) t54_1 rfl ?_
      obtain ⟨w7v, w7⟩ : ∃ v, w6v / (100 : Int32) = v := ⟨_, rfl⟩
      have w7g := zrg w7v
      refine zs_idiv (pc := 2) t54_2 (by decide) (c := w7v) w7 ?_
      refine zs_istore_n (pc := 3) t54_3 (ls' := [(2, .int w7v), (0, .int w6v), (1, .int (100 : Int32))]) (zml mf54 (by decide)) rfl ?_
      refine zs_iload_n (pc := 4) t54_4 rfl ?_
      refine zs_iload_n (pc := 5) t54_5 rfl ?_
      obtain ⟨w8v, w8⟩ : ∃ v, w6v ^^^ (100 : Int32) = v := ⟨_, rfl⟩
      have w8g := zrg w8v
      refine zs_ixor (pc := 6) t54_6 (c := w8v) w8 ?_
      by_cases w9 : 0 ≤ w8v.toInt
      · refine zs_if_geT (pc := 7) t54_7 rfl (by omega) ?_
        refine zs_iload_n (pc := 21) t54_21 rfl ?_
        refine zs_iret (pc := 22) t54_22 mr54 rfl ?_
        show zGo X l 1 0 0 53 21 [(0, .ref 7), (1, .int a), (2, .int b)] [.int w7v] M _
        refine zs_goto (pc := 21) t53_21 ?_
        exact zs_iret (pc := 25) t53_25 mr53 rfl (hQ _ (by omega) (by omega))
      · refine zs_if_geF (pc := 7) t54_7 rfl (by omega) ?_
        refine zs_iload_n (pc := 10) t54_10 rfl ?_
        refine zs_iload_n (pc := 11) t54_11 rfl ?_
        obtain ⟨w10v, w10⟩ : ∃ v, w7v * (100 : Int32) = v := ⟨_, rfl⟩
        have w10g := zrg w10v
        refine zs_imul (pc := 12) t54_12 (c := w10v) w10 ?_
        refine zs_iload_n (pc := 13) t54_13 rfl ?_
        by_cases w11 : w10v.toInt = w6v.toInt
        · refine zs_icmp_eqT (pc := 14) t54_14 rfl rfl (by omega) ?_
          refine zs_iload_n (pc := 21) t54_21 rfl ?_
          refine zs_iret (pc := 22) t54_22 mr54 rfl ?_
          show zGo X l 1 0 0 53 21 [(0, .ref 7), (1, .int a), (2, .int b)] [.int w7v] M _
          refine zs_goto (pc := 21) t53_21 ?_
          exact zs_iret (pc := 25) t53_25 mr53 rfl (hQ _ (by omega) (by omega))
        · refine zs_icmp_eqF (pc := 14) t54_14 rfl rfl (by omega) ?_
          refine zs_iload_n (pc := 17) t54_17 rfl ?_
          refine zs_iconst (pc := 18) t54_18 (v := 1) (by decide) ?_
          obtain ⟨w12v, w12⟩ : ∃ v, v = w7v - (1 : Int32) := ⟨_, rfl⟩
          have w12g := zrg w12v
          refine zs_isub (pc := 19) t54_19 (c := w12v) w12.symm ?_
          refine zs_iret (pc := 20) t54_20 mr54 rfl ?_
          show zGo X l 1 0 0 53 21 [(0, .ref 7), (1, .int a), (2, .int b)] [.int w12v] M _
          refine zs_goto (pc := 21) t53_21 ?_
          exact zs_iret (pc := 25) t53_25 mr53 rfl (hQ _ (by omega) (by omega))
theorem C55_7 {X : zX} {l : Launch} {M : zM} {Q : Option Value → zM → Prop} {a b : Int32} (hs : zSk zMc M) (hI : zIv cLo cHi M) (hQ : ∀ v : Int32, (-2147483648) ≤ v.toInt → v.toInt ≤ 2147483647 → Q (some (.int v)) M) : zCall X l 1 0 0 55 [.ref 7, .int a, .int b] M Q := by
  have ga := zrg a
  have gb := zrg b
  refine zs_in (by decide) mf55 (Nat.le_of_ble_eq_true rfl) ?_
  show zGo X l 1 0 0 55 0 [(0, .ref 7), (1, .int a), (2, .int b)] [] M _
  refine zs_aload_n (pc := 0) t55_0 rfl ?_
  refine zs_iload_n (pc := 1) t55_1 rfl ?_
  refine zs_invV (pc := 2) (k := 7) (as' := [.int a]) (st := []) t55_2 mf41 rfl rfl (Or.inl ⟨by decide, (zk1 (hs.k fk_zMc_7))⟩) ⟨by decide, by decide, Nat.le_of_ble_eq_true rfl, Nat.le_of_ble_eq_true rfl⟩ (zs_in (by decide) mf41 (Nat.le_of_ble_eq_true rfl) ?_) (fun _ _ q => q)
  show zGo X l 0 0 0 41 0 [(0, .ref 7), (1, .int a)] [] M _
  refine zs_iload_n (pc := 0) t41_0 rfl ?_
  by_cases w1 : a.toInt < 0
  · refine zs_if_ltT (pc := 1) t41_1 rfl (by omega) ?_
    refine zs_iconst (pc := 16) t41_16 (v := 0) (by decide) ?_
    refine zs_iret (pc := 17) t41_17 mr41 (by decide) ?_
    show zGo X l 1 0 0 55 5 [(0, .ref 7), (1, .int a), (2, .int b)] [.int (0 : Int32)] M _
    refine zs_if_eqT (pc := 5) t55_5 li0 (by decide) ?_
    refine zs_iconst (pc := 32) t55_32 (v := 0) (by decide) ?_
    exact zs_iret (pc := 33) t55_33 mr55 (by decide) (hQ _ (by decide) (by decide))
  · refine zs_if_ltF (pc := 1) t41_1 rfl (by omega) ?_
    refine zs_iload_n (pc := 4) t41_4 rfl ?_
    refine zs_aload_n (pc := 5) t41_5 rfl ?_
    have w2 := ib7_0 hI
    refine zs_get (pc := 6) t41_6 (by decide) (zk1 (hs.k fk_zMc_7)) (zfvi rfl rfl) ?_
    by_cases w3 : (zI M 7 0).toInt ≤ a.toInt
    · refine zs_icmp_geT (pc := 9) t41_9 rfl rfl (by omega) ?_
      refine zs_iconst (pc := 16) t41_16 (v := 0) (by decide) ?_
      refine zs_iret (pc := 17) t41_17 mr41 (by decide) ?_
      show zGo X l 1 0 0 55 5 [(0, .ref 7), (1, .int a), (2, .int b)] [.int (0 : Int32)] M _
      refine zs_if_eqT (pc := 5) t55_5 li0 (by decide) ?_
      refine zs_iconst (pc := 32) t55_32 (v := 0) (by decide) ?_
      exact zs_iret (pc := 33) t55_33 mr55 (by decide) (hQ _ (by decide) (by decide))
    · refine zs_icmp_geF (pc := 9) t41_9 rfl rfl (by omega) ?_
      refine zs_iconst (pc := 12) t41_12 (v := 1) (by decide) ?_
      refine zs_goto (pc := 13) t41_13 ?_
      refine zs_iret (pc := 17) t41_17 mr41 (by decide) ?_
      show zGo X l 1 0 0 55 5 [(0, .ref 7), (1, .int a), (2, .int b)] [.int (1 : Int32)] M _
      refine zs_if_eqF (pc := 5) t55_5 li1 (by decide) ?_
      refine zs_iload_n (pc := 8) t55_8 rfl ?_
      refine zs_aload_n (pc := 9) t55_9 rfl ?_
      refine zs_get (pc := 10) t55_10 (by decide) (zk1 (hs.k fk_zMc_7)) (hs.p rfl fv_zMc_7_1) ?_
      refine zs_iload_n (pc := 13) t55_13 rfl ?_
      obtain ⟨w4n, w4⟩ : ∃ n : Nat, a.toInt = (n : Int) := ⟨a.toInt.toNat, by omega⟩
      have w5 := ib8 hI w4n
      refine zs_iald (pc := 14) t55_14 (j := w4n) (by decide) (zk1 (hs.k fk_zMc_8)) w4 (zk2 (hs.k fk_zMc_8) (by omega)) rfl ?_
      obtain ⟨w6v, w6⟩ : ∃ v, b * (zI M 8 w4n) = v := ⟨_, rfl⟩
      have w6g := zrg w6v
      refine zs_imul (pc := 15) t55_15 (c := w6v) w6 ?_
      refine zs_aload_n (pc := 16) t55_16 rfl ?_
      refine zs_get (pc := 17) t55_17 (by decide) (zk1 (hs.k fk_zMc_7)) (hs.p rfl fv_zMc_7_1) ?_
      refine zs_iload_n (pc := 20) t55_20 rfl ?_
      obtain ⟨w7n, w7⟩ : ∃ n : Nat, a.toInt = (n : Int) := ⟨a.toInt.toNat, by omega⟩
      have w8 := ib8 hI w7n
      refine zs_iald (pc := 21) t55_21 (j := w7n) (by decide) (zk1 (hs.k fk_zMc_8)) w7 (zk2 (hs.k fk_zMc_8) (by omega)) rfl ?_
      obtain ⟨w9v, w9⟩ : ∃ v, w6v * (zI M 8 w7n) = v := ⟨_, rfl⟩
      have w9g := zrg w9v
      refine zs_imul (pc := 22) t55_22 (c := w9v) w9 ?_
      refine zs_sipush (pc := 23) t55_23 (v := 10000) (by decide) ?_
      refine zs_invS (pc := 26) (as := [.int w9v, .int (10000 : Int32)]) (st := []) t55_26 (by decide) mf54 rfl rfl ⟨by decide, by decide, Nat.le_of_ble_eq_true rfl, Nat.le_of_ble_eq_true rfl⟩ (zs_in (by decide) mf54 (Nat.le_of_ble_eq_true rfl) ?_) (fun _ _ q => q)
      show zGo X l 0 0 0 54 0 [(0, .int w9v), (1, .int (10000 : Int32))] [] M _
      refine zs_iload_n (pc := 0) t54_0 rfl ?_
      refine zs_iload_n (pc := 1) t54_1 rfl ?_
      obtain ⟨w10v, w10⟩ : ∃ v, w9v / (10000 : Int32) = v := ⟨_, rfl⟩
      have w10g := zrg w10v
      refine zs_idiv (pc := 2) t54_2 (by decide) (c := w10v) w10 ?_
      refine zs_istore_n (pc := 3) t54_3 (ls' := [(2, .int w10v), (0, .int w9v), (1, .int (10000 : Int32))]) (zml mf54 (by decide)) rfl ?_
      refine zs_iload_n (pc := 4) t54_4 rfl ?_
      refine zs_iload_n (pc := 5) t54_5 rfl ?_
      obtain ⟨w11v, w11⟩ : ∃ v, w9v ^^^ (10000 : Int32) = v := ⟨_, rfl⟩
      have w11g := zrg w11v
      refine zs_ixor (pc := 6) t54_6 (c := w11v) w11 ?_
      by_cases w12 : 0 ≤ w11v.toInt
      · refine zs_if_geT (pc := 7) t54_7 rfl (by omega) ?_
        refine zs_iload_n (pc := 21) t54_21 rfl ?_
        refine zs_iret (pc := 22) t54_22 mr54 rfl ?_
        show zGo X l 1 0 0 55 29 [(0, .ref 7), (1, .int a), (2, .int b)] [.int w10v] M _
        refine zs_goto (pc := 29) t55_29 ?_
        exact zs_iret (pc := 33) t55_33 mr55 rfl (hQ _ (by omega) (by omega))
      · refine zs_if_geF (pc := 7) t54_7 rfl (by omega) ?_
        refine zs_iload_n (pc := 10) t54_10 rfl ?_
        refine zs_iload_n (pc := 11) t54_11 rfl ?_
        obtain ⟨w13v, w13⟩ : ∃ v, w10v * (10000 : Int32) = v := ⟨_, rfl⟩
        have w13g := zrg w13v
        refine zs_imul (pc := 12) t54_12 (c := w13v) w13 ?_
        refine zs_iload_n (pc := 13) t54_13 rfl ?_
        by_cases w14 : w13v.toInt = w9v.toInt
        · refine zs_icmp_eqT (pc := 14) t54_14 rfl rfl (by omega) ?_
          refine zs_iload_n (pc := 21) t54_21 rfl ?_
          refine zs_iret (pc := 22) t54_22 mr54 rfl ?_
          show zGo X l 1 0 0 55 29 [(0, .ref 7), (1, .int a), (2, .int b)] [.int w10v] M _
          refine zs_goto (pc := 29) t55_29 ?_
          exact zs_iret (pc := 33) t55_33 mr55 rfl (hQ _ (by omega) (by omega))
        · refine zs_icmp_eqF (pc := 14) t54_14 rfl rfl (by omega) ?_
          refine zs_iload_n (pc := 17) t54_17 rfl ?_
          refine zs_iconst (pc := 18) t54_18 (v := 1) (by decide) ?_
          obtain ⟨w15v, w15⟩ : ∃ v, v = w10v - (1 : Int32) := ⟨_, rfl⟩
          have w15g := zrg w15v
          refine zs_isub (pc := 19) t54_19 (c := w15v) w15.symm ?_
          refine zs_iret (pc := 20) t54_20 mr54 rfl ?_
          show zGo X l 1 0 0 55 29 [(0, .ref 7), (1, .int a), (2, .int b)] [.int w15v] M _
          refine zs_goto (pc := 29) t55_29 ?_
          exact zs_iret (pc := 33) t55_33 mr55 rfl (hQ _ (by omega) (by omega))
theorem C53_19 {X : zX} {l : Launch} {M : zM} {Q : Option Value → zM → Prop} {a b : Int32} (hs : zSk zMc M) (hI : zIv cLo cHi M) (hQ : ∀ v : Int32, (-2147483648) ≤ v.toInt → v.toInt ≤ 2147483647 → Q (some (.int v)) M) : zCall X l 1 0 0 53 [.ref 19, .int a, .int b] M Q := by
  have ga := zrg a
  have gb := zrg b
  refine zs_in (by decide) mf53 (Nat.le_of_ble_eq_true rfl) ?_
  show zGo X l 1 0 0 53 0 [(0, .ref 19), (1, .int a), (2, .int b)] [] M _
  refine zs_aload_n (pc := 0) t53_0 rfl ?_
  refine zs_iload_n (pc := 1) t53_1 rfl ?_
  refine zs_invV (pc := 2) (k := 19) (as' := [.int a]) (st := []) t53_2 mf41 rfl rfl (Or.inl ⟨by decide, (zk1 (hs.k fk_zMc_19))⟩) ⟨by decide, by decide, Nat.le_of_ble_eq_true rfl, Nat.le_of_ble_eq_true rfl⟩ (zs_in (by decide) mf41 (Nat.le_of_ble_eq_true rfl) ?_) (fun _ _ q => q)
  show zGo X l 0 0 0 41 0 [(0, .ref 19), (1, .int a)] [] M _
  refine zs_iload_n (pc := 0) t41_0 rfl ?_
  by_cases w1 : a.toInt < 0
  · refine zs_if_ltT (pc := 1) t41_1 rfl (by omega) ?_
    refine zs_iconst (pc := 16) t41_16 (v := 0) (by decide) ?_
    refine zs_iret (pc := 17) t41_17 mr41 (by decide) ?_
    show zGo X l 1 0 0 53 5 [(0, .ref 19), (1, .int a), (2, .int b)] [.int (0 : Int32)] M _
    refine zs_if_eqT (pc := 5) t53_5 li0 (by decide) ?_
    refine zs_iconst (pc := 24) t53_24 (v := 0) (by decide) ?_
    exact zs_iret (pc := 25) t53_25 mr53 (by decide) (hQ _ (by decide) (by decide))
  · refine zs_if_ltF (pc := 1) t41_1 rfl (by omega) ?_
    refine zs_iload_n (pc := 4) t41_4 rfl ?_
    refine zs_aload_n (pc := 5) t41_5 rfl ?_
    have w2 := ib19_0 hI
    refine zs_get (pc := 6) t41_6 (by decide) (zk1 (hs.k fk_zMc_19)) (zfvi rfl rfl) ?_
    by_cases w3 : (zI M 19 0).toInt ≤ a.toInt
    · refine zs_icmp_geT (pc := 9) t41_9 rfl rfl (by omega) ?_
      refine zs_iconst (pc := 16) t41_16 (v := 0) (by decide) ?_
      refine zs_iret (pc := 17) t41_17 mr41 (by decide) ?_
      show zGo X l 1 0 0 53 5 [(0, .ref 19), (1, .int a), (2, .int b)] [.int (0 : Int32)] M _
      refine zs_if_eqT (pc := 5) t53_5 li0 (by decide) ?_
      refine zs_iconst (pc := 24) t53_24 (v := 0) (by decide) ?_
      exact zs_iret (pc := 25) t53_25 mr53 (by decide) (hQ _ (by decide) (by decide))
    · refine zs_icmp_geF (pc := 9) t41_9 rfl rfl (by omega) ?_
      refine zs_iconst (pc := 12) t41_12 (v := 1) (by decide) ?_
      refine zs_goto (pc := 13) t41_13 ?_
      refine zs_iret (pc := 17) t41_17 mr41 (by decide) ?_
      show zGo X l 1 0 0 53 5 [(0, .ref 19), (1, .int a), (2, .int b)] [.int (1 : Int32)] M _
      refine zs_if_eqF (pc := 5) t53_5 li1 (by decide) ?_
      refine zs_iload_n (pc := 8) t53_8 rfl ?_
      refine zs_aload_n (pc := 9) t53_9 rfl ?_
      refine zs_get (pc := 10) t53_10 (by decide) (zk1 (hs.k fk_zMc_19)) (hs.p rfl fv_zMc_19_1) ?_
      refine zs_iload_n (pc := 13) t53_13 rfl ?_
      obtain ⟨w4n, w4⟩ : ∃ n : Nat, a.toInt = (n : Int) := ⟨a.toInt.toNat, by omega⟩
      have w5 := ib20 hI w4n
      refine zs_iald (pc := 14) t53_14 (j := w4n) (by decide) (zk1 (hs.k fk_zMc_20)) w4 (zk2 (hs.k fk_zMc_20) (by omega)) rfl ?_
      obtain ⟨w6v, w6⟩ : ∃ v, b * (zI M 20 w4n) = v := ⟨_, rfl⟩
      have w6g := zrg w6v
      refine zs_imul (pc := 15) t53_15 (c := w6v) w6 ?_
      refine zs_bipush (pc := 16) t53_16 (v := 100) (by decide) ?_
      refine zs_invS (pc := 18) (as := [.int w6v, .int (100 : Int32)]) (st := []) t53_18 (by decide) mf54 rfl rfl ⟨by decide, by decide, Nat.le_of_ble_eq_true rfl, Nat.le_of_ble_eq_true rfl⟩ (zs_in (by decide) mf54 (Nat.le_of_ble_eq_true rfl) ?_) (fun _ _ q => q)
      show zGo X l 0 0 0 54 0 [(0, .int w6v), (1, .int (100 : Int32))] [] M _
      refine zs_iload_n (pc := 0) t54_0 rfl ?_
      refine zs_iload_n (pc := 1) t54_1 rfl ?_
      obtain ⟨w7v, w7⟩ : ∃ v, w6v / (100 : Int32) = v := ⟨_, rfl⟩
      have w7g := zrg w7v
      refine zs_idiv (pc := 2) t54_2 (by decide) (c := w7v) w7 ?_
      refine zs_istore_n (pc := 3) t54_3 (ls' := [(2, .int w7v), (0, .int w6v), (1, .int (100 : Int32))]) (zml mf54 (by decide)) rfl ?_
      refine zs_iload_n (pc := 4) t54_4 rfl ?_
      refine zs_iload_n (pc := 5) t54_5 rfl ?_
      obtain ⟨w8v, w8⟩ : ∃ v, w6v ^^^ (100 : Int32) = v := ⟨_, rfl⟩
      have w8g := zrg w8v
      refine zs_ixor (pc := 6) t54_6 (c := w8v) w8 ?_
      by_cases w9 : 0 ≤ w8v.toInt
      · refine zs_if_geT (pc := 7) t54_7 rfl (by omega) ?_
        refine zs_iload_n (pc := 21) t54_21 rfl ?_
        refine zs_iret (pc := 22) t54_22 mr54 rfl ?_
        show zGo X l 1 0 0 53 21 [(0, .ref 19), (1, .int a), (2, .int b)] [.int w7v] M _
        refine zs_goto (pc := 21) t53_21 ?_
        exact zs_iret (pc := 25) t53_25 mr53 rfl (hQ _ (by omega) (by omega))
      · refine zs_if_geF (pc := 7) t54_7 rfl (by omega) ?_
        refine zs_iload_n (pc := 10) t54_10 rfl ?_
        refine zs_iload_n (pc := 11) t54_11 rfl ?_
        obtain ⟨w10v, w10⟩ : ∃ v, w7v * (100 : Int32) = v := ⟨_, rfl⟩
        have w10g := zrg w10v
        refine zs_imul (pc := 12) t54_12 (c := w10v) w10 ?_
        refine zs_iload_n (pc := 13) t54_13 rfl ?_
        by_cases w11 : w10v.toInt = w6v.toInt
        · refine zs_icmp_eqT (pc := 14) t54_14 rfl rfl (by omega) ?_
          refine zs_iload_n (pc := 21) t54_21 rfl ?_
          refine zs_iret (pc := 22) t54_22 mr54 rfl ?_
          show zGo X l 1 0 0 53 21 [(0, .ref 19), (1, .int a), (2, .int b)] [.int w7v] M _
          refine zs_goto (pc := 21) t53_21 ?_
          exact zs_iret (pc := 25) t53_25 mr53 rfl (hQ _ (by omega) (by omega))
        · refine zs_icmp_eqF (pc := 14) t54_14 rfl rfl (by omega) ?_
          refine zs_iload_n (pc := 17) t54_17 rfl ?_
          refine zs_iconst (pc := 18) t54_18 (v := 1) (by decide) ?_
          obtain ⟨w12v, w12⟩ : ∃ v, v = w7v - (1 : Int32) := ⟨_, rfl⟩
          have w12g := zrg w12v
          refine zs_isub (pc := 19) t54_19 (c := w12v) w12.symm ?_
          refine zs_iret (pc := 20) t54_20 mr54 rfl ?_
          show zGo X l 1 0 0 53 21 [(0, .ref 19), (1, .int a), (2, .int b)] [.int w12v] M _
          refine zs_goto (pc := 21) t53_21 ?_
          exact zs_iret (pc := 25) t53_25 mr53 rfl (hQ _ (by omega) (by omega))
theorem C55_19 {X : zX} {l : Launch} {M : zM} {Q : Option Value → zM → Prop} {a b : Int32} (hs : zSk zMc M) (hI : zIv cLo cHi M) (hQ : ∀ v : Int32, (-2147483648) ≤ v.toInt → v.toInt ≤ 2147483647 → Q (some (.int v)) M) : zCall X l 1 0 0 55 [.ref 19, .int a, .int b] M Q := by
  have ga := zrg a
  have gb := zrg b
  refine zs_in (by decide) mf55 (Nat.le_of_ble_eq_true rfl) ?_
  show zGo X l 1 0 0 55 0 [(0, .ref 19), (1, .int a), (2, .int b)] [] M _
  refine zs_aload_n (pc := 0) t55_0 rfl ?_
  refine zs_iload_n (pc := 1) t55_1 rfl ?_
  refine zs_invV (pc := 2) (k := 19) (as' := [.int a]) (st := []) t55_2 mf41 rfl rfl (Or.inl ⟨by decide, (zk1 (hs.k fk_zMc_19))⟩) ⟨by decide, by decide, Nat.le_of_ble_eq_true rfl, Nat.le_of_ble_eq_true rfl⟩ (zs_in (by decide) mf41 (Nat.le_of_ble_eq_true rfl) ?_) (fun _ _ q => q)
  show zGo X l 0 0 0 41 0 [(0, .ref 19), (1, .int a)] [] M _
  refine zs_iload_n (pc := 0) t41_0 rfl ?_
  by_cases w1 : a.toInt < 0
  · refine zs_if_ltT (pc := 1) t41_1 rfl (by omega) ?_
    refine zs_iconst (pc := 16) t41_16 (v := 0) (by decide) ?_
    refine zs_iret (pc := 17) t41_17 mr41 (by decide) ?_
    show zGo X l 1 0 0 55 5 [(0, .ref 19), (1, .int a), (2, .int b)] [.int (0 : Int32)] M _
    refine zs_if_eqT (pc := 5) t55_5 li0 (by decide) ?_
    refine zs_iconst (pc := 32) t55_32 (v := 0) (by decide) ?_
    exact zs_iret (pc := 33) t55_33 mr55 (by decide) (hQ _ (by decide) (by decide))
  · refine zs_if_ltF (pc := 1) t41_1 rfl (by omega) ?_
    refine zs_iload_n (pc := 4) t41_4 rfl ?_
    refine zs_aload_n (pc := 5) t41_5 rfl ?_
    have w2 := ib19_0 hI
    refine zs_get (pc := 6) t41_6 (by decide) (zk1 (hs.k fk_zMc_19)) (zfvi rfl rfl) ?_
    by_cases w3 : (zI M 19 0).toInt ≤ a.toInt
    · refine zs_icmp_geT (pc := 9) t41_9 rfl rfl (by omega) ?_
      refine zs_iconst (pc := 16) t41_16 (v := 0) (by decide) ?_
      refine zs_iret (pc := 17) t41_17 mr41 (by decide) ?_
      show zGo X l 1 0 0 55 5 [(0, .ref 19), (1, .int a), (2, .int b)] [.int (0 : Int32)] M _
      refine zs_if_eqT (pc := 5) t55_5 li0 (by decide) ?_
      refine zs_iconst (pc := 32) t55_32 (v := 0) (by decide) ?_
      exact zs_iret (pc := 33) t55_33 mr55 (by decide) (hQ _ (by decide) (by decide))
    · refine zs_icmp_geF (pc := 9) t41_9 rfl rfl (by omega) ?_
      refine zs_iconst (pc := 12) t41_12 (v := 1) (by decide) ?_
      refine zs_goto (pc := 13) t41_13 ?_
      refine zs_iret (pc := 17) t41_17 mr41 (by decide) ?_
      show zGo X l 1 0 0 55 5 [(0, .ref 19), (1, .int a), (2, .int b)] [.int (1 : Int32)] M _
      refine zs_if_eqF (pc := 5) t55_5 li1 (by decide) ?_
      refine zs_iload_n (pc := 8) t55_8 rfl ?_
      refine zs_aload_n (pc := 9) t55_9 rfl ?_
      refine zs_get (pc := 10) t55_10 (by decide) (zk1 (hs.k fk_zMc_19)) (hs.p rfl fv_zMc_19_1) ?_
      refine zs_iload_n (pc := 13) t55_13 rfl ?_
      obtain ⟨w4n, w4⟩ : ∃ n : Nat, a.toInt = (n : Int) := ⟨a.toInt.toNat, by omega⟩
      have w5 := ib20 hI w4n
      refine zs_iald (pc := 14) t55_14 (j := w4n) (by decide) (zk1 (hs.k fk_zMc_20)) w4 (zk2 (hs.k fk_zMc_20) (by omega)) rfl ?_
      obtain ⟨w6v, w6⟩ : ∃ v, b * (zI M 20 w4n) = v := ⟨_, rfl⟩
      have w6g := zrg w6v
      refine zs_imul (pc := 15) t55_15 (c := w6v) w6 ?_
      refine zs_aload_n (pc := 16) t55_16 rfl ?_
      refine zs_get (pc := 17) t55_17 (by decide) (zk1 (hs.k fk_zMc_19)) (hs.p rfl fv_zMc_19_1) ?_
      refine zs_iload_n (pc := 20) t55_20 rfl ?_
      obtain ⟨w7n, w7⟩ : ∃ n : Nat, a.toInt = (n : Int) := ⟨a.toInt.toNat, by omega⟩
      have w8 := ib20 hI w7n
      refine zs_iald (pc := 21) t55_21 (j := w7n) (by decide) (zk1 (hs.k fk_zMc_20)) w7 (zk2 (hs.k fk_zMc_20) (by omega)) rfl ?_
      obtain ⟨w9v, w9⟩ : ∃ v, w6v * (zI M 20 w7n) = v := ⟨_, rfl⟩
      have w9g := zrg w9v
      refine zs_imul (pc := 22) t55_22 (c := w9v) w9 ?_
      refine zs_sipush (pc := 23) t55_23 (v := 10000) (by decide) ?_
      refine zs_invS (pc := 26) (as := [.int w9v, .int (10000 : Int32)]) (st := []) t55_26 (by decide) mf54 rfl rfl ⟨by decide, by decide, Nat.le_of_ble_eq_true rfl, Nat.le_of_ble_eq_true rfl⟩ (zs_in (by decide) mf54 (Nat.le_of_ble_eq_true rfl) ?_) (fun _ _ q => q)
      show zGo X l 0 0 0 54 0 [(0, .int w9v), (1, .int (10000 : Int32))] [] M _
      refine zs_iload_n (pc := 0) t54_0 rfl ?_
      refine zs_iload_n (pc := 1) t54_1 rfl ?_
      obtain ⟨w10v, w10⟩ : ∃ v, w9v / (10000 : Int32) = v := ⟨_, rfl⟩
      have w10g := zrg w10v
      refine zs_idiv (pc := 2) t54_2 (by decide) (c := w10v) w10 ?_
      refine zs_istore_n (pc := 3) t54_3 (ls' := [(2, .int w10v), (0, .int w9v), (1, .int (10000 : Int32))]) (zml mf54 (by decide)) rfl ?_
      refine zs_iload_n (pc := 4) t54_4 rfl ?_
      refine zs_iload_n (pc := 5) t54_5 rfl ?_
      obtain ⟨w11v, w11⟩ : ∃ v, w9v ^^^ (10000 : Int32) = v := ⟨_, rfl⟩
      have w11g := zrg w11v
      refine zs_ixor (pc := 6) t54_6 (c := w11v) w11 ?_
      by_cases w12 : 0 ≤ w11v.toInt
      · refine zs_if_geT (pc := 7) t54_7 rfl (by omega) ?_
        refine zs_iload_n (pc := 21) t54_21 rfl ?_
        refine zs_iret (pc := 22) t54_22 mr54 rfl ?_
        show zGo X l 1 0 0 55 29 [(0, .ref 19), (1, .int a), (2, .int b)] [.int w10v] M _
        refine zs_goto (pc := 29) t55_29 ?_
        exact zs_iret (pc := 33) t55_33 mr55 rfl (hQ _ (by omega) (by omega))
      · refine zs_if_geF (pc := 7) t54_7 rfl (by omega) ?_
        refine zs_iload_n (pc := 10) t54_10 rfl ?_
        refine zs_iload_n (pc := 11) t54_11 rfl ?_
        obtain ⟨w13v, w13⟩ : ∃ v, w10v * (10000 : Int32) = v := ⟨_, rfl⟩
        have w13g := zrg w13v
        refine zs_imul (pc := 12) t54_12 (c := w13v) w13 ?_
        refine zs_iload_n (pc := 13) t54_13 rfl ?_
        by_cases w14 : w13v.toInt = w9v.toInt
        · refine zs_icmp_eqT (pc := 14) t54_14 rfl rfl (by omega) ?_
          refine zs_iload_n (pc := 21) t54_21 rfl ?_
          refine zs_iret (pc := 22) t54_22 mr54 rfl ?_
          show zGo X l 1 0 0 55 29 [(0, .ref 19), (1, .int a), (2, .int b)] [.int w10v] M _
          refine zs_goto (pc := 29) t55_29 ?_
          exact zs_iret (pc := 33) t55_33 mr55 rfl (hQ _ (by omega) (by omega))
        · refine zs_icmp_eqF (pc := 14) t54_14 rfl rfl (by omega) ?_
          refine zs_iload_n (pc := 17) t54_17 rfl ?_
          refine zs_iconst (pc := 18) t54_18 (v := 1) (by decide) ?_
          obtain ⟨w15v, w15⟩ : ∃ v, v = w10v - (1 : Int32) := ⟨_, rfl⟩
          have w15g := zrg w15v
          refine zs_isub (pc := 19) t54_19 (c := w15v) w15.symm ?_
          refine zs_iret (pc := 20) t54_20 mr54 rfl ?_
          show zGo X l 1 0 0 55 29 [(0, .ref 19), (1, .int a), (2, .int b)] [.int w15v] M _
          refine zs_goto (pc := 29) t55_29 ?_
          exact zs_iret (pc := 33) t55_33 mr55 rfl (hQ _ (by omega) (by omega))
theorem C49_19 {X : zX} {l : Launch} {M : zM} {Q : Option Value → zM → Prop} {a : Int32} (hs : zSk zMc M) (hI : zIv cLo cHi M) (hQ : ∀ (M' : zM) (v : Int32), zSk zMc M' → zIv cLo cHi M' → zFr [(19, 30, none)] M M' → 0 ≤ v.toInt → v.toInt ≤ 1 → Q (some (.int v)) M') : zCall X l 0 0 0 49 [.ref 19, .int a] M Q := by
  have ga := zrg a
  refine zs_in (by decide) mf49 (Nat.le_of_ble_eq_true rfl) ?_
  show zGo X l 0 0 0 49 0 [(0, .ref 19), (1, .int a)] [] M _
  refine zs_aload_n (pc := 0) t49_0 rfl ?_
  have w1 := ib19_0 hI
  refine zs_get (pc := 1) t49_1 (by decide) (zk1 (hs.k fk_zMc_19)) (zfvi rfl rfl) ?_
  refine zs_bipush (pc := 4) t49_4 (v := 8) (by decide) ?_
  by_cases w2 : (zI M 19 0).toInt < 8
  · refine zs_icmp_ltT (pc := 6) t49_6 rfl li8 (by omega) ?_
    refine zs_aload_n (pc := 11) t49_11 rfl ?_
    refine zs_get (pc := 12) t49_12 (by decide) (zk1 (hs.k fk_zMc_19)) (hs.p rfl fv_zMc_19_1) ?_
    refine zs_aload_n (pc := 15) t49_15 rfl ?_
    refine zs_get (pc := 16) t49_16 (by decide) (zk1 (hs.k fk_zMc_19)) (zfvi rfl rfl) ?_
    refine zs_iload_n (pc := 19) t49_19 rfl ?_
    obtain ⟨w3n, w3⟩ : ∃ n : Nat, (zI M 19 0).toInt = (n : Int) := ⟨(zI M 19 0).toInt.toNat, by omega⟩
    have w4 : zIv cLo cHi (zsI M 20 w3n a) := zIv.put hI (show (-2147483648) ≤ a.toInt ∧ a.toInt ≤ 2147483647 from (zrg a))
    refine zs_iast (pc := 20) t49_20 (j := w3n) (by decide) (zk1 (hs.k fk_zMc_20)) w3 (zk2 (hs.k fk_zMc_20) (by omega)) ?_
    refine zs_aload_n (pc := 21) t49_21 rfl ?_
    refine zs_get (pc := 22) t49_22 (by decide) (zk1 (hs.k fk_zMc_19)) (hs.p rfl fv_zMc_19_2) ?_
    refine zs_aload_n (pc := 25) t49_25 rfl ?_
    refine zs_get (pc := 26) t49_26 (by decide) (zk1 (hs.k fk_zMc_19)) (zfvi rfl ((zIo (by decide)).trans rfl)) ?_
    refine zs_iconst (pc := 29) t49_29 (v := 1) (by decide) ?_
    obtain ⟨w5n, w5⟩ : ∃ n : Nat, (zI M 19 0).toInt = (n : Int) := ⟨(zI M 19 0).toInt.toNat, by omega⟩
    have w6e : vp_nar .boolean (1 : Int32) = (1 : Int32) := by decide
    have w7 : zIv cLo cHi (zsI (zsI M 20 w3n a) 21 w5n (1 : Int32)) := zIv.put w4 (show 0 ≤ (1 : Int32).toInt ∧ (1 : Int32).toInt ≤ 1 from ⟨by decide, by decide⟩)
    refine zs_bastZ (pc := 30) t49_30 (j := w5n) (by decide) (zk1 (hs.k fk_zMc_21)) w5 (zk2 (hs.k fk_zMc_21) (by omega)) w6e ?_
    refine zs_aload_n (pc := 31) t49_31 rfl ?_
    refine zs_dup (pc := 32) t49_32 rfl ?_
    refine zs_get (pc := 33) t49_33 (by decide) (zk1 (hs.k fk_zMc_19)) (zfvi rfl ((zIo (by decide)).trans ((zIo (by decide)).trans rfl))) ?_
    refine zs_iconst (pc := 36) t49_36 (v := 1) (by decide) ?_
    obtain ⟨w8v, w8e, w8⟩ := ziadd (a := (zI M 19 0)) (b := (1 : Int32)) rfl li1 (by omega) (by omega)
    refine zs_iadd (pc := 37) t49_37 (c := w8v) w8e ?_
    have w9 : zIv cLo cHi (zsI (zsI (zsI M 20 w3n a) 21 w5n (1 : Int32)) 19 0 w8v) := zIv.put w7 (show 0 ≤ w8v.toInt ∧ w8v.toInt ≤ 8 from ⟨by omega, by omega⟩)
    refine zs_putI (pc := 38) t49_38 (zk1 (hs.k fk_zMc_19)) rfl ?_
    refine zs_iconst (pc := 41) t49_41 (v := 1) (by decide) ?_
    exact zs_iret (pc := 42) t49_42 mr49 (by decide) (hQ _ _ hs w9 ((((zFr.refl).put rfl).put rfl).put rfl) (by decide) (by decide))
  · refine zs_icmp_ltF (pc := 6) t49_6 rfl li8 (by omega) ?_
    refine zs_iconst (pc := 9) t49_9 (v := 0) (by decide) ?_
    exact zs_iret (pc := 10) t49_10 mr49 (by decide) (hQ _ _ hs hI (zFr.refl) (by decide) (by decide))
theorem C50_19 {X : zX} {l : Launch} {M : zM} {Q : Option Value → zM → Prop} {a b c d : Int32} (hs : zSk zMc M) (hI : zIv cLo cHi M) (hQ : ∀ (M' : zM) (v : Int32), zSk zMc M' → zIv cLo cHi M' → zFr [(19, 30, none)] M M' → (-2147483648) ≤ v.toInt → v.toInt ≤ 2147483647 → Q (some (.int v)) M') : zCall X l 2 0 0 50 [.ref 19, .int a, .int b, .int c, .int d] M Q := by
  have ga := zrg a
  have gb := zrg b
  have gc := zrg c
  have gd := zrg d
  refine zs_in (by decide) mf50 (Nat.le_of_ble_eq_true rfl) ?_
  show zGo X l 2 0 0 50 0 [(0, .ref 19), (1, .int a), (2, .int b), (3, .int c), (4, .int d)] [] M _
  refine zs_aload_n (pc := 0) t50_0 rfl ?_
  refine zs_iload_n (pc := 1) t50_1 rfl ?_
  refine zs_iload_n (pc := 2) t50_2 rfl ?_
  refine zs_iload_n (pc := 3) t50_3 rfl ?_
  refine zs_invV (pc := 4) (k := 19) (as' := [.int a, .int b, .int c]) (st := []) t50_4 mf51 rfl rfl (Or.inl ⟨by decide, (zk1 (hs.k fk_zMc_19))⟩) ⟨by decide, by decide, Nat.le_of_ble_eq_true rfl, Nat.le_of_ble_eq_true rfl⟩ (zs_in (by decide) mf51 (Nat.le_of_ble_eq_true rfl) ?_) (fun _ _ q => q)
  show zGo X l 1 0 0 51 0 [(0, .ref 19), (1, .int a), (2, .int b), (3, .int c)] [] M _
  refine zs_aload_n (pc := 0) t51_0 rfl ?_
  refine zs_iload_n (pc := 1) t51_1 rfl ?_
  refine zs_invV (pc := 2) (k := 19) (as' := [.int a]) (st := []) t51_2 mf41 rfl rfl (Or.inl ⟨by decide, (zk1 (hs.k fk_zMc_19))⟩) ⟨by decide, by decide, Nat.le_of_ble_eq_true rfl, Nat.le_of_ble_eq_true rfl⟩ (zs_in (by decide) mf41 (Nat.le_of_ble_eq_true rfl) ?_) (fun _ _ q => q)
  show zGo X l 0 0 0 41 0 [(0, .ref 19), (1, .int a)] [] M _
  refine zs_iload_n (pc := 0) t41_0 rfl ?_
  by_cases w1 : a.toInt < 0
  · refine zs_if_ltT (pc := 1) t41_1 rfl (by omega) ?_
    refine zs_iconst (pc := 16) t41_16 (v := 0) (by decide) ?_
    refine zs_iret (pc := 17) t41_17 mr41 (by decide) ?_
    show zGo X l 1 0 0 51 5 [(0, .ref 19), (1, .int a), (2, .int b), (3, .int c)] [.int (0 : Int32)] M _
    refine zs_if_eqT (pc := 5) t51_5 li0 (by decide) ?_
    refine zs_iconst (pc := 39) t51_39 (v := 0) (by decide) ?_
    refine zs_iret (pc := 40) t51_40 mr51 (by decide) ?_
    show zGo X l 2 0 0 50 7 [(0, .ref 19), (1, .int a), (2, .int b), (3, .int c), (4, .int d)] [.int (0 : Int32)] M _
    refine zs_if_neF (pc := 7) t50_7 li0 (by decide) ?_
    refine zs_iconst (pc := 10) t50_10 (v := -1) (by decide) ?_
    exact zs_iret (pc := 11) t50_11 mr50 (by decide) (hQ _ _ hs hI (zFr.refl) (by decide) (by decide))
  · refine zs_if_ltF (pc := 1) t41_1 rfl (by omega) ?_
    refine zs_iload_n (pc := 4) t41_4 rfl ?_
    refine zs_aload_n (pc := 5) t41_5 rfl ?_
    have w2 := ib19_0 hI
    refine zs_get (pc := 6) t41_6 (by decide) (zk1 (hs.k fk_zMc_19)) (zfvi rfl rfl) ?_
    by_cases w3 : (zI M 19 0).toInt ≤ a.toInt
    · refine zs_icmp_geT (pc := 9) t41_9 rfl rfl (by omega) ?_
      refine zs_iconst (pc := 16) t41_16 (v := 0) (by decide) ?_
      refine zs_iret (pc := 17) t41_17 mr41 (by decide) ?_
      show zGo X l 1 0 0 51 5 [(0, .ref 19), (1, .int a), (2, .int b), (3, .int c)] [.int (0 : Int32)] M _
      refine zs_if_eqT (pc := 5) t51_5 li0 (by decide) ?_
      refine zs_iconst (pc := 39) t51_39 (v := 0) (by decide) ?_
      refine zs_iret (pc := 40) t51_40 mr51 (by decide) ?_
      show zGo X l 2 0 0 50 7 [(0, .ref 19), (1, .int a), (2, .int b), (3, .int c), (4, .int d)] [.int (0 : Int32)] M _
      refine zs_if_neF (pc := 7) t50_7 li0 (by decide) ?_
      refine zs_iconst (pc := 10) t50_10 (v := -1) (by decide) ?_
      exact zs_iret (pc := 11) t50_11 mr50 (by decide) (hQ _ _ hs hI (zFr.refl) (by decide) (by decide))
    · refine zs_icmp_geF (pc := 9) t41_9 rfl rfl (by omega) ?_
      refine zs_iconst (pc := 12) t41_12 (v := 1) (by decide) ?_
      refine zs_goto (pc := 13) t41_13 ?_
      refine zs_iret (pc := 17) t41_17 mr41 (by decide) ?_
      show zGo X l 1 0 0 51 5 [(0, .ref 19), (1, .int a), (2, .int b), (3, .int c)] [.int (1 : Int32)] M _
      refine zs_if_eqF (pc := 5) t51_5 li1 (by decide) ?_
      refine zs_iload_n (pc := 8) t51_8 rfl ?_
      refine zs_invS (pc := 9) (as := [.int b]) (st := []) t51_9 (by decide) mf42 rfl rfl ⟨by decide, by decide, Nat.le_of_ble_eq_true rfl, Nat.le_of_ble_eq_true rfl⟩ (zs_in (by decide) mf42 (Nat.le_of_ble_eq_true rfl) ?_) (fun _ _ q => q)
      show zGo X l 0 0 0 42 0 [(0, .int b)] [] M _
      refine zs_iload_n (pc := 0) t42_0 rfl ?_
      refine zs_sipush (pc := 1) t42_1 (v := -9999) (by decide) ?_
      by_cases w4 : b.toInt < (-9999)
      · refine zs_icmp_ltT (pc := 4) t42_4 rfl lin9999 (by omega) ?_
        refine zs_iconst (pc := 18) t42_18 (v := 0) (by decide) ?_
        refine zs_iret (pc := 19) t42_19 mr42 (by decide) ?_
        show zGo X l 1 0 0 51 12 [(0, .ref 19), (1, .int a), (2, .int b), (3, .int c)] [.int (0 : Int32)] M _
        refine zs_if_eqT (pc := 12) t51_12 li0 (by decide) ?_
        refine zs_iconst (pc := 39) t51_39 (v := 0) (by decide) ?_
        refine zs_iret (pc := 40) t51_40 mr51 (by decide) ?_
        show zGo X l 2 0 0 50 7 [(0, .ref 19), (1, .int a), (2, .int b), (3, .int c), (4, .int d)] [.int (0 : Int32)] M _
        refine zs_if_neF (pc := 7) t50_7 li0 (by decide) ?_
        refine zs_iconst (pc := 10) t50_10 (v := -1) (by decide) ?_
        exact zs_iret (pc := 11) t50_11 mr50 (by decide) (hQ _ _ hs hI (zFr.refl) (by decide) (by decide))
      · refine zs_icmp_ltF (pc := 4) t42_4 rfl lin9999 (by omega) ?_
        refine zs_iload_n (pc := 7) t42_7 rfl ?_
        refine zs_sipush (pc := 8) t42_8 (v := 9999) (by decide) ?_
        by_cases w5 : 9999 < b.toInt
        · refine zs_icmp_gtT (pc := 11) t42_11 rfl li9999 (by omega) ?_
          refine zs_iconst (pc := 18) t42_18 (v := 0) (by decide) ?_
          refine zs_iret (pc := 19) t42_19 mr42 (by decide) ?_
          show zGo X l 1 0 0 51 12 [(0, .ref 19), (1, .int a), (2, .int b), (3, .int c)] [.int (0 : Int32)] M _
          refine zs_if_eqT (pc := 12) t51_12 li0 (by decide) ?_
          refine zs_iconst (pc := 39) t51_39 (v := 0) (by decide) ?_
          refine zs_iret (pc := 40) t51_40 mr51 (by decide) ?_
          show zGo X l 2 0 0 50 7 [(0, .ref 19), (1, .int a), (2, .int b), (3, .int c), (4, .int d)] [.int (0 : Int32)] M _
          refine zs_if_neF (pc := 7) t50_7 li0 (by decide) ?_
          refine zs_iconst (pc := 10) t50_10 (v := -1) (by decide) ?_
          exact zs_iret (pc := 11) t50_11 mr50 (by decide) (hQ _ _ hs hI (zFr.refl) (by decide) (by decide))
        · refine zs_icmp_gtF (pc := 11) t42_11 rfl li9999 (by omega) ?_
          refine zs_iconst (pc := 14) t42_14 (v := 1) (by decide) ?_
          refine zs_goto (pc := 15) t42_15 ?_
          refine zs_iret (pc := 19) t42_19 mr42 (by decide) ?_
          show zGo X l 1 0 0 51 12 [(0, .ref 19), (1, .int a), (2, .int b), (3, .int c)] [.int (1 : Int32)] M _
          refine zs_if_eqF (pc := 12) t51_12 li1 (by decide) ?_
          refine zs_iload_n (pc := 15) t51_15 rfl ?_
          refine zs_iconst (pc := 16) t51_16 (v := 0) (by decide) ?_
          refine zs_sipush (pc := 17) t51_17 (v := 999) (by decide) ?_
          refine zs_invS (pc := 20) (as := [.int c, .int (0 : Int32), .int (999 : Int32)]) (st := []) t51_20 (by decide) mf39 rfl rfl ⟨by decide, by decide, Nat.le_of_ble_eq_true rfl, Nat.le_of_ble_eq_true rfl⟩ (zs_in (by decide) mf39 (Nat.le_of_ble_eq_true rfl) ?_) (fun _ _ q => q)
          show zGo X l 0 0 0 39 0 [(0, .int c), (1, .int (0 : Int32)), (2, .int (999 : Int32))] [] M _
          refine zs_iload_n (pc := 0) t39_0 rfl ?_
          refine zs_iload_n (pc := 1) t39_1 rfl ?_
          by_cases w6 : c.toInt < 0
          · refine zs_icmp_ltT (pc := 2) t39_2 rfl li0 (by omega) ?_
            refine zs_iconst (pc := 14) t39_14 (v := 0) (by decide) ?_
            refine zs_iret (pc := 15) t39_15 mr39 (by decide) ?_
            show zGo X l 1 0 0 51 23 [(0, .ref 19), (1, .int a), (2, .int b), (3, .int c)] [.int (0 : Int32)] M _
            refine zs_if_eqT (pc := 23) t51_23 li0 (by decide) ?_
            refine zs_iconst (pc := 39) t51_39 (v := 0) (by decide) ?_
            refine zs_iret (pc := 40) t51_40 mr51 (by decide) ?_
            show zGo X l 2 0 0 50 7 [(0, .ref 19), (1, .int a), (2, .int b), (3, .int c), (4, .int d)] [.int (0 : Int32)] M _
            refine zs_if_neF (pc := 7) t50_7 li0 (by decide) ?_
            refine zs_iconst (pc := 10) t50_10 (v := -1) (by decide) ?_
            exact zs_iret (pc := 11) t50_11 mr50 (by decide) (hQ _ _ hs hI (zFr.refl) (by decide) (by decide))
          · refine zs_icmp_ltF (pc := 2) t39_2 rfl li0 (by omega) ?_
            refine zs_iload_n (pc := 5) t39_5 rfl ?_
            refine zs_iload_n (pc := 6) t39_6 rfl ?_
            by_cases w7 : 999 < c.toInt
            · refine zs_icmp_gtT (pc := 7) t39_7 rfl li999 (by omega) ?_
              refine zs_iconst (pc := 14) t39_14 (v := 0) (by decide) ?_
              refine zs_iret (pc := 15) t39_15 mr39 (by decide) ?_
              show zGo X l 1 0 0 51 23 [(0, .ref 19), (1, .int a), (2, .int b), (3, .int c)] [.int (0 : Int32)] M _
              refine zs_if_eqT (pc := 23) t51_23 li0 (by decide) ?_
              refine zs_iconst (pc := 39) t51_39 (v := 0) (by decide) ?_
              refine zs_iret (pc := 40) t51_40 mr51 (by decide) ?_
              show zGo X l 2 0 0 50 7 [(0, .ref 19), (1, .int a), (2, .int b), (3, .int c), (4, .int d)] [.int (0 : Int32)] M _
              refine zs_if_neF (pc := 7) t50_7 li0 (by decide) ?_
              refine zs_iconst (pc := 10) t50_10 (v := -1) (by decide) ?_
              exact zs_iret (pc := 11) t50_11 mr50 (by decide) (hQ _ _ hs hI (zFr.refl) (by decide) (by decide))
            · refine zs_icmp_gtF (pc := 7) t39_7 rfl li999 (by omega) ?_
              refine zs_iconst (pc := 10) t39_10 (v := 1) (by decide) ?_
              refine zs_goto (pc := 11) t39_11 ?_
              refine zs_iret (pc := 15) t39_15 mr39 (by decide) ?_
              show zGo X l 1 0 0 51 23 [(0, .ref 19), (1, .int a), (2, .int b), (3, .int c)] [.int (1 : Int32)] M _
              refine zs_if_eqF (pc := 23) t51_23 li1 (by decide) ?_
              refine zs_aload_n (pc := 26) t51_26 rfl ?_
              have w8 := ib19_3 hI
              refine zs_get (pc := 27) t51_27 (by decide) (zk1 (hs.k fk_zMc_19)) (zfvi rfl rfl) ?_
              refine zs_bipush (pc := 30) t51_30 (v := 60) (by decide) ?_
              by_cases w9 : 60 ≤ (zI M 19 3).toInt
              · refine zs_icmp_geT (pc := 32) t51_32 rfl li60 (by omega) ?_
                refine zs_iconst (pc := 39) t51_39 (v := 0) (by decide) ?_
                refine zs_iret (pc := 40) t51_40 mr51 (by decide) ?_
                show zGo X l 2 0 0 50 7 [(0, .ref 19), (1, .int a), (2, .int b), (3, .int c), (4, .int d)] [.int (0 : Int32)] M _
                refine zs_if_neF (pc := 7) t50_7 li0 (by decide) ?_
                refine zs_iconst (pc := 10) t50_10 (v := -1) (by decide) ?_
                exact zs_iret (pc := 11) t50_11 mr50 (by decide) (hQ _ _ hs hI (zFr.refl) (by decide) (by decide))
              · refine zs_icmp_geF (pc := 32) t51_32 rfl li60 (by omega) ?_
                refine zs_iconst (pc := 35) t51_35 (v := 1) (by decide) ?_
                refine zs_goto (pc := 36) t51_36 ?_
                refine zs_iret (pc := 40) t51_40 mr51 (by decide) ?_
                show zGo X l 2 0 0 50 7 [(0, .ref 19), (1, .int a), (2, .int b), (3, .int c), (4, .int d)] [.int (1 : Int32)] M _
                refine zs_if_neT (pc := 7) t50_7 li1 (by decide) ?_
                refine zs_aload_n (pc := 12) t50_12 rfl ?_
                refine zs_get (pc := 13) t50_13 (by decide) (zk1 (hs.k fk_zMc_19)) (hs.p rfl fv_zMc_19_4) ?_
                refine zs_aload_n (pc := 16) t50_16 rfl ?_
                refine zs_get (pc := 17) t50_17 (by decide) (zk1 (hs.k fk_zMc_19)) (zfvi rfl rfl) ?_
                refine zs_iload_n (pc := 20) t50_20 rfl ?_
                obtain ⟨w10n, w10⟩ : ∃ n : Nat, (zI M 19 3).toInt = (n : Int) := ⟨(zI M 19 3).toInt.toNat, by omega⟩
                have w11 : zIv cLo cHi (zsI M 22 w10n a) := zIv.put hI (show 0 ≤ a.toInt ∧ a.toInt ≤ 7 from ⟨by omega, by omega⟩)
                refine zs_iast (pc := 21) t50_21 (j := w10n) (by decide) (zk1 (hs.k fk_zMc_22)) w10 (zk2 (hs.k fk_zMc_22) (by omega)) ?_
                refine zs_aload_n (pc := 22) t50_22 rfl ?_
                refine zs_get (pc := 23) t50_23 (by decide) (zk1 (hs.k fk_zMc_19)) (hs.p rfl fv_zMc_19_5) ?_
                refine zs_aload_n (pc := 26) t50_26 rfl ?_
                refine zs_get (pc := 27) t50_27 (by decide) (zk1 (hs.k fk_zMc_19)) (zfvi rfl ((zIo (by decide)).trans rfl)) ?_
                refine zs_iload_n (pc := 30) t50_30 rfl ?_
                obtain ⟨w12n, w12⟩ : ∃ n : Nat, (zI M 19 3).toInt = (n : Int) := ⟨(zI M 19 3).toInt.toNat, by omega⟩
                have w13 : zIv cLo cHi (zsI (zsI M 22 w10n a) 23 w12n b) := zIv.put w11 (show (-2147483648) ≤ b.toInt ∧ b.toInt ≤ 2147483647 from (zrg b))
                refine zs_iast (pc := 31) t50_31 (j := w12n) (by decide) (zk1 (hs.k fk_zMc_23)) w12 (zk2 (hs.k fk_zMc_23) (by omega)) ?_
                refine zs_aload_n (pc := 32) t50_32 rfl ?_
                refine zs_get (pc := 33) t50_33 (by decide) (zk1 (hs.k fk_zMc_19)) (hs.p rfl fv_zMc_19_6) ?_
                refine zs_aload_n (pc := 36) t50_36 rfl ?_
                refine zs_get (pc := 37) t50_37 (by decide) (zk1 (hs.k fk_zMc_19)) (zfvi rfl ((zIo (by decide)).trans ((zIo (by decide)).trans rfl))) ?_
                refine zs_iload_n (pc := 40) t50_40 rfl ?_
                obtain ⟨w14n, w14⟩ : ∃ n : Nat, (zI M 19 3).toInt = (n : Int) := ⟨(zI M 19 3).toInt.toNat, by omega⟩
                have w15 : zIv cLo cHi (zsI (zsI (zsI M 22 w10n a) 23 w12n b) 24 w14n c) := zIv.put w13 (show (-2147483648) ≤ c.toInt ∧ c.toInt ≤ 2147483647 from (zrg c))
                refine zs_iast (pc := 41) t50_41 (j := w14n) (by decide) (zk1 (hs.k fk_zMc_24)) w14 (zk2 (hs.k fk_zMc_24) (by omega)) ?_
                refine zs_aload_n (pc := 42) t50_42 rfl ?_
                refine zs_get (pc := 43) t50_43 (by decide) (zk1 (hs.k fk_zMc_19)) (hs.p rfl fv_zMc_19_7) ?_
                refine zs_aload_n (pc := 46) t50_46 rfl ?_
                refine zs_get (pc := 47) t50_47 (by decide) (zk1 (hs.k fk_zMc_19)) (zfvi rfl ((zIo (by decide)).trans ((zIo (by decide)).trans ((zIo (by decide)).trans rfl)))) ?_
                refine zs_iload (pc := 50) t50_50 rfl ?_
                obtain ⟨w16n, w16⟩ : ∃ n : Nat, (zI M 19 3).toInt = (n : Int) := ⟨(zI M 19 3).toInt.toNat, by omega⟩
                have w17 : zIv cLo cHi (zsI (zsI (zsI (zsI M 22 w10n a) 23 w12n b) 24 w14n c) 25 w16n d) := zIv.put w15 (show (-2147483648) ≤ d.toInt ∧ d.toInt ≤ 2147483647 from (zrg d))
                refine zs_iast (pc := 52) t50_52 (j := w16n) (by decide) (zk1 (hs.k fk_zMc_25)) w16 (zk2 (hs.k fk_zMc_25) (by omega)) ?_
                refine zs_aload_n (pc := 53) t50_53 rfl ?_
                refine zs_dup (pc := 54) t50_54 rfl ?_
                refine zs_get (pc := 55) t50_55 (by decide) (zk1 (hs.k fk_zMc_19)) (zfvi rfl ((zIo (by decide)).trans ((zIo (by decide)).trans ((zIo (by decide)).trans ((zIo (by decide)).trans rfl))))) ?_
                refine zs_iconst (pc := 58) t50_58 (v := 1) (by decide) ?_
                obtain ⟨w18v, w18e, w18⟩ := ziadd (a := (zI M 19 3)) (b := (1 : Int32)) rfl li1 (by omega) (by omega)
                refine zs_iadd (pc := 59) t50_59 (c := w18v) w18e ?_
                have w19 : zIv cLo cHi (zsI (zsI (zsI (zsI (zsI M 22 w10n a) 23 w12n b) 24 w14n c) 25 w16n d) 19 3 w18v) := zIv.put w17 (show 0 ≤ w18v.toInt ∧ w18v.toInt ≤ 60 from ⟨by omega, by omega⟩)
                refine zs_putI (pc := 60) t50_60 (zk1 (hs.k fk_zMc_19)) rfl ?_
                refine zs_aload_n (pc := 63) t50_63 rfl ?_
                refine zs_get (pc := 64) t50_64 (by decide) (zk1 (hs.k fk_zMc_19)) (zfvi rfl zIs) ?_
                refine zs_iconst (pc := 67) t50_67 (v := 1) (by decide) ?_
                obtain ⟨w20v, w20e, w20⟩ := zisub (a := w18v) (b := (1 : Int32)) w18 li1 (by omega) (by omega)
                refine zs_isub (pc := 68) t50_68 (c := w20v) w20e ?_
                exact zs_iret (pc := 69) t50_69 mr50 rfl (hQ _ _ hs w19 ((((((zFr.refl).put rfl).put rfl).put rfl).put rfl).put rfl) (by omega) (by omega))
theorem C50_7 {X : zX} {l : Launch} {M : zM} {Q : Option Value → zM → Prop} {a b c d : Int32} (hs : zSk zMc M) (hI : zIv cLo cHi M) (hQ : ∀ (M' : zM) (v : Int32), zSk zMc M' → zIv cLo cHi M' → zFr [(7, 18, none)] M M' → (-2147483648) ≤ v.toInt → v.toInt ≤ 2147483647 → Q (some (.int v)) M') : zCall X l 2 0 0 50 [.ref 7, .int a, .int b, .int c, .int d] M Q := by
  have ga := zrg a
  have gb := zrg b
  have gc := zrg c
  have gd := zrg d
  refine zs_in (by decide) mf50 (Nat.le_of_ble_eq_true rfl) ?_
  show zGo X l 2 0 0 50 0 [(0, .ref 7), (1, .int a), (2, .int b), (3, .int c), (4, .int d)] [] M _
  refine zs_aload_n (pc := 0) t50_0 rfl ?_
  refine zs_iload_n (pc := 1) t50_1 rfl ?_
  refine zs_iload_n (pc := 2) t50_2 rfl ?_
  refine zs_iload_n (pc := 3) t50_3 rfl ?_
  refine zs_invV (pc := 4) (k := 7) (as' := [.int a, .int b, .int c]) (st := []) t50_4 mf51 rfl rfl (Or.inl ⟨by decide, (zk1 (hs.k fk_zMc_7))⟩) ⟨by decide, by decide, Nat.le_of_ble_eq_true rfl, Nat.le_of_ble_eq_true rfl⟩ (zs_in (by decide) mf51 (Nat.le_of_ble_eq_true rfl) ?_) (fun _ _ q => q)
  show zGo X l 1 0 0 51 0 [(0, .ref 7), (1, .int a), (2, .int b), (3, .int c)] [] M _
  refine zs_aload_n (pc := 0) t51_0 rfl ?_
  refine zs_iload_n (pc := 1) t51_1 rfl ?_
  refine zs_invV (pc := 2) (k := 7) (as' := [.int a]) (st := []) t51_2 mf41 rfl rfl (Or.inl ⟨by decide, (zk1 (hs.k fk_zMc_7))⟩) ⟨by decide, by decide, Nat.le_of_ble_eq_true rfl, Nat.le_of_ble_eq_true rfl⟩ (zs_in (by decide) mf41 (Nat.le_of_ble_eq_true rfl) ?_) (fun _ _ q => q)
  show zGo X l 0 0 0 41 0 [(0, .ref 7), (1, .int a)] [] M _
  refine zs_iload_n (pc := 0) t41_0 rfl ?_
  by_cases w1 : a.toInt < 0
  · refine zs_if_ltT (pc := 1) t41_1 rfl (by omega) ?_
    refine zs_iconst (pc := 16) t41_16 (v := 0) (by decide) ?_
    refine zs_iret (pc := 17) t41_17 mr41 (by decide) ?_
    show zGo X l 1 0 0 51 5 [(0, .ref 7), (1, .int a), (2, .int b), (3, .int c)] [.int (0 : Int32)] M _
    refine zs_if_eqT (pc := 5) t51_5 li0 (by decide) ?_
    refine zs_iconst (pc := 39) t51_39 (v := 0) (by decide) ?_
    refine zs_iret (pc := 40) t51_40 mr51 (by decide) ?_
    show zGo X l 2 0 0 50 7 [(0, .ref 7), (1, .int a), (2, .int b), (3, .int c), (4, .int d)] [.int (0 : Int32)] M _
    refine zs_if_neF (pc := 7) t50_7 li0 (by decide) ?_
    refine zs_iconst (pc := 10) t50_10 (v := -1) (by decide) ?_
    exact zs_iret (pc := 11) t50_11 mr50 (by decide) (hQ _ _ hs hI (zFr.refl) (by decide) (by decide))
  · refine zs_if_ltF (pc := 1) t41_1 rfl (by omega) ?_
    refine zs_iload_n (pc := 4) t41_4 rfl ?_
    refine zs_aload_n (pc := 5) t41_5 rfl ?_
    have w2 := ib7_0 hI
    refine zs_get (pc := 6) t41_6 (by decide) (zk1 (hs.k fk_zMc_7)) (zfvi rfl rfl) ?_
    by_cases w3 : (zI M 7 0).toInt ≤ a.toInt
    · refine zs_icmp_geT (pc := 9) t41_9 rfl rfl (by omega) ?_
      refine zs_iconst (pc := 16) t41_16 (v := 0) (by decide) ?_
      refine zs_iret (pc := 17) t41_17 mr41 (by decide) ?_
      show zGo X l 1 0 0 51 5 [(0, .ref 7), (1, .int a), (2, .int b), (3, .int c)] [.int (0 : Int32)] M _
      refine zs_if_eqT (pc := 5) t51_5 li0 (by decide) ?_
      refine zs_iconst (pc := 39) t51_39 (v := 0) (by decide) ?_
      refine zs_iret (pc := 40) t51_40 mr51 (by decide) ?_
      show zGo X l 2 0 0 50 7 [(0, .ref 7), (1, .int a), (2, .int b), (3, .int c), (4, .int d)] [.int (0 : Int32)] M _
      refine zs_if_neF (pc := 7) t50_7 li0 (by decide) ?_
      refine zs_iconst (pc := 10) t50_10 (v := -1) (by decide) ?_
      exact zs_iret (pc := 11) t50_11 mr50 (by decide) (hQ _ _ hs hI (zFr.refl) (by decide) (by decide))
    · refine zs_icmp_geF (pc := 9) t41_9 rfl rfl (by omega) ?_
      refine zs_iconst (pc := 12) t41_12 (v := 1) (by decide) ?_
      refine zs_goto (pc := 13) t41_13 ?_
      refine zs_iret (pc := 17) t41_17 mr41 (by decide) ?_
      show zGo X l 1 0 0 51 5 [(0, .ref 7), (1, .int a), (2, .int b), (3, .int c)] [.int (1 : Int32)] M _
      refine zs_if_eqF (pc := 5) t51_5 li1 (by decide) ?_
      refine zs_iload_n (pc := 8) t51_8 rfl ?_
      refine zs_invS (pc := 9) (as := [.int b]) (st := []) t51_9 (by decide) mf42 rfl rfl ⟨by decide, by decide, Nat.le_of_ble_eq_true rfl, Nat.le_of_ble_eq_true rfl⟩ (zs_in (by decide) mf42 (Nat.le_of_ble_eq_true rfl) ?_) (fun _ _ q => q)
      show zGo X l 0 0 0 42 0 [(0, .int b)] [] M _
      refine zs_iload_n (pc := 0) t42_0 rfl ?_
      refine zs_sipush (pc := 1) t42_1 (v := -9999) (by decide) ?_
      by_cases w4 : b.toInt < (-9999)
      · refine zs_icmp_ltT (pc := 4) t42_4 rfl lin9999 (by omega) ?_
        refine zs_iconst (pc := 18) t42_18 (v := 0) (by decide) ?_
        refine zs_iret (pc := 19) t42_19 mr42 (by decide) ?_
        show zGo X l 1 0 0 51 12 [(0, .ref 7), (1, .int a), (2, .int b), (3, .int c)] [.int (0 : Int32)] M _
        refine zs_if_eqT (pc := 12) t51_12 li0 (by decide) ?_
        refine zs_iconst (pc := 39) t51_39 (v := 0) (by decide) ?_
        refine zs_iret (pc := 40) t51_40 mr51 (by decide) ?_
        show zGo X l 2 0 0 50 7 [(0, .ref 7), (1, .int a), (2, .int b), (3, .int c), (4, .int d)] [.int (0 : Int32)] M _
        refine zs_if_neF (pc := 7) t50_7 li0 (by decide) ?_
        refine zs_iconst (pc := 10) t50_10 (v := -1) (by decide) ?_
        exact zs_iret (pc := 11) t50_11 mr50 (by decide) (hQ _ _ hs hI (zFr.refl) (by decide) (by decide))
      · refine zs_icmp_ltF (pc := 4) t42_4 rfl lin9999 (by omega) ?_
        refine zs_iload_n (pc := 7) t42_7 rfl ?_
        refine zs_sipush (pc := 8) t42_8 (v := 9999) (by decide) ?_
        by_cases w5 : 9999 < b.toInt
        · refine zs_icmp_gtT (pc := 11) t42_11 rfl li9999 (by omega) ?_
          refine zs_iconst (pc := 18) t42_18 (v := 0) (by decide) ?_
          refine zs_iret (pc := 19) t42_19 mr42 (by decide) ?_
          show zGo X l 1 0 0 51 12 [(0, .ref 7), (1, .int a), (2, .int b), (3, .int c)] [.int (0 : Int32)] M _
          refine zs_if_eqT (pc := 12) t51_12 li0 (by decide) ?_
          refine zs_iconst (pc := 39) t51_39 (v := 0) (by decide) ?_
          refine zs_iret (pc := 40) t51_40 mr51 (by decide) ?_
          show zGo X l 2 0 0 50 7 [(0, .ref 7), (1, .int a), (2, .int b), (3, .int c), (4, .int d)] [.int (0 : Int32)] M _
          refine zs_if_neF (pc := 7) t50_7 li0 (by decide) ?_
          refine zs_iconst (pc := 10) t50_10 (v := -1) (by decide) ?_
          exact zs_iret (pc := 11) t50_11 mr50 (by decide) (hQ _ _ hs hI (zFr.refl) (by decide) (by decide))
        · refine zs_icmp_gtF (pc := 11) t42_11 rfl li9999 (by omega) ?_
          refine zs_iconst (pc := 14) t42_14 (v := 1) (by decide) ?_
          refine zs_goto (pc := 15) t42_15 ?_
          refine zs_iret (pc := 19) t42_19 mr42 (by decide) ?_
          show zGo X l 1 0 0 51 12 [(0, .ref 7), (1, .int a), (2, .int b), (3, .int c)] [.int (1 : Int32)] M _
          refine zs_if_eqF (pc := 12) t51_12 li1 (by decide) ?_
          refine zs_iload_n (pc := 15) t51_15 rfl ?_
          refine zs_iconst (pc := 16) t51_16 (v := 0) (by decide) ?_
          refine zs_sipush (pc := 17) t51_17 (v := 999) (by decide) ?_
          refine zs_invS (pc := 20) (as := [.int c, .int (0 : Int32), .int (999 : Int32)]) (st := []) t51_20 (by decide) mf39 rfl rfl ⟨by decide, by decide, Nat.le_of_ble_eq_true rfl, Nat.le_of_ble_eq_true rfl⟩ (zs_in (by decide) mf39 (Nat.le_of_ble_eq_true rfl) ?_) (fun _ _ q => q)
          show zGo X l 0 0 0 39 0 [(0, .int c), (1, .int (0 : Int32)), (2, .int (999 : Int32))] [] M _
          refine zs_iload_n (pc := 0) t39_0 rfl ?_
          refine zs_iload_n (pc := 1) t39_1 rfl ?_
          by_cases w6 : c.toInt < 0
          · refine zs_icmp_ltT (pc := 2) t39_2 rfl li0 (by omega) ?_
            refine zs_iconst (pc := 14) t39_14 (v := 0) (by decide) ?_
            refine zs_iret (pc := 15) t39_15 mr39 (by decide) ?_
            show zGo X l 1 0 0 51 23 [(0, .ref 7), (1, .int a), (2, .int b), (3, .int c)] [.int (0 : Int32)] M _
            refine zs_if_eqT (pc := 23) t51_23 li0 (by decide) ?_
            refine zs_iconst (pc := 39) t51_39 (v := 0) (by decide) ?_
            refine zs_iret (pc := 40) t51_40 mr51 (by decide) ?_
            show zGo X l 2 0 0 50 7 [(0, .ref 7), (1, .int a), (2, .int b), (3, .int c), (4, .int d)] [.int (0 : Int32)] M _
            refine zs_if_neF (pc := 7) t50_7 li0 (by decide) ?_
            refine zs_iconst (pc := 10) t50_10 (v := -1) (by decide) ?_
            exact zs_iret (pc := 11) t50_11 mr50 (by decide) (hQ _ _ hs hI (zFr.refl) (by decide) (by decide))
          · refine zs_icmp_ltF (pc := 2) t39_2 rfl li0 (by omega) ?_
            refine zs_iload_n (pc := 5) t39_5 rfl ?_
            refine zs_iload_n (pc := 6) t39_6 rfl ?_
            by_cases w7 : 999 < c.toInt
            · refine zs_icmp_gtT (pc := 7) t39_7 rfl li999 (by omega) ?_
              refine zs_iconst (pc := 14) t39_14 (v := 0) (by decide) ?_
              refine zs_iret (pc := 15) t39_15 mr39 (by decide) ?_
              show zGo X l 1 0 0 51 23 [(0, .ref 7), (1, .int a), (2, .int b), (3, .int c)] [.int (0 : Int32)] M _
              refine zs_if_eqT (pc := 23) t51_23 li0 (by decide) ?_
              refine zs_iconst (pc := 39) t51_39 (v := 0) (by decide) ?_
              refine zs_iret (pc := 40) t51_40 mr51 (by decide) ?_
              show zGo X l 2 0 0 50 7 [(0, .ref 7), (1, .int a), (2, .int b), (3, .int c), (4, .int d)] [.int (0 : Int32)] M _
              refine zs_if_neF (pc := 7) t50_7 li0 (by decide) ?_
              refine zs_iconst (pc := 10) t50_10 (v := -1) (by decide) ?_
              exact zs_iret (pc := 11) t50_11 mr50 (by decide) (hQ _ _ hs hI (zFr.refl) (by decide) (by decide))
            · refine zs_icmp_gtF (pc := 7) t39_7 rfl li999 (by omega) ?_
              refine zs_iconst (pc := 10) t39_10 (v := 1) (by decide) ?_
              refine zs_goto (pc := 11) t39_11 ?_
              refine zs_iret (pc := 15) t39_15 mr39 (by decide) ?_
              show zGo X l 1 0 0 51 23 [(0, .ref 7), (1, .int a), (2, .int b), (3, .int c)] [.int (1 : Int32)] M _
              refine zs_if_eqF (pc := 23) t51_23 li1 (by decide) ?_
              refine zs_aload_n (pc := 26) t51_26 rfl ?_
              have w8 := ib7_3 hI
              refine zs_get (pc := 27) t51_27 (by decide) (zk1 (hs.k fk_zMc_7)) (zfvi rfl rfl) ?_
              refine zs_bipush (pc := 30) t51_30 (v := 60) (by decide) ?_
              by_cases w9 : 60 ≤ (zI M 7 3).toInt
              · refine zs_icmp_geT (pc := 32) t51_32 rfl li60 (by omega) ?_
                refine zs_iconst (pc := 39) t51_39 (v := 0) (by decide) ?_
                refine zs_iret (pc := 40) t51_40 mr51 (by decide) ?_
                show zGo X l 2 0 0 50 7 [(0, .ref 7), (1, .int a), (2, .int b), (3, .int c), (4, .int d)] [.int (0 : Int32)] M _
                refine zs_if_neF (pc := 7) t50_7 li0 (by decide) ?_
                refine zs_iconst (pc := 10) t50_10 (v := -1) (by decide) ?_
                exact zs_iret (pc := 11) t50_11 mr50 (by decide) (hQ _ _ hs hI (zFr.refl) (by decide) (by decide))
              · refine zs_icmp_geF (pc := 32) t51_32 rfl li60 (by omega) ?_
                refine zs_iconst (pc := 35) t51_35 (v := 1) (by decide) ?_
                refine zs_goto (pc := 36) t51_36 ?_
                refine zs_iret (pc := 40) t51_40 mr51 (by decide) ?_
                show zGo X l 2 0 0 50 7 [(0, .ref 7), (1, .int a), (2, .int b), (3, .int c), (4, .int d)] [.int (1 : Int32)] M _
                refine zs_if_neT (pc := 7) t50_7 li1 (by decide) ?_
                refine zs_aload_n (pc := 12) t50_12 rfl ?_
                refine zs_get (pc := 13) t50_13 (by decide) (zk1 (hs.k fk_zMc_7)) (hs.p rfl fv_zMc_7_4) ?_
                refine zs_aload_n (pc := 16) t50_16 rfl ?_
                refine zs_get (pc := 17) t50_17 (by decide) (zk1 (hs.k fk_zMc_7)) (zfvi rfl rfl) ?_
                refine zs_iload_n (pc := 20) t50_20 rfl ?_
                obtain ⟨w10n, w10⟩ : ∃ n : Nat, (zI M 7 3).toInt = (n : Int) := ⟨(zI M 7 3).toInt.toNat, by omega⟩
                have w11 : zIv cLo cHi (zsI M 10 w10n a) := zIv.put hI (show 0 ≤ a.toInt ∧ a.toInt ≤ 7 from ⟨by omega, by omega⟩)
                refine zs_iast (pc := 21) t50_21 (j := w10n) (by decide) (zk1 (hs.k fk_zMc_10)) w10 (zk2 (hs.k fk_zMc_10) (by omega)) ?_
                refine zs_aload_n (pc := 22) t50_22 rfl ?_
                refine zs_get (pc := 23) t50_23 (by decide) (zk1 (hs.k fk_zMc_7)) (hs.p rfl fv_zMc_7_5) ?_
                refine zs_aload_n (pc := 26) t50_26 rfl ?_
                refine zs_get (pc := 27) t50_27 (by decide) (zk1 (hs.k fk_zMc_7)) (zfvi rfl ((zIo (by decide)).trans rfl)) ?_
                refine zs_iload_n (pc := 30) t50_30 rfl ?_
                obtain ⟨w12n, w12⟩ : ∃ n : Nat, (zI M 7 3).toInt = (n : Int) := ⟨(zI M 7 3).toInt.toNat, by omega⟩
                have w13 : zIv cLo cHi (zsI (zsI M 10 w10n a) 11 w12n b) := zIv.put w11 (show (-2147483648) ≤ b.toInt ∧ b.toInt ≤ 2147483647 from (zrg b))
                refine zs_iast (pc := 31) t50_31 (j := w12n) (by decide) (zk1 (hs.k fk_zMc_11)) w12 (zk2 (hs.k fk_zMc_11) (by omega)) ?_
                refine zs_aload_n (pc := 32) t50_32 rfl ?_
                refine zs_get (pc := 33) t50_33 (by decide) (zk1 (hs.k fk_zMc_7)) (hs.p rfl fv_zMc_7_6) ?_
                refine zs_aload_n (pc := 36) t50_36 rfl ?_
                refine zs_get (pc := 37) t50_37 (by decide) (zk1 (hs.k fk_zMc_7)) (zfvi rfl ((zIo (by decide)).trans ((zIo (by decide)).trans rfl))) ?_
                refine zs_iload_n (pc := 40) t50_40 rfl ?_
                obtain ⟨w14n, w14⟩ : ∃ n : Nat, (zI M 7 3).toInt = (n : Int) := ⟨(zI M 7 3).toInt.toNat, by omega⟩
                have w15 : zIv cLo cHi (zsI (zsI (zsI M 10 w10n a) 11 w12n b) 12 w14n c) := zIv.put w13 (show (-2147483648) ≤ c.toInt ∧ c.toInt ≤ 2147483647 from (zrg c))
                refine zs_iast (pc := 41) t50_41 (j := w14n) (by decide) (zk1 (hs.k fk_zMc_12)) w14 (zk2 (hs.k fk_zMc_12) (by omega)) ?_
                refine zs_aload_n (pc := 42) t50_42 rfl ?_
                refine zs_get (pc := 43) t50_43 (by decide) (zk1 (hs.k fk_zMc_7)) (hs.p rfl fv_zMc_7_7) ?_
                refine zs_aload_n (pc := 46) t50_46 rfl ?_
                refine zs_get (pc := 47) t50_47 (by decide) (zk1 (hs.k fk_zMc_7)) (zfvi rfl ((zIo (by decide)).trans ((zIo (by decide)).trans ((zIo (by decide)).trans rfl)))) ?_
                refine zs_iload (pc := 50) t50_50 rfl ?_
                obtain ⟨w16n, w16⟩ : ∃ n : Nat, (zI M 7 3).toInt = (n : Int) := ⟨(zI M 7 3).toInt.toNat, by omega⟩
                have w17 : zIv cLo cHi (zsI (zsI (zsI (zsI M 10 w10n a) 11 w12n b) 12 w14n c) 13 w16n d) := zIv.put w15 (show (-2147483648) ≤ d.toInt ∧ d.toInt ≤ 2147483647 from (zrg d))
                refine zs_iast (pc := 52) t50_52 (j := w16n) (by decide) (zk1 (hs.k fk_zMc_13)) w16 (zk2 (hs.k fk_zMc_13) (by omega)) ?_
                refine zs_aload_n (pc := 53) t50_53 rfl ?_
                refine zs_dup (pc := 54) t50_54 rfl ?_
                refine zs_get (pc := 55) t50_55 (by decide) (zk1 (hs.k fk_zMc_7)) (zfvi rfl ((zIo (by decide)).trans ((zIo (by decide)).trans ((zIo (by decide)).trans ((zIo (by decide)).trans rfl))))) ?_
                refine zs_iconst (pc := 58) t50_58 (v := 1) (by decide) ?_
                obtain ⟨w18v, w18e, w18⟩ := ziadd (a := (zI M 7 3)) (b := (1 : Int32)) rfl li1 (by omega) (by omega)
                refine zs_iadd (pc := 59) t50_59 (c := w18v) w18e ?_
                have w19 : zIv cLo cHi (zsI (zsI (zsI (zsI (zsI M 10 w10n a) 11 w12n b) 12 w14n c) 13 w16n d) 7 3 w18v) := zIv.put w17 (show 0 ≤ w18v.toInt ∧ w18v.toInt ≤ 60 from ⟨by omega, by omega⟩)
                refine zs_putI (pc := 60) t50_60 (zk1 (hs.k fk_zMc_7)) rfl ?_
                refine zs_aload_n (pc := 63) t50_63 rfl ?_
                refine zs_get (pc := 64) t50_64 (by decide) (zk1 (hs.k fk_zMc_7)) (zfvi rfl zIs) ?_
                refine zs_iconst (pc := 67) t50_67 (v := 1) (by decide) ?_
                obtain ⟨w20v, w20e, w20⟩ := zisub (a := w18v) (b := (1 : Int32)) w18 li1 (by omega) (by omega)
                refine zs_isub (pc := 68) t50_68 (c := w20v) w20e ?_
                exact zs_iret (pc := 69) t50_69 mr50 rfl (hQ _ _ hs w19 ((((((zFr.refl).put rfl).put rfl).put rfl).put rfl).put rfl) (by omega) (by omega))
theorem C52_19 {X : zX} {l : Launch} {M : zM} {Q : Option Value → zM → Prop} {a b c : Int32} (hs : zSk zMc M) (hI : zIv cLo cHi M) (hQ : ∀ (M' : zM) (v : Int32), zSk zMc M' → zIv cLo cHi M' → zFr [(19, 30, none)] M M' → 0 ≤ v.toInt → v.toInt ≤ 1 → Q (some (.int v)) M') : zCall X l 3 0 0 52 [.ref 19, .int a, .int b, .int c] M Q := by
  have ga := zrg a
  have gb := zrg b
  have gc := zrg c
  refine zs_in (by decide) mf52 (Nat.le_of_ble_eq_true rfl) ?_
  show zGo X l 3 0 0 52 0 [(0, .ref 19), (1, .int a), (2, .int b), (3, .int c)] [] M _
  refine zs_aload_n (pc := 0) t52_0 rfl ?_
  have w1 := ib19_8 hI
  refine zs_get (pc := 1) t52_1 (by decide) (zk1 (hs.k fk_zMc_19)) (zfvi rfl rfl) ?_
  refine zs_bipush (pc := 4) t52_4 (v := 12) (by decide) ?_
  by_cases w2 : (zI M 19 8).toInt < 12
  · refine zs_icmp_ltT (pc := 6) t52_6 rfl li12 (by omega) ?_
    refine zs_aload_n (pc := 11) t52_11 rfl ?_
    refine zs_get (pc := 12) t52_12 (by decide) (zk1 (hs.k fk_zMc_19)) (hs.p rfl fv_zMc_19_9) ?_
    refine zs_aload_n (pc := 15) t52_15 rfl ?_
    refine zs_get (pc := 16) t52_16 (by decide) (zk1 (hs.k fk_zMc_19)) (zfvi rfl rfl) ?_
    refine zs_iload_n (pc := 19) t52_19 rfl ?_
    obtain ⟨w3n, w3⟩ : ∃ n : Nat, (zI M 19 8).toInt = (n : Int) := ⟨(zI M 19 8).toInt.toNat, by omega⟩
    have w4 : zIv cLo cHi (zsI M 26 w3n a) := zIv.put hI (show (-2147483648) ≤ a.toInt ∧ a.toInt ≤ 2147483647 from (zrg a))
    refine zs_iast (pc := 20) t52_20 (j := w3n) (by decide) (zk1 (hs.k fk_zMc_26)) w3 (zk2 (hs.k fk_zMc_26) (by omega)) ?_
    refine zs_aload_n (pc := 21) t52_21 rfl ?_
    refine zs_get (pc := 22) t52_22 (by decide) (zk1 (hs.k fk_zMc_19)) (hs.p rfl fv_zMc_19_10) ?_
    refine zs_aload_n (pc := 25) t52_25 rfl ?_
    refine zs_get (pc := 26) t52_26 (by decide) (zk1 (hs.k fk_zMc_19)) (zfvi rfl ((zIo (by decide)).trans rfl)) ?_
    refine zs_iload_n (pc := 29) t52_29 rfl ?_
    obtain ⟨w5n, w5⟩ : ∃ n : Nat, (zI M 19 8).toInt = (n : Int) := ⟨(zI M 19 8).toInt.toNat, by omega⟩
    have w6 : zIv cLo cHi (zsI (zsI M 26 w3n a) 27 w5n b) := zIv.put w4 (show (-2147483648) ≤ b.toInt ∧ b.toInt ≤ 2147483647 from (zrg b))
    refine zs_iast (pc := 30) t52_30 (j := w5n) (by decide) (zk1 (hs.k fk_zMc_27)) w5 (zk2 (hs.k fk_zMc_27) (by omega)) ?_
    refine zs_aload_n (pc := 31) t52_31 rfl ?_
    refine zs_get (pc := 32) t52_32 (by decide) (zk1 (hs.k fk_zMc_19)) (hs.p rfl fv_zMc_19_11) ?_
    refine zs_aload_n (pc := 35) t52_35 rfl ?_
    refine zs_get (pc := 36) t52_36 (by decide) (zk1 (hs.k fk_zMc_19)) (zfvi rfl ((zIo (by decide)).trans ((zIo (by decide)).trans rfl))) ?_
    refine zs_iload_n (pc := 39) t52_39 rfl ?_
    obtain ⟨w7n, w7⟩ : ∃ n : Nat, (zI M 19 8).toInt = (n : Int) := ⟨(zI M 19 8).toInt.toNat, by omega⟩
    have w8 : zIv cLo cHi (zsI (zsI (zsI M 26 w3n a) 27 w5n b) 28 w7n c) := zIv.put w6 (show (-2147483648) ≤ c.toInt ∧ c.toInt ≤ 2147483647 from (zrg c))
    refine zs_iast (pc := 40) t52_40 (j := w7n) (by decide) (zk1 (hs.k fk_zMc_28)) w7 (zk2 (hs.k fk_zMc_28) (by omega)) ?_
    refine zs_aload_n (pc := 41) t52_41 rfl ?_
    refine zs_dup (pc := 42) t52_42 rfl ?_
    refine zs_get (pc := 43) t52_43 (by decide) (zk1 (hs.k fk_zMc_19)) (zfvi rfl ((zIo (by decide)).trans ((zIo (by decide)).trans ((zIo (by decide)).trans rfl)))) ?_
    refine zs_iconst (pc := 46) t52_46 (v := 1) (by decide) ?_
    obtain ⟨w9v, w9e, w9⟩ := ziadd (a := (zI M 19 8)) (b := (1 : Int32)) rfl li1 (by omega) (by omega)
    refine zs_iadd (pc := 47) t52_47 (c := w9v) w9e ?_
    have w10 : zIv cLo cHi (zsI (zsI (zsI (zsI M 26 w3n a) 27 w5n b) 28 w7n c) 19 8 w9v) := zIv.put w8 (show 0 ≤ w9v.toInt ∧ w9v.toInt ≤ 12 from ⟨by omega, by omega⟩)
    refine zs_putI (pc := 48) t52_48 (zk1 (hs.k fk_zMc_19)) rfl ?_
    refine zs_iconst (pc := 51) t52_51 (v := 0) (by decide) ?_
    refine zs_istore (pc := 52) t52_52 (ls' := [(4, .int (0 : Int32)), (0, .ref 19), (1, .int a), (2, .int b), (3, .int c)]) (zml mf52 (by decide)) rfl ?_
    have w11L : ∀ (m : Nat) (w11x4 : Int32) (w11M : zM), (0 ≤ w11x4.toInt ∧ w11x4.toInt ≤ 8) → zSk zMc w11M → zIv cLo cHi w11M → zFr [(19, 30, none)] (zsI (zsI (zsI (zsI M 26 w3n a) 27 w5n b) 28 w7n c) 19 8 w9v) w11M → 8 - w11x4.toInt ≤ (m : Int) → zGo X l 3 0 0 52 54 [(0, .ref 19), (1, .int a), (2, .int b), (3, .int c), (4, .int w11x4)] [] w11M Q := by
      intro m
      induction m using Nat.strongRecOn with
      | ind w11m w11ih =>
        intro w11x4 w11M w11b4 w11s w11I w11F w11q
        refine zs_iload (pc := 54) t52_54 rfl ?_
        refine zs_aload_n (pc := 56) t52_56 rfl ?_
        have w12 := ib19_0 w11I
        refine zs_get (pc := 57) t52_57 (by decide) (zk1 (w11s.k fk_zMc_19)) (zfvi rfl rfl) ?_
        by_cases w13 : (zI w11M 19 0).toInt ≤ w11x4.toInt
        · refine zs_icmp_geT (pc := 60) t52_60 rfl rfl (by omega) ?_
          refine zs_iconst (pc := 126) t52_126 (v := 1) (by decide) ?_
          exact zs_iret (pc := 127) t52_127 mr52 (by decide) (hQ _ _ w11s w11I ((((((zFr.refl).put rfl).put rfl).put rfl).put rfl).trans (w11F.mono rfl)) (by decide) (by decide))
        · refine zs_icmp_geF (pc := 60) t52_60 rfl rfl (by omega) ?_
          refine zs_iload_n (pc := 63) t52_63 rfl ?_
          refine zs_aload_n (pc := 64) t52_64 rfl ?_
          refine zs_iload (pc := 65) t52_65 rfl ?_
          refine zs_iload_n (pc := 67) t52_67 rfl ?_
          refine zs_invV (pc := 68) (k := 19) (as' := [.int w11x4, .int b]) (st := [.int a]) t52_68 mf53 rfl rfl (Or.inl ⟨by decide, (zk1 (w11s.k fk_zMc_19))⟩) ⟨by decide, by decide, Nat.le_of_ble_eq_true rfl, Nat.le_of_ble_eq_true rfl⟩ (C53_19 w11s w11I ?_) (fun _ _ q => q)
          intro w14v w14a w14b
          show zGo X l 3 0 0 52 71 [(0, .ref 19), (1, .int a), (2, .int b), (3, .int c), (4, .int w11x4)] [.int w14v, .int a] w11M _
          obtain ⟨w15v, w15⟩ : ∃ v, v = a + w14v := ⟨_, rfl⟩
          have w15g := zrg w15v
          refine zs_iadd (pc := 71) t52_71 (c := w15v) w15.symm ?_
          refine zs_aload_n (pc := 72) t52_72 rfl ?_
          refine zs_iload (pc := 73) t52_73 rfl ?_
          refine zs_iload_n (pc := 75) t52_75 rfl ?_
          refine zs_invV (pc := 76) (k := 19) (as' := [.int w11x4, .int c]) (st := [.int w15v]) t52_76 mf55 rfl rfl (Or.inl ⟨by decide, (zk1 (w11s.k fk_zMc_19))⟩) ⟨by decide, by decide, Nat.le_of_ble_eq_true rfl, Nat.le_of_ble_eq_true rfl⟩ (C55_19 w11s w11I ?_) (fun _ _ q => q)
          intro w16v w16a w16b
          show zGo X l 3 0 0 52 79 [(0, .ref 19), (1, .int a), (2, .int b), (3, .int c), (4, .int w11x4)] [.int w16v, .int w15v] w11M _
          obtain ⟨w17v, w17⟩ : ∃ v, v = w15v + w16v := ⟨_, rfl⟩
          have w17g := zrg w17v
          refine zs_iadd (pc := 79) t52_79 (c := w17v) w17.symm ?_
          refine zs_istore (pc := 80) t52_80 (ls' := [(5, .int w17v), (0, .ref 19), (1, .int a), (2, .int b), (3, .int c), (4, .int w11x4)]) (zml mf52 (by decide)) rfl ?_
          refine zs_iload (pc := 82) t52_82 rfl ?_
          refine zs_invS (pc := 84) (as := [.int w17v]) (st := []) t52_84 (by decide) mf42 rfl rfl ⟨by decide, by decide, Nat.le_of_ble_eq_true rfl, Nat.le_of_ble_eq_true rfl⟩ (zs_in (by decide) mf42 (Nat.le_of_ble_eq_true rfl) ?_) (fun _ _ q => q)
          show zGo X l 0 0 0 42 0 [(0, .int w17v)] [] w11M _
          refine zs_iload_n (pc := 0) t42_0 rfl ?_
          refine zs_sipush (pc := 1) t42_1 (v := -9999) (by decide) ?_
          by_cases w18 : w17v.toInt < (-9999)
          · refine zs_icmp_ltT (pc := 4) t42_4 rfl lin9999 (by omega) ?_
            refine zs_iconst (pc := 18) t42_18 (v := 0) (by decide) ?_
            refine zs_iret (pc := 19) t42_19 mr42 (by decide) ?_
            show zGo X l 3 0 0 52 87 [(5, .int w17v), (0, .ref 19), (1, .int a), (2, .int b), (3, .int c), (4, .int w11x4)] [.int (0 : Int32)] w11M _
            refine zs_if_eqT (pc := 87) t52_87 li0 (by decide) ?_
            obtain ⟨w19v, w19e, w19⟩ := ziadd (a := w11x4) (b := Int32.ofInt 1) rfl (show (Int32.ofInt 1).toInt = 1 by decide) (by omega) (by omega)
            refine zs_iinc (pc := 120) t52_120 (ls' := [(4, .int w19v), (5, .int w17v), (0, .ref 19), (1, .int a), (2, .int b), (3, .int c)]) (zml mf52 (by decide)) rfl (c := w19v) w19e rfl ?_
            refine zs_goto (pc := 123) t52_123 ?_
            refine zGo.locals (ls' := [(0, .ref 19), (1, .int a), (2, .int b), (3, .int c), (4, .int w19v)]) (by simp) ?_
            exact w11ih (w11m - 1) (by omega) w19v w11M ⟨by omega, by omega⟩ w11s w11I ((zFr.refl).trans (w11F.mono rfl)) (by omega)
          · refine zs_icmp_ltF (pc := 4) t42_4 rfl lin9999 (by omega) ?_
            refine zs_iload_n (pc := 7) t42_7 rfl ?_
            refine zs_sipush (pc := 8) t42_8 (v := 9999) (by decide) ?_
            by_cases w20 : 9999 < w17v.toInt
            · refine zs_icmp_gtT (pc := 11) t42_11 rfl li9999 (by omega) ?_
              refine zs_iconst (pc := 18) t42_18 (v := 0) (by decide) ?_
              refine zs_iret (pc := 19) t42_19 mr42 (by decide) ?_
              show zGo X l 3 0 0 52 87 [(5, .int w17v), (0, .ref 19), (1, .int a), (2, .int b), (3, .int c), (4, .int w11x4)] [.int (0 : Int32)] w11M _
              refine zs_if_eqT (pc := 87) t52_87 li0 (by decide) ?_
              obtain ⟨w21v, w21e, w21⟩ := ziadd (a := w11x4) (b := Int32.ofInt 1) rfl (show (Int32.ofInt 1).toInt = 1 by decide) (by omega) (by omega)
              refine zs_iinc (pc := 120) t52_120 (ls' := [(4, .int w21v), (5, .int w17v), (0, .ref 19), (1, .int a), (2, .int b), (3, .int c)]) (zml mf52 (by decide)) rfl (c := w21v) w21e rfl ?_
              refine zs_goto (pc := 123) t52_123 ?_
              refine zGo.locals (ls' := [(0, .ref 19), (1, .int a), (2, .int b), (3, .int c), (4, .int w21v)]) (by simp) ?_
              exact w11ih (w11m - 1) (by omega) w21v w11M ⟨by omega, by omega⟩ w11s w11I ((zFr.refl).trans (w11F.mono rfl)) (by omega)
            · refine zs_icmp_gtF (pc := 11) t42_11 rfl li9999 (by omega) ?_
              refine zs_iconst (pc := 14) t42_14 (v := 1) (by decide) ?_
              refine zs_goto (pc := 15) t42_15 ?_
              refine zs_iret (pc := 19) t42_19 mr42 (by decide) ?_
              show zGo X l 3 0 0 52 87 [(5, .int w17v), (0, .ref 19), (1, .int a), (2, .int b), (3, .int c), (4, .int w11x4)] [.int (1 : Int32)] w11M _
              refine zs_if_eqF (pc := 87) t52_87 li1 (by decide) ?_
              refine zs_aload_n (pc := 90) t52_90 rfl ?_
              refine zs_iload (pc := 91) t52_91 rfl ?_
              refine zs_iload (pc := 93) t52_93 rfl ?_
              refine zs_aload_n (pc := 95) t52_95 rfl ?_
              refine zs_get (pc := 96) t52_96 (by decide) (zk1 (w11s.k fk_zMc_19)) (w11s.p rfl fv_zMc_19_1) ?_
              refine zs_iload (pc := 99) t52_99 rfl ?_
              obtain ⟨w22n, w22⟩ : ∃ n : Nat, w11x4.toInt = (n : Int) := ⟨w11x4.toInt.toNat, by omega⟩
              have w23 := ib20 w11I w22n
              refine zs_iald (pc := 101) t52_101 (j := w22n) (by decide) (zk1 (w11s.k fk_zMc_20)) w22 (zk2 (w11s.k fk_zMc_20) (by omega)) rfl ?_
              refine zs_bipush (pc := 102) t52_102 (v := 10) (by decide) ?_
              obtain ⟨w24v, w24⟩ : ∃ v, (zI w11M 20 w22n) / (10 : Int32) = v := ⟨_, rfl⟩
              have w24g := zrg w24v
              refine zs_idiv (pc := 104) t52_104 (by decide) (c := w24v) w24 ?_
              refine zs_aload_n (pc := 105) t52_105 rfl ?_
              have w25 := ib19_8 w11I
              refine zs_get (pc := 106) t52_106 (by decide) (zk1 (w11s.k fk_zMc_19)) (zfvi rfl rfl) ?_
              refine zs_iconst (pc := 109) t52_109 (v := 1) (by decide) ?_
              obtain ⟨w26v, w26e, w26⟩ := zisub (a := (zI w11M 19 8)) (b := (1 : Int32)) rfl li1 (by omega) (by omega)
              refine zs_isub (pc := 110) t52_110 (c := w26v) w26e ?_
              refine zs_invV (pc := 111) (k := 19) (as' := [.int w11x4, .int w17v, .int w24v, .int w26v]) (st := []) t52_111 mf50 rfl rfl (Or.inl ⟨by decide, (zk1 (w11s.k fk_zMc_19))⟩) ⟨by decide, by decide, Nat.le_of_ble_eq_true rfl, Nat.le_of_ble_eq_true rfl⟩ (C50_19 w11s w11I ?_) (fun _ _ q => q)
              intro w27M w27v w27s w27I w27F w27a w27b
              show zGo X l 3 0 0 52 114 [(5, .int w17v), (0, .ref 19), (1, .int a), (2, .int b), (3, .int c), (4, .int w11x4)] [.int w27v] w27M _
              refine zs_iconst (pc := 114) t52_114 (v := -1) (by decide) ?_
              by_cases w28 : w27v.toInt ≠ (-1)
              · refine zs_icmp_neT (pc := 115) t52_115 rfl lin1 (by omega) ?_
                obtain ⟨w29v, w29e, w29⟩ := ziadd (a := w11x4) (b := Int32.ofInt 1) rfl (show (Int32.ofInt 1).toInt = 1 by decide) (by omega) (by omega)
                refine zs_iinc (pc := 120) t52_120 (ls' := [(4, .int w29v), (5, .int w17v), (0, .ref 19), (1, .int a), (2, .int b), (3, .int c)]) (zml mf52 (by decide)) rfl (c := w29v) w29e rfl ?_
                refine zs_goto (pc := 123) t52_123 ?_
                refine zGo.locals (ls' := [(0, .ref 19), (1, .int a), (2, .int b), (3, .int c), (4, .int w29v)]) (by simp) ?_
                exact w11ih (w11m - 1) (by omega) w29v w27M ⟨by omega, by omega⟩ w27s w27I (((zFr.refl).trans (w11F.mono rfl)).trans (w27F.mono rfl)) (by omega)
              · refine zs_icmp_neF (pc := 115) t52_115 rfl lin1 (by omega) ?_
                refine zs_iconst (pc := 118) t52_118 (v := 0) (by decide) ?_
                exact zs_iret (pc := 119) t52_119 mr52 (by decide) (hQ _ _ w27s w27I (((((((zFr.refl).put rfl).put rfl).put rfl).put rfl).trans (w11F.mono rfl)).trans (w27F.mono rfl)) (by decide) (by decide))
    refine zGo.locals (ls' := [(0, .ref 19), (1, .int a), (2, .int b), (3, .int c), (4, .int (0 : Int32))]) (by simp) ?_
    have w30 := li0
    exact w11L ((8 - 0 : Int).toNat) (0 : Int32) (zsI (zsI (zsI (zsI M 26 w3n a) 27 w5n b) 28 w7n c) 19 8 w9v) ⟨by decide, by decide⟩ hs w10 zFr.refl (by omega)
  · refine zs_icmp_ltF (pc := 6) t52_6 rfl li12 (by omega) ?_
    refine zs_iconst (pc := 9) t52_9 (v := 0) (by decide) ?_
    exact zs_iret (pc := 10) t52_10 mr52 (by decide) (hQ _ _ hs hI (zFr.refl) (by decide) (by decide))
theorem C32 {X : zX} {l : Launch} {M : zM} {Q : Option Value → zM → Prop} {a : Int32} (hs : zSk zMc M) (hI : zIv cLo cHi M) (hQ : ∀ v : Int32, 0 ≤ v.toInt → v.toInt ≤ 4 → Q (some (.int v)) M) : zCall X l 0 0 0 32 [.int a] M Q := by
  have ga := zrg a
  refine zs_in (by decide) mf32 (Nat.le_of_ble_eq_true rfl) ?_
  show zGo X l 0 0 0 32 0 [(0, .int a)] [] M _
  refine zs_iload_n (pc := 0) t32_0 rfl ?_
  by_cases w1 : a.toInt = 103
  · refine zs_tswI (pc := 1) t32_1 ((rfl : a.toInt = a.toInt).trans w1) (by decide) rfl (pc2 := 84) rfl ?_
    refine zs_iconst (pc := 84) t32_84 (v := 1) (by decide) ?_
    exact zs_iret (pc := 85) t32_85 mr32 (by decide) (hQ _ (by decide) (by decide))
  by_cases w2 : a.toInt = 104
  · refine zs_tswI (pc := 1) t32_1 ((rfl : a.toInt = a.toInt).trans w2) (by decide) rfl (pc2 := 88) rfl ?_
    refine zs_iconst (pc := 88) t32_88 (v := 3) (by decide) ?_
    exact zs_iret (pc := 89) t32_89 mr32 (by decide) (hQ _ (by decide) (by decide))
  by_cases w3 : a.toInt = 105
  · refine zs_tswI (pc := 1) t32_1 ((rfl : a.toInt = a.toInt).trans w3) (by decide) rfl (pc2 := 92) rfl ?_
    refine zs_iconst (pc := 92) t32_92 (v := 0) (by decide) ?_
    exact zs_iret (pc := 93) t32_93 mr32 (by decide) (hQ _ (by decide) (by decide))
  by_cases w4 : a.toInt = 106
  · refine zs_tswI (pc := 1) t32_1 ((rfl : a.toInt = a.toInt).trans w4) (by decide) rfl (pc2 := 92) rfl ?_
    refine zs_iconst (pc := 92) t32_92 (v := 0) (by decide) ?_
    exact zs_iret (pc := 93) t32_93 mr32 (by decide) (hQ _ (by decide) (by decide))
  by_cases w5 : a.toInt = 107
  · refine zs_tswI (pc := 1) t32_1 ((rfl : a.toInt = a.toInt).trans w5) (by decide) rfl (pc2 := 92) rfl ?_
    refine zs_iconst (pc := 92) t32_92 (v := 0) (by decide) ?_
    exact zs_iret (pc := 93) t32_93 mr32 (by decide) (hQ _ (by decide) (by decide))
  by_cases w6 : a.toInt = 108
  · refine zs_tswI (pc := 1) t32_1 ((rfl : a.toInt = a.toInt).trans w6) (by decide) rfl (pc2 := 92) rfl ?_
    refine zs_iconst (pc := 92) t32_92 (v := 0) (by decide) ?_
    exact zs_iret (pc := 93) t32_93 mr32 (by decide) (hQ _ (by decide) (by decide))
  by_cases w7 : a.toInt = 109
  · refine zs_tswI (pc := 1) t32_1 ((rfl : a.toInt = a.toInt).trans w7) (by decide) rfl (pc2 := 92) rfl ?_
    refine zs_iconst (pc := 92) t32_92 (v := 0) (by decide) ?_
    exact zs_iret (pc := 93) t32_93 mr32 (by decide) (hQ _ (by decide) (by decide))
  by_cases w8 : a.toInt = 110
  · refine zs_tswI (pc := 1) t32_1 ((rfl : a.toInt = a.toInt).trans w8) (by decide) rfl (pc2 := 92) rfl ?_
    refine zs_iconst (pc := 92) t32_92 (v := 0) (by decide) ?_
    exact zs_iret (pc := 93) t32_93 mr32 (by decide) (hQ _ (by decide) (by decide))
  by_cases w9 : a.toInt = 111
  · refine zs_tswI (pc := 1) t32_1 ((rfl : a.toInt = a.toInt).trans w9) (by decide) rfl (pc2 := 92) rfl ?_
    refine zs_iconst (pc := 92) t32_92 (v := 0) (by decide) ?_
    exact zs_iret (pc := 93) t32_93 mr32 (by decide) (hQ _ (by decide) (by decide))
  by_cases w10 : a.toInt = 112
  · refine zs_tswI (pc := 1) t32_1 ((rfl : a.toInt = a.toInt).trans w10) (by decide) rfl (pc2 := 88) rfl ?_
    refine zs_iconst (pc := 88) t32_88 (v := 3) (by decide) ?_
    exact zs_iret (pc := 89) t32_89 mr32 (by decide) (hQ _ (by decide) (by decide))
  by_cases w11 : a.toInt = 113
  · refine zs_tswI (pc := 1) t32_1 ((rfl : a.toInt = a.toInt).trans w11) (by decide) rfl (pc2 := 86) rfl ?_
    refine zs_iconst (pc := 86) t32_86 (v := 2) (by decide) ?_
    exact zs_iret (pc := 87) t32_87 mr32 (by decide) (hQ _ (by decide) (by decide))
  by_cases w12 : a.toInt = 114
  · refine zs_tswI (pc := 1) t32_1 ((rfl : a.toInt = a.toInt).trans w12) (by decide) rfl (pc2 := 84) rfl ?_
    refine zs_iconst (pc := 84) t32_84 (v := 1) (by decide) ?_
    exact zs_iret (pc := 85) t32_85 mr32 (by decide) (hQ _ (by decide) (by decide))
  by_cases w13 : a.toInt = 115
  · refine zs_tswI (pc := 1) t32_1 ((rfl : a.toInt = a.toInt).trans w13) (by decide) rfl (pc2 := 90) rfl ?_
    refine zs_iconst (pc := 90) t32_90 (v := 4) (by decide) ?_
    exact zs_iret (pc := 91) t32_91 mr32 (by decide) (hQ _ (by decide) (by decide))
  by_cases w14 : a.toInt = 116
  · refine zs_tswI (pc := 1) t32_1 ((rfl : a.toInt = a.toInt).trans w14) (by decide) rfl (pc2 := 92) rfl ?_
    refine zs_iconst (pc := 92) t32_92 (v := 0) (by decide) ?_
    exact zs_iret (pc := 93) t32_93 mr32 (by decide) (hQ _ (by decide) (by decide))
  by_cases w15 : a.toInt = 117
  · refine zs_tswI (pc := 1) t32_1 ((rfl : a.toInt = a.toInt).trans w15) (by decide) rfl (pc2 := 92) rfl ?_
    refine zs_iconst (pc := 92) t32_92 (v := 0) (by decide) ?_
    exact zs_iret (pc := 93) t32_93 mr32 (by decide) (hQ _ (by decide) (by decide))
  by_cases w16 : a.toInt = 118
  · refine zs_tswI (pc := 1) t32_1 ((rfl : a.toInt = a.toInt).trans w16) (by decide) rfl (pc2 := 92) rfl ?_
    refine zs_iconst (pc := 92) t32_92 (v := 0) (by decide) ?_
    exact zs_iret (pc := 93) t32_93 mr32 (by decide) (hQ _ (by decide) (by decide))
  by_cases w17 : a.toInt = 119
  · refine zs_tswI (pc := 1) t32_1 ((rfl : a.toInt = a.toInt).trans w17) (by decide) rfl (pc2 := 86) rfl ?_
    refine zs_iconst (pc := 86) t32_86 (v := 2) (by decide) ?_
    exact zs_iret (pc := 87) t32_87 mr32 (by decide) (hQ _ (by decide) (by decide))
  refine zs_tswD (pc := 1) t32_1 rfl (by omega) (pc2 := 92) rfl ?_
  refine zs_iconst (pc := 92) t32_92 (v := 0) (by decide) ?_
  exact zs_iret (pc := 93) t32_93 mr32 (by decide) (hQ _ (by decide) (by decide))
theorem C33_19 {X : zX} {l : Launch} {M : zM} {Q : Option Value → zM → Prop} {a : Int32} (hs : zSk zMc M) (hI : zIv cLo cHi M) (hQ : ∀ v : Int32, 0 ≤ v.toInt → v.toInt ≤ 1 → Q (some (.int v)) M) : zCall X l 0 0 0 33 [.int a, .ref 19] M Q := by
  have ga := zrg a
  refine zs_in (by decide) mf33 (Nat.le_of_ble_eq_true rfl) ?_
  show zGo X l 0 0 0 33 0 [(0, .int a), (1, .ref 19)] [] M _
  refine zs_iload_n (pc := 0) t33_0 rfl ?_
  by_cases w1 : a.toInt = 104
  · refine zs_lsw (pc := 1) t33_1 (off := 50) ((rfl : a.toInt = a.toInt).trans w1) rfl (pc2 := 51) rfl ?_
    refine zs_aload_n (pc := 51) t33_51 rfl ?_
    have w2 := ib19_3 hI
    refine zs_get (pc := 52) t33_52 (by decide) (zk1 (hs.k fk_zMc_19)) (zfvi rfl rfl) ?_
    refine zs_bipush (pc := 55) t33_55 (v := 60) (by decide) ?_
    by_cases w3 : (zI M 19 3).toInt < 60
    · refine zs_icmp_ltT (pc := 57) t33_57 rfl li60 (by omega) ?_
      refine zs_iconst (pc := 64) t33_64 (v := 0) (by decide) ?_
      exact zs_iret (pc := 65) t33_65 mr33 (by decide) (hQ _ (by decide) (by decide))
    · refine zs_icmp_ltF (pc := 57) t33_57 rfl li60 (by omega) ?_
      refine zs_iconst (pc := 60) t33_60 (v := 1) (by decide) ?_
      refine zs_goto (pc := 61) t33_61 ?_
      exact zs_iret (pc := 65) t33_65 mr33 (by decide) (hQ _ (by decide) (by decide))
  by_cases w4 : a.toInt = 112
  · refine zs_lsw (pc := 1) t33_1 (off := 65) ((rfl : a.toInt = a.toInt).trans w4) rfl (pc2 := 66) rfl ?_
    refine zs_aload_n (pc := 66) t33_66 rfl ?_
    have w5 := ib19_8 hI
    refine zs_get (pc := 67) t33_67 (by decide) (zk1 (hs.k fk_zMc_19)) (zfvi rfl rfl) ?_
    refine zs_bipush (pc := 70) t33_70 (v := 12) (by decide) ?_
    by_cases w6 : (zI M 19 8).toInt < 12
    · refine zs_icmp_ltT (pc := 72) t33_72 rfl li12 (by omega) ?_
      refine zs_iconst (pc := 79) t33_79 (v := 0) (by decide) ?_
      exact zs_iret (pc := 80) t33_80 mr33 (by decide) (hQ _ (by decide) (by decide))
    · refine zs_icmp_ltF (pc := 72) t33_72 rfl li12 (by omega) ?_
      refine zs_iconst (pc := 75) t33_75 (v := 1) (by decide) ?_
      refine zs_goto (pc := 76) t33_76 ?_
      exact zs_iret (pc := 80) t33_80 mr33 (by decide) (hQ _ (by decide) (by decide))
  by_cases w7 : a.toInt = 114
  · refine zs_lsw (pc := 1) t33_1 (off := 35) ((rfl : a.toInt = a.toInt).trans w7) rfl (pc2 := 36) rfl ?_
    refine zs_aload_n (pc := 36) t33_36 rfl ?_
    have w8 := ib19_0 hI
    refine zs_get (pc := 37) t33_37 (by decide) (zk1 (hs.k fk_zMc_19)) (zfvi rfl rfl) ?_
    refine zs_bipush (pc := 40) t33_40 (v := 8) (by decide) ?_
    by_cases w9 : (zI M 19 0).toInt < 8
    · refine zs_icmp_ltT (pc := 42) t33_42 rfl li8 (by omega) ?_
      refine zs_iconst (pc := 49) t33_49 (v := 0) (by decide) ?_
      exact zs_iret (pc := 50) t33_50 mr33 (by decide) (hQ _ (by decide) (by decide))
    · refine zs_icmp_ltF (pc := 42) t33_42 rfl li8 (by omega) ?_
      refine zs_iconst (pc := 45) t33_45 (v := 1) (by decide) ?_
      refine zs_goto (pc := 46) t33_46 ?_
      exact zs_iret (pc := 50) t33_50 mr33 (by decide) (hQ _ (by decide) (by decide))
  refine zs_lsw (pc := 1) t33_1 (off := 80) rfl (by unfold zlsel; repeat (first | rfl | (rw [if_neg (by omega)]; unfold zlsel))) (pc2 := 81) rfl ?_
  refine zs_iconst (pc := 81) t33_81 (v := 0) (by decide) ?_
  exact zs_iret (pc := 82) t33_82 mr33 (by decide) (hQ _ (by decide) (by decide))
theorem C45 {X : zX} {l : Launch} {M : zM} {Q : Option Value → zM → Prop} {a : Int32} (hs : zSk zMc M) (hI : zIv cLo cHi M) (hQ : ∀ v : Int32, 0 ≤ v.toInt → v.toInt ≤ 9 → Q (some (.int v)) M) : zCall X l 0 0 0 45 [.int a] M Q := by
  have ga := zrg a
  refine zs_in (by decide) mf45 (Nat.le_of_ble_eq_true rfl) ?_
  show zGo X l 0 0 0 45 0 [(0, .int a)] [] M _
  refine zs_iload_n (pc := 0) t45_0 rfl ?_
  by_cases w1 : a.toInt = 103
  · refine zs_lsw (pc := 1) t45_1 (off := 45) ((rfl : a.toInt = a.toInt).trans w1) rfl (pc2 := 46) rfl ?_
    refine zs_iconst (pc := 46) t45_46 (v := 4) (by decide) ?_
    exact zs_iret (pc := 47) t45_47 mr45 (by decide) (hQ _ (by decide) (by decide))
  by_cases w2 : a.toInt = 113
  · refine zs_lsw (pc := 1) t45_1 (off := 49) ((rfl : a.toInt = a.toInt).trans w2) rfl (pc2 := 50) rfl ?_
    refine zs_bipush (pc := 50) t45_50 (v := 7) (by decide) ?_
    exact zs_iret (pc := 52) t45_52 mr45 (by decide) (hQ _ (by decide) (by decide))
  by_cases w3 : a.toInt = 115
  · refine zs_lsw (pc := 1) t45_1 (off := 43) ((rfl : a.toInt = a.toInt).trans w3) rfl (pc2 := 44) rfl ?_
    refine zs_iconst (pc := 44) t45_44 (v := 0) (by decide) ?_
    exact zs_iret (pc := 45) t45_45 mr45 (by decide) (hQ _ (by decide) (by decide))
  by_cases w4 : a.toInt = 119
  · refine zs_lsw (pc := 1) t45_1 (off := 47) ((rfl : a.toInt = a.toInt).trans w4) rfl (pc2 := 48) rfl ?_
    refine zs_iconst (pc := 48) t45_48 (v := 5) (by decide) ?_
    exact zs_iret (pc := 49) t45_49 mr45 (by decide) (hQ _ (by decide) (by decide))
  refine zs_lsw (pc := 1) t45_1 (off := 52) rfl (by unfold zlsel; repeat (first | rfl | (rw [if_neg (by omega)]; unfold zlsel))) (pc2 := 53) rfl ?_
  refine zs_bipush (pc := 53) t45_53 (v := 9) (by decide) ?_
  exact zs_iret (pc := 55) t45_55 mr45 (by decide) (hQ _ (by decide) (by decide))
theorem C85 {X : zX} {l : Launch} {M : zM} {Q : Option Value → zM → Prop} {a : Int32} (hs : zSk zMc M) (hI : zIv cLo cHi M) (hQ : ∀ v : Int32, 0 ≤ v.toInt → v.toInt ≤ 3 → Q (some (.int v)) M) : zCall X l 0 0 0 85 [.int a] M Q := by
  have ga := zrg a
  refine zs_in (by decide) mf85 (Nat.le_of_ble_eq_true rfl) ?_
  show zGo X l 0 0 0 85 0 [(0, .int a)] [] M _
  refine zs_iload_n (pc := 0) t85_0 rfl ?_
  by_cases w1 : a.toInt = 100
  · refine zs_lsw (pc := 1) t85_1 (off := 45) ((rfl : a.toInt = a.toInt).trans w1) rfl (pc2 := 46) rfl ?_
    refine zs_iconst (pc := 46) t85_46 (v := 1) (by decide) ?_
    exact zs_iret (pc := 47) t85_47 mr85 (by decide) (hQ _ (by decide) (by decide))
  by_cases w2 : a.toInt = 104
  · refine zs_lsw (pc := 1) t85_1 (off := 43) ((rfl : a.toInt = a.toInt).trans w2) rfl (pc2 := 44) rfl ?_
    refine zs_iconst (pc := 44) t85_44 (v := 3) (by decide) ?_
    exact zs_iret (pc := 45) t85_45 mr85 (by decide) (hQ _ (by decide) (by decide))
  by_cases w3 : a.toInt = 110
  · refine zs_lsw (pc := 1) t85_1 (off := 45) ((rfl : a.toInt = a.toInt).trans w3) rfl (pc2 := 46) rfl ?_
    refine zs_iconst (pc := 46) t85_46 (v := 1) (by decide) ?_
    exact zs_iret (pc := 47) t85_47 mr85 (by decide) (hQ _ (by decide) (by decide))
  by_cases w4 : a.toInt = 120
  · refine zs_lsw (pc := 1) t85_1 (off := 45) ((rfl : a.toInt = a.toInt).trans w4) rfl (pc2 := 46) rfl ?_
    refine zs_iconst (pc := 46) t85_46 (v := 1) (by decide) ?_
    exact zs_iret (pc := 47) t85_47 mr85 (by decide) (hQ _ (by decide) (by decide))
  refine zs_lsw (pc := 1) t85_1 (off := 47) rfl (by unfold zlsel; repeat (first | rfl | (rw [if_neg (by omega)]; unfold zlsel))) (pc2 := 48) rfl ?_
  refine zs_iconst (pc := 48) t85_48 (v := 0) (by decide) ?_
  exact zs_iret (pc := 49) t85_49 mr85 (by decide) (hQ _ (by decide) (by decide))
theorem C38_157_19 {X : zX} {l : Launch} {M : zM} {Q : Option Value → zM → Prop} {a b c : Int32} (hs : zSk zMc M) (hI : zIv cLo cHi M) (hb : 0 ≤ b.toInt ∧ b.toInt ≤ 3) (hQ : ∀ v : Int32, 0 ≤ v.toInt → v.toInt ≤ 1 → Q (some (.int v)) M) : zCall X l 2 0 0 38 [.ref 157, .int a, .int b, .int c, .ref 19] M Q := by
  have ga := zrg a
  have gb := zrg b
  have gc := zrg c
  refine zs_in (by decide) mf38 (Nat.le_of_ble_eq_true rfl) ?_
  show zGo X l 2 0 0 38 0 [(0, .ref 157), (1, .int a), (2, .int b), (3, .int c), (4, .ref 19)] [] M _
  refine zs_iload_n (pc := 0) t38_0 rfl ?_
  by_cases w1 : a.toInt = 104
  · refine zs_lsw (pc := 1) t38_1 (off := 78) ((rfl : a.toInt = a.toInt).trans w1) rfl (pc2 := 79) rfl ?_
    refine zs_iload_n (pc := 79) t38_79 rfl ?_
    refine zs_iload_n (pc := 80) t38_80 rfl ?_
    refine zs_aload (pc := 81) t38_81 rfl ?_
    refine zs_invS (pc := 83) (as := [.int b, .int c, .ref 19]) (st := []) t38_83 (by decide) mf40 rfl rfl ⟨by decide, by decide, Nat.le_of_ble_eq_true rfl, Nat.le_of_ble_eq_true rfl⟩ (zs_in (by decide) mf40 (Nat.le_of_ble_eq_true rfl) ?_) (fun _ _ q => q)
    show zGo X l 1 0 0 40 0 [(0, .int b), (1, .int c), (2, .ref 19)] [] M _
    refine zs_iload_n (pc := 0) t40_0 rfl ?_
    by_cases w2 : b.toInt ≠ 0
    · refine zs_if_neT (pc := 1) t40_1 rfl (by omega) ?_
      refine zs_iload_n (pc := 10) t40_10 rfl ?_
      refine zs_iconst (pc := 11) t40_11 (v := 1) (by decide) ?_
      by_cases w3 : b.toInt ≠ 1
      · refine zs_icmp_neT (pc := 12) t40_12 rfl li1 (by omega) ?_
        refine zs_iload_n (pc := 22) t40_22 rfl ?_
        refine zs_iconst (pc := 23) t40_23 (v := 0) (by decide) ?_
        refine zs_sipush (pc := 24) t40_24 (v := 999) (by decide) ?_
        refine zs_invS (pc := 27) (as := [.int c, .int (0 : Int32), .int (999 : Int32)]) (st := []) t40_27 (by decide) mf39 rfl rfl ⟨by decide, by decide, Nat.le_of_ble_eq_true rfl, Nat.le_of_ble_eq_true rfl⟩ (zs_in (by decide) mf39 (Nat.le_of_ble_eq_true rfl) ?_) (fun _ _ q => q)
        show zGo X l 0 0 0 39 0 [(0, .int c), (1, .int (0 : Int32)), (2, .int (999 : Int32))] [] M _
        refine zs_iload_n (pc := 0) t39_0 rfl ?_
        refine zs_iload_n (pc := 1) t39_1 rfl ?_
        by_cases w4 : c.toInt < 0
        · refine zs_icmp_ltT (pc := 2) t39_2 rfl li0 (by omega) ?_
          refine zs_iconst (pc := 14) t39_14 (v := 0) (by decide) ?_
          refine zs_iret (pc := 15) t39_15 mr39 (by decide) ?_
          show zGo X l 1 0 0 40 30 [(0, .int b), (1, .int c), (2, .ref 19)] [.int (0 : Int32)] M _
          refine zs_iret (pc := 30) t40_30 mr40 (by decide) ?_
          show zGo X l 2 0 0 38 86 [(0, .ref 157), (1, .int a), (2, .int b), (3, .int c), (4, .ref 19)] [.int (0 : Int32)] M _
          exact zs_iret (pc := 86) t38_86 mr38 (by decide) (hQ _ (by decide) (by decide))
        · refine zs_icmp_ltF (pc := 2) t39_2 rfl li0 (by omega) ?_
          refine zs_iload_n (pc := 5) t39_5 rfl ?_
          refine zs_iload_n (pc := 6) t39_6 rfl ?_
          by_cases w5 : 999 < c.toInt
          · refine zs_icmp_gtT (pc := 7) t39_7 rfl li999 (by omega) ?_
            refine zs_iconst (pc := 14) t39_14 (v := 0) (by decide) ?_
            refine zs_iret (pc := 15) t39_15 mr39 (by decide) ?_
            show zGo X l 1 0 0 40 30 [(0, .int b), (1, .int c), (2, .ref 19)] [.int (0 : Int32)] M _
            refine zs_iret (pc := 30) t40_30 mr40 (by decide) ?_
            show zGo X l 2 0 0 38 86 [(0, .ref 157), (1, .int a), (2, .int b), (3, .int c), (4, .ref 19)] [.int (0 : Int32)] M _
            exact zs_iret (pc := 86) t38_86 mr38 (by decide) (hQ _ (by decide) (by decide))
          · refine zs_icmp_gtF (pc := 7) t39_7 rfl li999 (by omega) ?_
            refine zs_iconst (pc := 10) t39_10 (v := 1) (by decide) ?_
            refine zs_goto (pc := 11) t39_11 ?_
            refine zs_iret (pc := 15) t39_15 mr39 (by decide) ?_
            show zGo X l 1 0 0 40 30 [(0, .int b), (1, .int c), (2, .ref 19)] [.int (1 : Int32)] M _
            refine zs_iret (pc := 30) t40_30 mr40 (by decide) ?_
            show zGo X l 2 0 0 38 86 [(0, .ref 157), (1, .int a), (2, .int b), (3, .int c), (4, .ref 19)] [.int (1 : Int32)] M _
            exact zs_iret (pc := 86) t38_86 mr38 (by decide) (hQ _ (by decide) (by decide))
      · refine zs_icmp_neF (pc := 12) t40_12 rfl li1 (by omega) ?_
        refine zs_iload_n (pc := 15) t40_15 rfl ?_
        refine zs_invS (pc := 16) (as := [.int c]) (st := []) t40_16 (by decide) mf42 rfl rfl ⟨by decide, by decide, Nat.le_of_ble_eq_true rfl, Nat.le_of_ble_eq_true rfl⟩ (zs_in (by decide) mf42 (Nat.le_of_ble_eq_true rfl) ?_) (fun _ _ q => q)
        show zGo X l 0 0 0 42 0 [(0, .int c)] [] M _
        refine zs_iload_n (pc := 0) t42_0 rfl ?_
        refine zs_sipush (pc := 1) t42_1 (v := -9999) (by decide) ?_
        by_cases w6 : c.toInt < (-9999)
        · refine zs_icmp_ltT (pc := 4) t42_4 rfl lin9999 (by omega) ?_
          refine zs_iconst (pc := 18) t42_18 (v := 0) (by decide) ?_
          refine zs_iret (pc := 19) t42_19 mr42 (by decide) ?_
          show zGo X l 1 0 0 40 19 [(0, .int b), (1, .int c), (2, .ref 19)] [.int (0 : Int32)] M _
          refine zs_goto (pc := 19) t40_19 ?_
          refine zs_iret (pc := 30) t40_30 mr40 (by decide) ?_
          show zGo X l 2 0 0 38 86 [(0, .ref 157), (1, .int a), (2, .int b), (3, .int c), (4, .ref 19)] [.int (0 : Int32)] M _
          exact zs_iret (pc := 86) t38_86 mr38 (by decide) (hQ _ (by decide) (by decide))
        · refine zs_icmp_ltF (pc := 4) t42_4 rfl lin9999 (by omega) ?_
          refine zs_iload_n (pc := 7) t42_7 rfl ?_
          refine zs_sipush (pc := 8) t42_8 (v := 9999) (by decide) ?_
          by_cases w7 : 9999 < c.toInt
          · refine zs_icmp_gtT (pc := 11) t42_11 rfl li9999 (by omega) ?_
            refine zs_iconst (pc := 18) t42_18 (v := 0) (by decide) ?_
            refine zs_iret (pc := 19) t42_19 mr42 (by decide) ?_
            show zGo X l 1 0 0 40 19 [(0, .int b), (1, .int c), (2, .ref 19)] [.int (0 : Int32)] M _
            refine zs_goto (pc := 19) t40_19 ?_
            refine zs_iret (pc := 30) t40_30 mr40 (by decide) ?_
            show zGo X l 2 0 0 38 86 [(0, .ref 157), (1, .int a), (2, .int b), (3, .int c), (4, .ref 19)] [.int (0 : Int32)] M _
            exact zs_iret (pc := 86) t38_86 mr38 (by decide) (hQ _ (by decide) (by decide))
          · refine zs_icmp_gtF (pc := 11) t42_11 rfl li9999 (by omega) ?_
            refine zs_iconst (pc := 14) t42_14 (v := 1) (by decide) ?_
            refine zs_goto (pc := 15) t42_15 ?_
            refine zs_iret (pc := 19) t42_19 mr42 (by decide) ?_
            show zGo X l 1 0 0 40 19 [(0, .int b), (1, .int c), (2, .ref 19)] [.int (1 : Int32)] M _
            refine zs_goto (pc := 19) t40_19 ?_
            refine zs_iret (pc := 30) t40_30 mr40 (by decide) ?_
            show zGo X l 2 0 0 38 86 [(0, .ref 157), (1, .int a), (2, .int b), (3, .int c), (4, .ref 19)] [.int (1 : Int32)] M _
            exact zs_iret (pc := 86) t38_86 mr38 (by decide) (hQ _ (by decide) (by decide))
    · refine zs_if_neF (pc := 1) t40_1 rfl (by omega) ?_
      refine zs_aload_n (pc := 4) t40_4 rfl ?_
      refine zs_iload_n (pc := 5) t40_5 rfl ?_
      refine zs_invV (pc := 6) (k := 19) (as' := [.int c]) (st := []) t40_6 mf41 rfl rfl (Or.inl ⟨by decide, (zk1 (hs.k fk_zMc_19))⟩) ⟨by decide, by decide, Nat.le_of_ble_eq_true rfl, Nat.le_of_ble_eq_true rfl⟩ (zs_in (by decide) mf41 (Nat.le_of_ble_eq_true rfl) ?_) (fun _ _ q => q)
      show zGo X l 0 0 0 41 0 [(0, .ref 19), (1, .int c)] [] M _
      refine zs_iload_n (pc := 0) t41_0 rfl ?_
      by_cases w8 : c.toInt < 0
      · refine zs_if_ltT (pc := 1) t41_1 rfl (by omega) ?_
        refine zs_iconst (pc := 16) t41_16 (v := 0) (by decide) ?_
        refine zs_iret (pc := 17) t41_17 mr41 (by decide) ?_
        show zGo X l 1 0 0 40 9 [(0, .int b), (1, .int c), (2, .ref 19)] [.int (0 : Int32)] M _
        refine zs_iret (pc := 9) t40_9 mr40 (by decide) ?_
        show zGo X l 2 0 0 38 86 [(0, .ref 157), (1, .int a), (2, .int b), (3, .int c), (4, .ref 19)] [.int (0 : Int32)] M _
        exact zs_iret (pc := 86) t38_86 mr38 (by decide) (hQ _ (by decide) (by decide))
      · refine zs_if_ltF (pc := 1) t41_1 rfl (by omega) ?_
        refine zs_iload_n (pc := 4) t41_4 rfl ?_
        refine zs_aload_n (pc := 5) t41_5 rfl ?_
        have w9 := ib19_0 hI
        refine zs_get (pc := 6) t41_6 (by decide) (zk1 (hs.k fk_zMc_19)) (zfvi rfl rfl) ?_
        by_cases w10 : (zI M 19 0).toInt ≤ c.toInt
        · refine zs_icmp_geT (pc := 9) t41_9 rfl rfl (by omega) ?_
          refine zs_iconst (pc := 16) t41_16 (v := 0) (by decide) ?_
          refine zs_iret (pc := 17) t41_17 mr41 (by decide) ?_
          show zGo X l 1 0 0 40 9 [(0, .int b), (1, .int c), (2, .ref 19)] [.int (0 : Int32)] M _
          refine zs_iret (pc := 9) t40_9 mr40 (by decide) ?_
          show zGo X l 2 0 0 38 86 [(0, .ref 157), (1, .int a), (2, .int b), (3, .int c), (4, .ref 19)] [.int (0 : Int32)] M _
          exact zs_iret (pc := 86) t38_86 mr38 (by decide) (hQ _ (by decide) (by decide))
        · refine zs_icmp_geF (pc := 9) t41_9 rfl rfl (by omega) ?_
          refine zs_iconst (pc := 12) t41_12 (v := 1) (by decide) ?_
          refine zs_goto (pc := 13) t41_13 ?_
          refine zs_iret (pc := 17) t41_17 mr41 (by decide) ?_
          show zGo X l 1 0 0 40 9 [(0, .int b), (1, .int c), (2, .ref 19)] [.int (1 : Int32)] M _
          refine zs_iret (pc := 9) t40_9 mr40 (by decide) ?_
          show zGo X l 2 0 0 38 86 [(0, .ref 157), (1, .int a), (2, .int b), (3, .int c), (4, .ref 19)] [.int (1 : Int32)] M _
          exact zs_iret (pc := 86) t38_86 mr38 (by decide) (hQ _ (by decide) (by decide))
  by_cases w11 : a.toInt = 112
  · refine zs_lsw (pc := 1) t38_1 (off := 86) ((rfl : a.toInt = a.toInt).trans w11) rfl (pc2 := 87) rfl ?_
    refine zs_iload_n (pc := 87) t38_87 rfl ?_
    refine zs_iload_n (pc := 88) t38_88 rfl ?_
    refine zs_invS (pc := 89) (as := [.int b, .int c]) (st := []) t38_89 (by decide) mf43 rfl rfl ⟨by decide, by decide, Nat.le_of_ble_eq_true rfl, Nat.le_of_ble_eq_true rfl⟩ (zs_in (by decide) mf43 (Nat.le_of_ble_eq_true rfl) ?_) (fun _ _ q => q)
    show zGo X l 1 0 0 43 0 [(0, .int b), (1, .int c)] [] M _
    refine zs_iload_n (pc := 0) t43_0 rfl ?_
    by_cases w12 : b.toInt ≠ 0
    · refine zs_if_neT (pc := 1) t43_1 rfl (by omega) ?_
      refine zs_iload_n (pc := 9) t43_9 rfl ?_
      refine zs_iconst (pc := 10) t43_10 (v := 1) (by decide) ?_
      by_cases w13 : b.toInt ≠ 1
      · refine zs_icmp_neT (pc := 11) t43_11 rfl li1 (by omega) ?_
        refine zs_iload_n (pc := 25) t43_25 rfl ?_
        refine zs_bipush (pc := 26) t43_26 (v := -5) (by decide) ?_
        refine zs_iconst (pc := 28) t43_28 (v := 5) (by decide) ?_
        refine zs_invS (pc := 29) (as := [.int c, .int (-5 : Int32), .int (5 : Int32)]) (st := []) t43_29 (by decide) mf39 rfl rfl ⟨by decide, by decide, Nat.le_of_ble_eq_true rfl, Nat.le_of_ble_eq_true rfl⟩ (zs_in (by decide) mf39 (Nat.le_of_ble_eq_true rfl) ?_) (fun _ _ q => q)
        show zGo X l 0 0 0 39 0 [(0, .int c), (1, .int (-5 : Int32)), (2, .int (5 : Int32))] [] M _
        refine zs_iload_n (pc := 0) t39_0 rfl ?_
        refine zs_iload_n (pc := 1) t39_1 rfl ?_
        by_cases w14 : c.toInt < (-5)
        · refine zs_icmp_ltT (pc := 2) t39_2 rfl lin5 (by omega) ?_
          refine zs_iconst (pc := 14) t39_14 (v := 0) (by decide) ?_
          refine zs_iret (pc := 15) t39_15 mr39 (by decide) ?_
          show zGo X l 1 0 0 43 32 [(0, .int b), (1, .int c)] [.int (0 : Int32)] M _
          refine zs_iret (pc := 32) t43_32 mr43 (by decide) ?_
          show zGo X l 2 0 0 38 92 [(0, .ref 157), (1, .int a), (2, .int b), (3, .int c), (4, .ref 19)] [.int (0 : Int32)] M _
          exact zs_iret (pc := 92) t38_92 mr38 (by decide) (hQ _ (by decide) (by decide))
        · refine zs_icmp_ltF (pc := 2) t39_2 rfl lin5 (by omega) ?_
          refine zs_iload_n (pc := 5) t39_5 rfl ?_
          refine zs_iload_n (pc := 6) t39_6 rfl ?_
          by_cases w15 : 5 < c.toInt
          · refine zs_icmp_gtT (pc := 7) t39_7 rfl li5 (by omega) ?_
            refine zs_iconst (pc := 14) t39_14 (v := 0) (by decide) ?_
            refine zs_iret (pc := 15) t39_15 mr39 (by decide) ?_
            show zGo X l 1 0 0 43 32 [(0, .int b), (1, .int c)] [.int (0 : Int32)] M _
            refine zs_iret (pc := 32) t43_32 mr43 (by decide) ?_
            show zGo X l 2 0 0 38 92 [(0, .ref 157), (1, .int a), (2, .int b), (3, .int c), (4, .ref 19)] [.int (0 : Int32)] M _
            exact zs_iret (pc := 92) t38_92 mr38 (by decide) (hQ _ (by decide) (by decide))
          · refine zs_icmp_gtF (pc := 7) t39_7 rfl li5 (by omega) ?_
            refine zs_iconst (pc := 10) t39_10 (v := 1) (by decide) ?_
            refine zs_goto (pc := 11) t39_11 ?_
            refine zs_iret (pc := 15) t39_15 mr39 (by decide) ?_
            show zGo X l 1 0 0 43 32 [(0, .int b), (1, .int c)] [.int (1 : Int32)] M _
            refine zs_iret (pc := 32) t43_32 mr43 (by decide) ?_
            show zGo X l 2 0 0 38 92 [(0, .ref 157), (1, .int a), (2, .int b), (3, .int c), (4, .ref 19)] [.int (1 : Int32)] M _
            exact zs_iret (pc := 92) t38_92 mr38 (by decide) (hQ _ (by decide) (by decide))
      · refine zs_icmp_neF (pc := 11) t43_11 rfl li1 (by omega) ?_
        refine zs_iload_n (pc := 14) t43_14 rfl ?_
        refine zs_bipush (pc := 15) t43_15 (v := -50) (by decide) ?_
        refine zs_bipush (pc := 17) t43_17 (v := 50) (by decide) ?_
        refine zs_invS (pc := 19) (as := [.int c, .int (-50 : Int32), .int (50 : Int32)]) (st := []) t43_19 (by decide) mf39 rfl rfl ⟨by decide, by decide, Nat.le_of_ble_eq_true rfl, Nat.le_of_ble_eq_true rfl⟩ (zs_in (by decide) mf39 (Nat.le_of_ble_eq_true rfl) ?_) (fun _ _ q => q)
        show zGo X l 0 0 0 39 0 [(0, .int c), (1, .int (-50 : Int32)), (2, .int (50 : Int32))] [] M _
        refine zs_iload_n (pc := 0) t39_0 rfl ?_
        refine zs_iload_n (pc := 1) t39_1 rfl ?_
        by_cases w16 : c.toInt < (-50)
        · refine zs_icmp_ltT (pc := 2) t39_2 rfl lin50 (by omega) ?_
          refine zs_iconst (pc := 14) t39_14 (v := 0) (by decide) ?_
          refine zs_iret (pc := 15) t39_15 mr39 (by decide) ?_
          show zGo X l 1 0 0 43 22 [(0, .int b), (1, .int c)] [.int (0 : Int32)] M _
          refine zs_goto (pc := 22) t43_22 ?_
          refine zs_iret (pc := 32) t43_32 mr43 (by decide) ?_
          show zGo X l 2 0 0 38 92 [(0, .ref 157), (1, .int a), (2, .int b), (3, .int c), (4, .ref 19)] [.int (0 : Int32)] M _
          exact zs_iret (pc := 92) t38_92 mr38 (by decide) (hQ _ (by decide) (by decide))
        · refine zs_icmp_ltF (pc := 2) t39_2 rfl lin50 (by omega) ?_
          refine zs_iload_n (pc := 5) t39_5 rfl ?_
          refine zs_iload_n (pc := 6) t39_6 rfl ?_
          by_cases w17 : 50 < c.toInt
          · refine zs_icmp_gtT (pc := 7) t39_7 rfl li50 (by omega) ?_
            refine zs_iconst (pc := 14) t39_14 (v := 0) (by decide) ?_
            refine zs_iret (pc := 15) t39_15 mr39 (by decide) ?_
            show zGo X l 1 0 0 43 22 [(0, .int b), (1, .int c)] [.int (0 : Int32)] M _
            refine zs_goto (pc := 22) t43_22 ?_
            refine zs_iret (pc := 32) t43_32 mr43 (by decide) ?_
            show zGo X l 2 0 0 38 92 [(0, .ref 157), (1, .int a), (2, .int b), (3, .int c), (4, .ref 19)] [.int (0 : Int32)] M _
            exact zs_iret (pc := 92) t38_92 mr38 (by decide) (hQ _ (by decide) (by decide))
          · refine zs_icmp_gtF (pc := 7) t39_7 rfl li50 (by omega) ?_
            refine zs_iconst (pc := 10) t39_10 (v := 1) (by decide) ?_
            refine zs_goto (pc := 11) t39_11 ?_
            refine zs_iret (pc := 15) t39_15 mr39 (by decide) ?_
            show zGo X l 1 0 0 43 22 [(0, .int b), (1, .int c)] [.int (1 : Int32)] M _
            refine zs_goto (pc := 22) t43_22 ?_
            refine zs_iret (pc := 32) t43_32 mr43 (by decide) ?_
            show zGo X l 2 0 0 38 92 [(0, .ref 157), (1, .int a), (2, .int b), (3, .int c), (4, .ref 19)] [.int (1 : Int32)] M _
            exact zs_iret (pc := 92) t38_92 mr38 (by decide) (hQ _ (by decide) (by decide))
    · refine zs_if_neF (pc := 1) t43_1 rfl (by omega) ?_
      refine zs_iload_n (pc := 4) t43_4 rfl ?_
      refine zs_invS (pc := 5) (as := [.int c]) (st := []) t43_5 (by decide) mf42 rfl rfl ⟨by decide, by decide, Nat.le_of_ble_eq_true rfl, Nat.le_of_ble_eq_true rfl⟩ (zs_in (by decide) mf42 (Nat.le_of_ble_eq_true rfl) ?_) (fun _ _ q => q)
      show zGo X l 0 0 0 42 0 [(0, .int c)] [] M _
      refine zs_iload_n (pc := 0) t42_0 rfl ?_
      refine zs_sipush (pc := 1) t42_1 (v := -9999) (by decide) ?_
      by_cases w18 : c.toInt < (-9999)
      · refine zs_icmp_ltT (pc := 4) t42_4 rfl lin9999 (by omega) ?_
        refine zs_iconst (pc := 18) t42_18 (v := 0) (by decide) ?_
        refine zs_iret (pc := 19) t42_19 mr42 (by decide) ?_
        show zGo X l 1 0 0 43 8 [(0, .int b), (1, .int c)] [.int (0 : Int32)] M _
        refine zs_iret (pc := 8) t43_8 mr43 (by decide) ?_
        show zGo X l 2 0 0 38 92 [(0, .ref 157), (1, .int a), (2, .int b), (3, .int c), (4, .ref 19)] [.int (0 : Int32)] M _
        exact zs_iret (pc := 92) t38_92 mr38 (by decide) (hQ _ (by decide) (by decide))
      · refine zs_icmp_ltF (pc := 4) t42_4 rfl lin9999 (by omega) ?_
        refine zs_iload_n (pc := 7) t42_7 rfl ?_
        refine zs_sipush (pc := 8) t42_8 (v := 9999) (by decide) ?_
        by_cases w19 : 9999 < c.toInt
        · refine zs_icmp_gtT (pc := 11) t42_11 rfl li9999 (by omega) ?_
          refine zs_iconst (pc := 18) t42_18 (v := 0) (by decide) ?_
          refine zs_iret (pc := 19) t42_19 mr42 (by decide) ?_
          show zGo X l 1 0 0 43 8 [(0, .int b), (1, .int c)] [.int (0 : Int32)] M _
          refine zs_iret (pc := 8) t43_8 mr43 (by decide) ?_
          show zGo X l 2 0 0 38 92 [(0, .ref 157), (1, .int a), (2, .int b), (3, .int c), (4, .ref 19)] [.int (0 : Int32)] M _
          exact zs_iret (pc := 92) t38_92 mr38 (by decide) (hQ _ (by decide) (by decide))
        · refine zs_icmp_gtF (pc := 11) t42_11 rfl li9999 (by omega) ?_
          refine zs_iconst (pc := 14) t42_14 (v := 1) (by decide) ?_
          refine zs_goto (pc := 15) t42_15 ?_
          refine zs_iret (pc := 19) t42_19 mr42 (by decide) ?_
          show zGo X l 1 0 0 43 8 [(0, .int b), (1, .int c)] [.int (1 : Int32)] M _
          refine zs_iret (pc := 8) t43_8 mr43 (by decide) ?_
          show zGo X l 2 0 0 38 92 [(0, .ref 157), (1, .int a), (2, .int b), (3, .int c), (4, .ref 19)] [.int (1 : Int32)] M _
          exact zs_iret (pc := 92) t38_92 mr38 (by decide) (hQ _ (by decide) (by decide))
  by_cases w20 : a.toInt = 114
  · refine zs_lsw (pc := 1) t38_1 (off := 43) ((rfl : a.toInt = a.toInt).trans w20) rfl (pc2 := 44) rfl ?_
    refine zs_iload_n (pc := 44) t38_44 rfl ?_
    refine zs_aload (pc := 45) t38_45 rfl ?_
    have w21 := ib19_0 hI
    refine zs_get (pc := 47) t38_47 (by decide) (zk1 (hs.k fk_zMc_19)) (zfvi rfl rfl) ?_
    by_cases w22 : (zI M 19 0).toInt ≠ 0
    · refine zs_if_neT (pc := 50) t38_50 rfl (by omega) ?_
      refine zs_aload (pc := 57) t38_57 rfl ?_
      refine zs_get (pc := 59) t38_59 (by decide) (zk1 (hs.k fk_zMc_19)) (hs.p rfl fv_zMc_19_1) ?_
      refine zs_aload (pc := 62) t38_62 rfl ?_
      refine zs_get (pc := 64) t38_64 (by decide) (zk1 (hs.k fk_zMc_19)) (zfvi rfl rfl) ?_
      refine zs_iconst (pc := 67) t38_67 (v := 1) (by decide) ?_
      obtain ⟨w23v, w23e, w23⟩ := zisub (a := (zI M 19 0)) (b := (1 : Int32)) rfl li1 (by omega) (by omega)
      refine zs_isub (pc := 68) t38_68 (c := w23v) w23e ?_
      obtain ⟨w24n, w24⟩ : ∃ n : Nat, w23v.toInt = (n : Int) := ⟨w23v.toInt.toNat, by omega⟩
      have w25 := ib20 hI w24n
      refine zs_iald (pc := 69) t38_69 (j := w24n) (by decide) (zk1 (hs.k fk_zMc_20)) w24 (zk2 (hs.k fk_zMc_20) (by omega)) rfl ?_
      refine zs_iconst (pc := 70) t38_70 (v := 1) (by decide) ?_
      obtain ⟨w26v, w26⟩ : ∃ v, v = (zI M 20 w24n) + (1 : Int32) := ⟨_, rfl⟩
      have w26g := zrg w26v
      refine zs_iadd (pc := 71) t38_71 (c := w26v) w26.symm ?_
      refine zs_sipush (pc := 72) t38_72 (v := 999) (by decide) ?_
      refine zs_invS (pc := 75) (as := [.int c, .int w26v, .int (999 : Int32)]) (st := []) t38_75 (by decide) mf39 rfl rfl ⟨by decide, by decide, Nat.le_of_ble_eq_true rfl, Nat.le_of_ble_eq_true rfl⟩ (zs_in (by decide) mf39 (Nat.le_of_ble_eq_true rfl) ?_) (fun _ _ q => q)
      show zGo X l 0 0 0 39 0 [(0, .int c), (1, .int w26v), (2, .int (999 : Int32))] [] M _
      refine zs_iload_n (pc := 0) t39_0 rfl ?_
      refine zs_iload_n (pc := 1) t39_1 rfl ?_
      by_cases w27 : c.toInt < w26v.toInt
      · refine zs_icmp_ltT (pc := 2) t39_2 rfl rfl (by omega) ?_
        refine zs_iconst (pc := 14) t39_14 (v := 0) (by decide) ?_
        refine zs_iret (pc := 15) t39_15 mr39 (by decide) ?_
        show zGo X l 2 0 0 38 78 [(0, .ref 157), (1, .int a), (2, .int b), (3, .int c), (4, .ref 19)] [.int (0 : Int32)] M _
        exact zs_iret (pc := 78) t38_78 mr38 (by decide) (hQ _ (by decide) (by decide))
      · refine zs_icmp_ltF (pc := 2) t39_2 rfl rfl (by omega) ?_
        refine zs_iload_n (pc := 5) t39_5 rfl ?_
        refine zs_iload_n (pc := 6) t39_6 rfl ?_
        by_cases w28 : 999 < c.toInt
        · refine zs_icmp_gtT (pc := 7) t39_7 rfl li999 (by omega) ?_
          refine zs_iconst (pc := 14) t39_14 (v := 0) (by decide) ?_
          refine zs_iret (pc := 15) t39_15 mr39 (by decide) ?_
          show zGo X l 2 0 0 38 78 [(0, .ref 157), (1, .int a), (2, .int b), (3, .int c), (4, .ref 19)] [.int (0 : Int32)] M _
          exact zs_iret (pc := 78) t38_78 mr38 (by decide) (hQ _ (by decide) (by decide))
        · refine zs_icmp_gtF (pc := 7) t39_7 rfl li999 (by omega) ?_
          refine zs_iconst (pc := 10) t39_10 (v := 1) (by decide) ?_
          refine zs_goto (pc := 11) t39_11 ?_
          refine zs_iret (pc := 15) t39_15 mr39 (by decide) ?_
          show zGo X l 2 0 0 38 78 [(0, .ref 157), (1, .int a), (2, .int b), (3, .int c), (4, .ref 19)] [.int (1 : Int32)] M _
          exact zs_iret (pc := 78) t38_78 mr38 (by decide) (hQ _ (by decide) (by decide))
    · refine zs_if_neF (pc := 50) t38_50 rfl (by omega) ?_
      refine zs_iconst (pc := 53) t38_53 (v := 1) (by decide) ?_
      refine zs_goto (pc := 54) t38_54 ?_
      refine zs_sipush (pc := 72) t38_72 (v := 999) (by decide) ?_
      refine zs_invS (pc := 75) (as := [.int c, .int (1 : Int32), .int (999 : Int32)]) (st := []) t38_75 (by decide) mf39 rfl rfl ⟨by decide, by decide, Nat.le_of_ble_eq_true rfl, Nat.le_of_ble_eq_true rfl⟩ (zs_in (by decide) mf39 (Nat.le_of_ble_eq_true rfl) ?_) (fun _ _ q => q)
      show zGo X l 0 0 0 39 0 [(0, .int c), (1, .int (1 : Int32)), (2, .int (999 : Int32))] [] M _
      refine zs_iload_n (pc := 0) t39_0 rfl ?_
      refine zs_iload_n (pc := 1) t39_1 rfl ?_
      by_cases w29 : c.toInt < 1
      · refine zs_icmp_ltT (pc := 2) t39_2 rfl li1 (by omega) ?_
        refine zs_iconst (pc := 14) t39_14 (v := 0) (by decide) ?_
        refine zs_iret (pc := 15) t39_15 mr39 (by decide) ?_
        show zGo X l 2 0 0 38 78 [(0, .ref 157), (1, .int a), (2, .int b), (3, .int c), (4, .ref 19)] [.int (0 : Int32)] M _
        exact zs_iret (pc := 78) t38_78 mr38 (by decide) (hQ _ (by decide) (by decide))
      · refine zs_icmp_ltF (pc := 2) t39_2 rfl li1 (by omega) ?_
        refine zs_iload_n (pc := 5) t39_5 rfl ?_
        refine zs_iload_n (pc := 6) t39_6 rfl ?_
        by_cases w30 : 999 < c.toInt
        · refine zs_icmp_gtT (pc := 7) t39_7 rfl li999 (by omega) ?_
          refine zs_iconst (pc := 14) t39_14 (v := 0) (by decide) ?_
          refine zs_iret (pc := 15) t39_15 mr39 (by decide) ?_
          show zGo X l 2 0 0 38 78 [(0, .ref 157), (1, .int a), (2, .int b), (3, .int c), (4, .ref 19)] [.int (0 : Int32)] M _
          exact zs_iret (pc := 78) t38_78 mr38 (by decide) (hQ _ (by decide) (by decide))
        · refine zs_icmp_gtF (pc := 7) t39_7 rfl li999 (by omega) ?_
          refine zs_iconst (pc := 10) t39_10 (v := 1) (by decide) ?_
          refine zs_goto (pc := 11) t39_11 ?_
          refine zs_iret (pc := 15) t39_15 mr39 (by decide) ?_
          show zGo X l 2 0 0 38 78 [(0, .ref 157), (1, .int a), (2, .int b), (3, .int c), (4, .ref 19)] [.int (1 : Int32)] M _
          exact zs_iret (pc := 78) t38_78 mr38 (by decide) (hQ _ (by decide) (by decide))
  by_cases w31 : a.toInt = 119
  · refine zs_lsw (pc := 1) t38_1 (off := 92) ((rfl : a.toInt = a.toInt).trans w31) rfl (pc2 := 93) rfl ?_
    refine zs_iconst (pc := 93) t38_93 (v := 5) (by decide) ?_
    refine zs_iload_n (pc := 94) t38_94 rfl ?_
    obtain ⟨w32v, w32e, w32⟩ := ziadd (a := (5 : Int32)) (b := b) li5 rfl (by omega) (by omega)
    refine zs_iadd (pc := 95) t38_95 (c := w32v) w32e ?_
    refine zs_iload_n (pc := 96) t38_96 rfl ?_
    refine zs_invS (pc := 97) (as := [.int w32v, .int c]) (st := []) t38_97 (by decide) mf44 rfl rfl ⟨by decide, by decide, Nat.le_of_ble_eq_true rfl, Nat.le_of_ble_eq_true rfl⟩ (zs_in (by decide) mf44 (Nat.le_of_ble_eq_true rfl) ?_) (fun _ _ q => q)
    show zGo X l 1 0 0 44 0 [(0, .int w32v), (1, .int c)] [] M _
    refine zs_iload_n (pc := 0) t44_0 rfl ?_
    refine zs_if_ltF (pc := 1) t44_1 w32 (by omega) ?_
    refine zs_iload_n (pc := 4) t44_4 rfl ?_
    refine zs_bipush (pc := 5) t44_5 (v := 9) (by decide) ?_
    refine zs_icmp_geF (pc := 7) t44_7 w32 li9 (by omega) ?_
    refine zs_iload_n (pc := 10) t44_10 rfl ?_
    refine zs_getstatic (pc := 11) t44_11 (v := .ref 2) rfl ?_
    refine zs_iload_n (pc := 14) t44_14 rfl ?_
    obtain ⟨w33n, w33⟩ : ∃ n : Nat, w32v.toInt = (n : Int) := ⟨w32v.toInt.toNat, by omega⟩
    have w34 := ib2 hI w33n
    refine zs_iald (pc := 15) t44_15 (j := w33n) (by decide) (zk1 (hs.k fk_zMc_2)) w33 (zk2 (hs.k fk_zMc_2) (by omega)) rfl ?_
    refine zs_getstatic (pc := 16) t44_16 (v := .ref 3) rfl ?_
    refine zs_iload_n (pc := 19) t44_19 rfl ?_
    obtain ⟨w35n, w35⟩ : ∃ n : Nat, w32v.toInt = (n : Int) := ⟨w32v.toInt.toNat, by omega⟩
    have w36 := ib3 hI w35n
    refine zs_iald (pc := 20) t44_20 (j := w35n) (by decide) (zk1 (hs.k fk_zMc_3)) w35 (zk2 (hs.k fk_zMc_3) (by omega)) rfl ?_
    refine zs_invS (pc := 21) (as := [.int c, .int (zI M 2 w33n), .int (zI M 3 w35n)]) (st := []) t44_21 (by decide) mf39 rfl rfl ⟨by decide, by decide, Nat.le_of_ble_eq_true rfl, Nat.le_of_ble_eq_true rfl⟩ (zs_in (by decide) mf39 (Nat.le_of_ble_eq_true rfl) ?_) (fun _ _ q => q)
    show zGo X l 0 0 0 39 0 [(0, .int c), (1, .int (zI M 2 w33n)), (2, .int (zI M 3 w35n))] [] M _
    refine zs_iload_n (pc := 0) t39_0 rfl ?_
    refine zs_iload_n (pc := 1) t39_1 rfl ?_
    by_cases w37 : c.toInt < (zI M 2 w33n).toInt
    · refine zs_icmp_ltT (pc := 2) t39_2 rfl rfl (by omega) ?_
      refine zs_iconst (pc := 14) t39_14 (v := 0) (by decide) ?_
      refine zs_iret (pc := 15) t39_15 mr39 (by decide) ?_
      show zGo X l 1 0 0 44 24 [(0, .int w32v), (1, .int c)] [.int (0 : Int32)] M _
      refine zs_if_eqT (pc := 24) t44_24 li0 (by decide) ?_
      refine zs_iconst (pc := 31) t44_31 (v := 0) (by decide) ?_
      refine zs_iret (pc := 32) t44_32 mr44 (by decide) ?_
      show zGo X l 2 0 0 38 100 [(0, .ref 157), (1, .int a), (2, .int b), (3, .int c), (4, .ref 19)] [.int (0 : Int32)] M _
      refine zs_if_eqT (pc := 100) t38_100 li0 (by decide) ?_
      refine zs_iconst (pc := 121) t38_121 (v := 0) (by decide) ?_
      exact zs_iret (pc := 122) t38_122 mr38 (by decide) (hQ _ (by decide) (by decide))
    · refine zs_icmp_ltF (pc := 2) t39_2 rfl rfl (by omega) ?_
      refine zs_iload_n (pc := 5) t39_5 rfl ?_
      refine zs_iload_n (pc := 6) t39_6 rfl ?_
      by_cases w38 : (zI M 3 w35n).toInt < c.toInt
      · refine zs_icmp_gtT (pc := 7) t39_7 rfl rfl (by omega) ?_
        refine zs_iconst (pc := 14) t39_14 (v := 0) (by decide) ?_
        refine zs_iret (pc := 15) t39_15 mr39 (by decide) ?_
        show zGo X l 1 0 0 44 24 [(0, .int w32v), (1, .int c)] [.int (0 : Int32)] M _
        refine zs_if_eqT (pc := 24) t44_24 li0 (by decide) ?_
        refine zs_iconst (pc := 31) t44_31 (v := 0) (by decide) ?_
        refine zs_iret (pc := 32) t44_32 mr44 (by decide) ?_
        show zGo X l 2 0 0 38 100 [(0, .ref 157), (1, .int a), (2, .int b), (3, .int c), (4, .ref 19)] [.int (0 : Int32)] M _
        refine zs_if_eqT (pc := 100) t38_100 li0 (by decide) ?_
        refine zs_iconst (pc := 121) t38_121 (v := 0) (by decide) ?_
        exact zs_iret (pc := 122) t38_122 mr38 (by decide) (hQ _ (by decide) (by decide))
      · refine zs_icmp_gtF (pc := 7) t39_7 rfl rfl (by omega) ?_
        refine zs_iconst (pc := 10) t39_10 (v := 1) (by decide) ?_
        refine zs_goto (pc := 11) t39_11 ?_
        refine zs_iret (pc := 15) t39_15 mr39 (by decide) ?_
        show zGo X l 1 0 0 44 24 [(0, .int w32v), (1, .int c)] [.int (1 : Int32)] M _
        refine zs_if_eqF (pc := 24) t44_24 li1 (by decide) ?_
        refine zs_iconst (pc := 27) t44_27 (v := 1) (by decide) ?_
        refine zs_goto (pc := 28) t44_28 ?_
        refine zs_iret (pc := 32) t44_32 mr44 (by decide) ?_
        show zGo X l 2 0 0 38 100 [(0, .ref 157), (1, .int a), (2, .int b), (3, .int c), (4, .ref 19)] [.int (1 : Int32)] M _
        refine zs_if_eqF (pc := 100) t38_100 li1 (by decide) ?_
        refine zs_iload_n (pc := 103) t38_103 rfl ?_
        by_cases w39 : b.toInt = 0
        · refine zs_if_eqT (pc := 104) t38_104 rfl (by omega) ?_
          refine zs_iconst (pc := 117) t38_117 (v := 1) (by decide) ?_
          refine zs_goto (pc := 118) t38_118 ?_
          exact zs_iret (pc := 122) t38_122 mr38 (by decide) (hQ _ (by decide) (by decide))
        · refine zs_if_eqF (pc := 104) t38_104 rfl (by omega) ?_
          refine zs_iload_n (pc := 107) t38_107 rfl ?_
          refine zs_aload_n (pc := 108) t38_108 rfl ?_
          refine zs_get (pc := 109) t38_109 (by decide) (zk1 (hs.k fk_zMc_157)) (hs.p rfl fv_zMc_157_0) ?_
          refine zs_iconst (pc := 112) t38_112 (v := 0) (by decide) ?_
          have w40 := ib158 hI 0
          refine zs_iald (pc := 113) t38_113 (j := 0) (by decide) (zk1 (hs.k fk_zMc_158)) li0 (zk2 (hs.k fk_zMc_158) (by decide)) rfl ?_
          by_cases w41 : c.toInt < (zI M 158 0).toInt
          · refine zs_icmp_ltT (pc := 114) t38_114 rfl rfl (by omega) ?_
            refine zs_iconst (pc := 121) t38_121 (v := 0) (by decide) ?_
            exact zs_iret (pc := 122) t38_122 mr38 (by decide) (hQ _ (by decide) (by decide))
          · refine zs_icmp_ltF (pc := 114) t38_114 rfl rfl (by omega) ?_
            refine zs_iconst (pc := 117) t38_117 (v := 1) (by decide) ?_
            refine zs_goto (pc := 118) t38_118 ?_
            exact zs_iret (pc := 122) t38_122 mr38 (by decide) (hQ _ (by decide) (by decide))
  refine zs_lsw (pc := 1) t38_1 (off := 122) rfl (by unfold zlsel; repeat (first | rfl | (rw [if_neg (by omega)]; unfold zlsel))) (pc2 := 123) rfl ?_
  refine zs_iload_n (pc := 123) t38_123 rfl ?_
  refine zs_invS (pc := 124) (as := [.int a]) (st := []) t38_124 (by decide) mf45 rfl rfl ⟨by decide, by decide, Nat.le_of_ble_eq_true rfl, Nat.le_of_ble_eq_true rfl⟩ (C45 hs hI ?_) (fun _ _ q => q)
  intro w42v w42a w42b
  show zGo X l 2 0 0 38 127 [(0, .ref 157), (1, .int a), (2, .int b), (3, .int c), (4, .ref 19)] [.int w42v] M _
  refine zs_iload_n (pc := 127) t38_127 rfl ?_
  obtain ⟨w43v, w43e, w43⟩ := ziadd (a := w42v) (b := b) rfl rfl (by omega) (by omega)
  refine zs_iadd (pc := 128) t38_128 (c := w43v) w43e ?_
  refine zs_iload_n (pc := 129) t38_129 rfl ?_
  refine zs_invS (pc := 130) (as := [.int w43v, .int c]) (st := []) t38_130 (by decide) mf44 rfl rfl ⟨by decide, by decide, Nat.le_of_ble_eq_true rfl, Nat.le_of_ble_eq_true rfl⟩ (zs_in (by decide) mf44 (Nat.le_of_ble_eq_true rfl) ?_) (fun _ _ q => q)
  show zGo X l 1 0 0 44 0 [(0, .int w43v), (1, .int c)] [] M _
  refine zs_iload_n (pc := 0) t44_0 rfl ?_
  refine zs_if_ltF (pc := 1) t44_1 w43 (by omega) ?_
  refine zs_iload_n (pc := 4) t44_4 rfl ?_
  refine zs_bipush (pc := 5) t44_5 (v := 9) (by decide) ?_
  by_cases w44 : 9 ≤ (w42v.toInt + b.toInt)
  · refine zs_icmp_geT (pc := 7) t44_7 w43 li9 (by omega) ?_
    refine zs_iconst (pc := 31) t44_31 (v := 0) (by decide) ?_
    refine zs_iret (pc := 32) t44_32 mr44 (by decide) ?_
    show zGo X l 2 0 0 38 133 [(0, .ref 157), (1, .int a), (2, .int b), (3, .int c), (4, .ref 19)] [.int (0 : Int32)] M _
    exact zs_iret (pc := 133) t38_133 mr38 (by decide) (hQ _ (by decide) (by decide))
  · refine zs_icmp_geF (pc := 7) t44_7 w43 li9 (by omega) ?_
    refine zs_iload_n (pc := 10) t44_10 rfl ?_
    refine zs_getstatic (pc := 11) t44_11 (v := .ref 2) rfl ?_
    refine zs_iload_n (pc := 14) t44_14 rfl ?_
    obtain ⟨w45n, w45⟩ : ∃ n : Nat, w43v.toInt = (n : Int) := ⟨w43v.toInt.toNat, by omega⟩
    have w46 := ib2 hI w45n
    refine zs_iald (pc := 15) t44_15 (j := w45n) (by decide) (zk1 (hs.k fk_zMc_2)) w45 (zk2 (hs.k fk_zMc_2) (by omega)) rfl ?_
    refine zs_getstatic (pc := 16) t44_16 (v := .ref 3) rfl ?_
    refine zs_iload_n (pc := 19) t44_19 rfl ?_
    obtain ⟨w47n, w47⟩ : ∃ n : Nat, w43v.toInt = (n : Int) := ⟨w43v.toInt.toNat, by omega⟩
    have w48 := ib3 hI w47n
    refine zs_iald (pc := 20) t44_20 (j := w47n) (by decide) (zk1 (hs.k fk_zMc_3)) w47 (zk2 (hs.k fk_zMc_3) (by omega)) rfl ?_
    refine zs_invS (pc := 21) (as := [.int c, .int (zI M 2 w45n), .int (zI M 3 w47n)]) (st := []) t44_21 (by decide) mf39 rfl rfl ⟨by decide, by decide, Nat.le_of_ble_eq_true rfl, Nat.le_of_ble_eq_true rfl⟩ (zs_in (by decide) mf39 (Nat.le_of_ble_eq_true rfl) ?_) (fun _ _ q => q)
    show zGo X l 0 0 0 39 0 [(0, .int c), (1, .int (zI M 2 w45n)), (2, .int (zI M 3 w47n))] [] M _
    refine zs_iload_n (pc := 0) t39_0 rfl ?_
    refine zs_iload_n (pc := 1) t39_1 rfl ?_
    by_cases w49 : c.toInt < (zI M 2 w45n).toInt
    · refine zs_icmp_ltT (pc := 2) t39_2 rfl rfl (by omega) ?_
      refine zs_iconst (pc := 14) t39_14 (v := 0) (by decide) ?_
      refine zs_iret (pc := 15) t39_15 mr39 (by decide) ?_
      show zGo X l 1 0 0 44 24 [(0, .int w43v), (1, .int c)] [.int (0 : Int32)] M _
      refine zs_if_eqT (pc := 24) t44_24 li0 (by decide) ?_
      refine zs_iconst (pc := 31) t44_31 (v := 0) (by decide) ?_
      refine zs_iret (pc := 32) t44_32 mr44 (by decide) ?_
      show zGo X l 2 0 0 38 133 [(0, .ref 157), (1, .int a), (2, .int b), (3, .int c), (4, .ref 19)] [.int (0 : Int32)] M _
      exact zs_iret (pc := 133) t38_133 mr38 (by decide) (hQ _ (by decide) (by decide))
    · refine zs_icmp_ltF (pc := 2) t39_2 rfl rfl (by omega) ?_
      refine zs_iload_n (pc := 5) t39_5 rfl ?_
      refine zs_iload_n (pc := 6) t39_6 rfl ?_
      by_cases w50 : (zI M 3 w47n).toInt < c.toInt
      · refine zs_icmp_gtT (pc := 7) t39_7 rfl rfl (by omega) ?_
        refine zs_iconst (pc := 14) t39_14 (v := 0) (by decide) ?_
        refine zs_iret (pc := 15) t39_15 mr39 (by decide) ?_
        show zGo X l 1 0 0 44 24 [(0, .int w43v), (1, .int c)] [.int (0 : Int32)] M _
        refine zs_if_eqT (pc := 24) t44_24 li0 (by decide) ?_
        refine zs_iconst (pc := 31) t44_31 (v := 0) (by decide) ?_
        refine zs_iret (pc := 32) t44_32 mr44 (by decide) ?_
        show zGo X l 2 0 0 38 133 [(0, .ref 157), (1, .int a), (2, .int b), (3, .int c), (4, .ref 19)] [.int (0 : Int32)] M _
        exact zs_iret (pc := 133) t38_133 mr38 (by decide) (hQ _ (by decide) (by decide))
      · refine zs_icmp_gtF (pc := 7) t39_7 rfl rfl (by omega) ?_
        refine zs_iconst (pc := 10) t39_10 (v := 1) (by decide) ?_
        refine zs_goto (pc := 11) t39_11 ?_
        refine zs_iret (pc := 15) t39_15 mr39 (by decide) ?_
        show zGo X l 1 0 0 44 24 [(0, .int w43v), (1, .int c)] [.int (1 : Int32)] M _
        refine zs_if_eqF (pc := 24) t44_24 li1 (by decide) ?_
        refine zs_iconst (pc := 27) t44_27 (v := 1) (by decide) ?_
        refine zs_goto (pc := 28) t44_28 ?_
        refine zs_iret (pc := 32) t44_32 mr44 (by decide) ?_
        show zGo X l 2 0 0 38 133 [(0, .ref 157), (1, .int a), (2, .int b), (3, .int c), (4, .ref 19)] [.int (1 : Int32)] M _
        exact zs_iret (pc := 133) t38_133 mr38 (by decide) (hQ _ (by decide) (by decide))
theorem C48_157_19 {X : zX} {l : Launch} {M : zM} {Q : Option Value → zM → Prop} {a : Int32} (hs : zSk zMc M) (hI : zIv cLo cHi M) (hQ : ∀ (M' : zM) (v : Int32), zSk zMc M' → zIv cLo cHi M' → zFr [(19, 30, none)] M M' → 0 ≤ v.toInt → v.toInt ≤ 1 → Q (some (.int v)) M') : zCall X l 4 0 0 48 [.ref 157, .int a, .ref 19] M Q := by
  have ga := zrg a
  refine zs_in (by decide) mf48 (Nat.le_of_ble_eq_true rfl) ?_
  show zGo X l 4 0 0 48 0 [(0, .ref 157), (1, .int a), (2, .ref 19)] [] M _
  refine zs_iload_n (pc := 0) t48_0 rfl ?_
  by_cases w1 : a.toInt = 104
  · refine zs_lsw (pc := 1) t48_1 (off := 46) ((rfl : a.toInt = a.toInt).trans w1) rfl (pc2 := 47) rfl ?_
    refine zs_aload_n (pc := 47) t48_47 rfl ?_
    refine zs_aload_n (pc := 48) t48_48 rfl ?_
    refine zs_get (pc := 49) t48_49 (by decide) (zk1 (hs.k fk_zMc_157)) (hs.p rfl fv_zMc_157_0) ?_
    refine zs_iconst (pc := 52) t48_52 (v := 0) (by decide) ?_
    have w2 := ib158 hI 0
    refine zs_iald (pc := 53) t48_53 (j := 0) (by decide) (zk1 (hs.k fk_zMc_158)) li0 (zk2 (hs.k fk_zMc_158) (by decide)) rfl ?_
    refine zs_aload_n (pc := 54) t48_54 rfl ?_
    refine zs_get (pc := 55) t48_55 (by decide) (zk1 (hs.k fk_zMc_157)) (hs.p rfl fv_zMc_157_0) ?_
    refine zs_iconst (pc := 58) t48_58 (v := 1) (by decide) ?_
    have w3 := ib158 hI 1
    refine zs_iald (pc := 59) t48_59 (j := 1) (by decide) (zk1 (hs.k fk_zMc_158)) li1 (zk2 (hs.k fk_zMc_158) (by decide)) rfl ?_
    refine zs_aload_n (pc := 60) t48_60 rfl ?_
    refine zs_get (pc := 61) t48_61 (by decide) (zk1 (hs.k fk_zMc_157)) (hs.p rfl fv_zMc_157_0) ?_
    refine zs_iconst (pc := 64) t48_64 (v := 2) (by decide) ?_
    have w4 := ib158 hI 2
    refine zs_iald (pc := 65) t48_65 (j := 2) (by decide) (zk1 (hs.k fk_zMc_158)) li2 (zk2 (hs.k fk_zMc_158) (by decide)) rfl ?_
    refine zs_bipush (pc := 66) t48_66 (v := -2) (by decide) ?_
    refine zs_invV (pc := 68) (k := 19) (as' := [.int (zI M 158 0), .int (zI M 158 1), .int (zI M 158 2), .int (-2 : Int32)]) (st := []) t48_68 mf50 rfl rfl (Or.inl ⟨by decide, (zk1 (hs.k fk_zMc_19))⟩) ⟨by decide, by decide, Nat.le_of_ble_eq_true rfl, Nat.le_of_ble_eq_true rfl⟩ (C50_19 hs hI ?_) (fun _ _ q => q)
    intro w5M w5v w5s w5I w5F w5a w5b
    show zGo X l 4 0 0 48 71 [(0, .ref 157), (1, .int a), (2, .ref 19)] [.int w5v] w5M _
    refine zs_iconst (pc := 71) t48_71 (v := -1) (by decide) ?_
    by_cases w6 : w5v.toInt = (-1)
    · refine zs_icmp_eqT (pc := 72) t48_72 rfl lin1 (by omega) ?_
      refine zs_iconst (pc := 79) t48_79 (v := 0) (by decide) ?_
      exact zs_iret (pc := 80) t48_80 mr48 (by decide) (hQ _ _ w5s w5I ((zFr.refl).trans (w5F.mono rfl)) (by decide) (by decide))
    · refine zs_icmp_eqF (pc := 72) t48_72 rfl lin1 (by omega) ?_
      refine zs_iconst (pc := 75) t48_75 (v := 1) (by decide) ?_
      refine zs_goto (pc := 76) t48_76 ?_
      exact zs_iret (pc := 80) t48_80 mr48 (by decide) (hQ _ _ w5s w5I ((zFr.refl).trans (w5F.mono rfl)) (by decide) (by decide))
  by_cases w7 : a.toInt = 112
  · refine zs_lsw (pc := 1) t48_1 (off := 80) ((rfl : a.toInt = a.toInt).trans w7) rfl (pc2 := 81) rfl ?_
    refine zs_aload_n (pc := 81) t48_81 rfl ?_
    refine zs_aload_n (pc := 82) t48_82 rfl ?_
    refine zs_get (pc := 83) t48_83 (by decide) (zk1 (hs.k fk_zMc_157)) (hs.p rfl fv_zMc_157_0) ?_
    refine zs_iconst (pc := 86) t48_86 (v := 0) (by decide) ?_
    have w8 := ib158 hI 0
    refine zs_iald (pc := 87) t48_87 (j := 0) (by decide) (zk1 (hs.k fk_zMc_158)) li0 (zk2 (hs.k fk_zMc_158) (by decide)) rfl ?_
    refine zs_aload_n (pc := 88) t48_88 rfl ?_
    refine zs_get (pc := 89) t48_89 (by decide) (zk1 (hs.k fk_zMc_157)) (hs.p rfl fv_zMc_157_0) ?_
    refine zs_iconst (pc := 92) t48_92 (v := 1) (by decide) ?_
    have w9 := ib158 hI 1
    refine zs_iald (pc := 93) t48_93 (j := 1) (by decide) (zk1 (hs.k fk_zMc_158)) li1 (zk2 (hs.k fk_zMc_158) (by decide)) rfl ?_
    refine zs_aload_n (pc := 94) t48_94 rfl ?_
    refine zs_get (pc := 95) t48_95 (by decide) (zk1 (hs.k fk_zMc_157)) (hs.p rfl fv_zMc_157_0) ?_
    refine zs_iconst (pc := 98) t48_98 (v := 2) (by decide) ?_
    have w10 := ib158 hI 2
    refine zs_iald (pc := 99) t48_99 (j := 2) (by decide) (zk1 (hs.k fk_zMc_158)) li2 (zk2 (hs.k fk_zMc_158) (by decide)) rfl ?_
    refine zs_invV (pc := 100) (k := 19) (as' := [.int (zI M 158 0), .int (zI M 158 1), .int (zI M 158 2)]) (st := []) t48_100 mf52 rfl rfl (Or.inl ⟨by decide, (zk1 (hs.k fk_zMc_19))⟩) ⟨by decide, by decide, Nat.le_of_ble_eq_true rfl, Nat.le_of_ble_eq_true rfl⟩ (C52_19 hs hI ?_) (fun _ _ q => q)
    intro w11M w11v w11s w11I w11F w11a w11b
    show zGo X l 4 0 0 48 103 [(0, .ref 157), (1, .int a), (2, .ref 19)] [.int w11v] w11M _
    exact zs_iret (pc := 103) t48_103 mr48 (zfb01 (by omega)) (hQ _ _ w11s w11I ((zFr.refl).trans (w11F.mono rfl)) (by omega) (by omega))
  by_cases w12 : a.toInt = 114
  · refine zs_lsw (pc := 1) t48_1 (off := 35) ((rfl : a.toInt = a.toInt).trans w12) rfl (pc2 := 36) rfl ?_
    refine zs_aload_n (pc := 36) t48_36 rfl ?_
    refine zs_aload_n (pc := 37) t48_37 rfl ?_
    refine zs_get (pc := 38) t48_38 (by decide) (zk1 (hs.k fk_zMc_157)) (hs.p rfl fv_zMc_157_0) ?_
    refine zs_iconst (pc := 41) t48_41 (v := 0) (by decide) ?_
    have w13 := ib158 hI 0
    refine zs_iald (pc := 42) t48_42 (j := 0) (by decide) (zk1 (hs.k fk_zMc_158)) li0 (zk2 (hs.k fk_zMc_158) (by decide)) rfl ?_
    refine zs_invV (pc := 43) (k := 19) (as' := [.int (zI M 158 0)]) (st := []) t48_43 mf49 rfl rfl (Or.inl ⟨by decide, (zk1 (hs.k fk_zMc_19))⟩) ⟨by decide, by decide, Nat.le_of_ble_eq_true rfl, Nat.le_of_ble_eq_true rfl⟩ (C49_19 hs hI ?_) (fun _ _ q => q)
    intro w14M w14v w14s w14I w14F w14a w14b
    show zGo X l 4 0 0 48 46 [(0, .ref 157), (1, .int a), (2, .ref 19)] [.int w14v] w14M _
    exact zs_iret (pc := 46) t48_46 mr48 (zfb01 (by omega)) (hQ _ _ w14s w14I ((zFr.refl).trans (w14F.mono rfl)) (by omega) (by omega))
  refine zs_lsw (pc := 1) t48_1 (off := 103) rfl (by unfold zlsel; repeat (first | rfl | (rw [if_neg (by omega)]; unfold zlsel))) (pc2 := 104) rfl ?_
  refine zs_iconst (pc := 104) t48_104 (v := 0) (by decide) ?_
  refine zs_istore_n (pc := 105) t48_105 (ls' := [(3, .int (0 : Int32)), (0, .ref 157), (1, .int a), (2, .ref 19)]) (zml mf48 (by decide)) rfl ?_
  have w15L : ∀ (m : Nat) (w15x3 : Int32) (w15M : zM), (0 ≤ w15x3.toInt ∧ w15x3.toInt ≤ 4) → zSk zMc w15M → zIv cLo cHi w15M → zFr [(19, 30, none)] M w15M → 4 - w15x3.toInt ≤ (m : Int) → zGo X l 4 0 0 48 106 [(0, .ref 157), (1, .int a), (2, .ref 19), (3, .int w15x3)] [] w15M Q := by
    intro m
    induction m using Nat.strongRecOn with
    | ind w15m w15ih =>
      intro w15x3 w15M w15b3 w15s w15I w15F w15q
      refine zs_iload_n (pc := 106) t48_106 rfl ?_
      refine zs_iload_n (pc := 107) t48_107 rfl ?_
      refine zs_invS (pc := 108) (as := [.int a]) (st := [.int w15x3]) t48_108 (by decide) mf32 rfl rfl ⟨by decide, by decide, Nat.le_of_ble_eq_true rfl, Nat.le_of_ble_eq_true rfl⟩ (C32 w15s w15I ?_) (fun _ _ q => q)
      intro w16v w16a w16b
      show zGo X l 4 0 0 48 111 [(0, .ref 157), (1, .int a), (2, .ref 19), (3, .int w15x3)] [.int w16v, .int w15x3] w15M _
      by_cases w17 : w16v.toInt ≤ w15x3.toInt
      · refine zs_icmp_geT (pc := 111) t48_111 rfl rfl (by omega) ?_
        refine zs_iconst (pc := 136) t48_136 (v := 1) (by decide) ?_
        exact zs_iret (pc := 137) t48_137 mr48 (by decide) (hQ _ _ w15s w15I ((zFr.refl).trans (w15F.mono rfl)) (by decide) (by decide))
      · refine zs_icmp_geF (pc := 111) t48_111 rfl rfl (by omega) ?_
        refine zs_aload_n (pc := 114) t48_114 rfl ?_
        refine zs_iload_n (pc := 115) t48_115 rfl ?_
        refine zs_invS (pc := 116) (as := [.int a]) (st := [.ref 19]) t48_116 (by decide) mf45 rfl rfl ⟨by decide, by decide, Nat.le_of_ble_eq_true rfl, Nat.le_of_ble_eq_true rfl⟩ (C45 w15s w15I ?_) (fun _ _ q => q)
        intro w18v w18a w18b
        show zGo X l 4 0 0 48 119 [(0, .ref 157), (1, .int a), (2, .ref 19), (3, .int w15x3)] [.int w18v, .ref 19] w15M _
        refine zs_iload_n (pc := 119) t48_119 rfl ?_
        obtain ⟨w19v, w19e, w19⟩ := ziadd (a := w18v) (b := w15x3) rfl rfl (by omega) (by omega)
        refine zs_iadd (pc := 120) t48_120 (c := w19v) w19e ?_
        refine zs_aload_n (pc := 121) t48_121 rfl ?_
        refine zs_get (pc := 122) t48_122 (by decide) (zk1 (w15s.k fk_zMc_157)) (w15s.p rfl fv_zMc_157_0) ?_
        refine zs_iload_n (pc := 125) t48_125 rfl ?_
        obtain ⟨w20n, w20⟩ : ∃ n : Nat, w15x3.toInt = (n : Int) := ⟨w15x3.toInt.toNat, by omega⟩
        have w21 := ib158 hI w20n
        refine zs_iald (pc := 126) t48_126 (j := w20n) (by decide) (zk1 (w15s.k fk_zMc_158)) w20 (zk2 (w15s.k fk_zMc_158) (by omega)) ((w15F 158 w20n rfl).trans rfl) ?_
        refine zs_invV (pc := 127) (k := 19) (as' := [.int w19v, .int (zI M 158 w20n)]) (st := []) t48_127 mf56 rfl rfl (Or.inl ⟨by decide, (zk1 (w15s.k fk_zMc_19))⟩) ⟨by decide, by decide, Nat.le_of_ble_eq_true rfl, Nat.le_of_ble_eq_true rfl⟩ (zs_in (by decide) mf56 (Nat.le_of_ble_eq_true rfl) ?_) (fun _ _ q => q)
        show zGo X l 0 0 0 56 0 [(0, .ref 19), (1, .int w19v), (2, .int (zI M 158 w20n))] [] w15M _
        refine zs_iload_n (pc := 0) t56_0 rfl ?_
        refine zs_if_ltF (pc := 1) t56_1 w19 (by omega) ?_
        refine zs_iload_n (pc := 4) t56_4 rfl ?_
        refine zs_bipush (pc := 5) t56_5 (v := 9) (by decide) ?_
        by_cases w22 : 9 ≤ (w18v.toInt + w15x3.toInt)
        · refine zs_icmp_geT (pc := 7) t56_7 w19 li9 (by omega) ?_
          refine zs_vret (pc := 17) t56_17 mr56 ?_
          show zGo X l 4 0 0 48 130 [(0, .ref 157), (1, .int a), (2, .ref 19), (3, .int w15x3)] [] w15M _
          obtain ⟨w23v, w23e, w23⟩ := ziadd (a := w15x3) (b := Int32.ofInt 1) rfl (show (Int32.ofInt 1).toInt = 1 by decide) (by omega) (by omega)
          refine zs_iinc (pc := 130) t48_130 (ls' := [(3, .int w23v), (0, .ref 157), (1, .int a), (2, .ref 19)]) (zml mf48 (by decide)) rfl (c := w23v) w23e rfl ?_
          refine zs_goto (pc := 133) t48_133 ?_
          refine zGo.locals (ls' := [(0, .ref 157), (1, .int a), (2, .ref 19), (3, .int w23v)]) (by simp) ?_
          exact w15ih (w15m - 1) (by omega) w23v w15M ⟨by omega, by omega⟩ w15s w15I ((zFr.refl).trans (w15F.mono rfl)) (by omega)
        · refine zs_icmp_geF (pc := 7) t56_7 w19 li9 (by omega) ?_
          refine zs_aload_n (pc := 10) t56_10 rfl ?_
          refine zs_get (pc := 11) t56_11 (by decide) (zk1 (w15s.k fk_zMc_19)) (w15s.p rfl fv_zMc_19_12) ?_
          refine zs_iload_n (pc := 14) t56_14 rfl ?_
          refine zs_iload_n (pc := 15) t56_15 rfl ?_
          obtain ⟨w24n, w24⟩ : ∃ n : Nat, w19v.toInt = (n : Int) := ⟨w19v.toInt.toNat, by omega⟩
          have w25 : zIv cLo cHi (zsI w15M 29 w24n (zI M 158 w20n)) := zIv.put w15I (show (-2147483648) ≤ (zI M 158 w20n).toInt ∧ (zI M 158 w20n).toInt ≤ 2147483647 from (zrg (zI M 158 w20n)))
          refine zs_iast (pc := 16) t56_16 (j := w24n) (by decide) (zk1 (w15s.k fk_zMc_29)) w24 (zk2 (w15s.k fk_zMc_29) (by omega)) ?_
          refine zs_vret (pc := 17) t56_17 mr56 ?_
          show zGo X l 4 0 0 48 130 [(0, .ref 157), (1, .int a), (2, .ref 19), (3, .int w15x3)] [] (zsI w15M 29 w24n (zI M 158 w20n)) _
          obtain ⟨w26v, w26e, w26⟩ := ziadd (a := w15x3) (b := Int32.ofInt 1) rfl (show (Int32.ofInt 1).toInt = 1 by decide) (by omega) (by omega)
          refine zs_iinc (pc := 130) t48_130 (ls' := [(3, .int w26v), (0, .ref 157), (1, .int a), (2, .ref 19)]) (zml mf48 (by decide)) rfl (c := w26v) w26e rfl ?_
          refine zs_goto (pc := 133) t48_133 ?_
          refine zGo.locals (ls' := [(0, .ref 157), (1, .int a), (2, .ref 19), (3, .int w26v)]) (by simp) ?_
          exact w15ih (w15m - 1) (by omega) w26v (zsI w15M 29 w24n (zI M 158 w20n)) ⟨by omega, by omega⟩ w15s w25 (((zFr.refl).trans (w15F.mono rfl)).put rfl) (by omega)
  refine zGo.locals (ls' := [(0, .ref 157), (1, .int a), (2, .ref 19), (3, .int (0 : Int32))]) (by simp) ?_
  have w27 := li0
  exact w15L ((4 - 0 : Int).toNat) (0 : Int32) M ⟨by decide, by decide⟩ hs hI zFr.refl (by omega)
theorem C28_157_155_19 {X : zX} {l : Launch} {M : zM} {Q : Option Value → zM → Prop} (hs : zSk zMc M) (hI : zIv cLo cHi M) (hQ : ∀ (M' : zM) (v : Int32), zSk zMc M' → zIv cLo cHi M' → zFr [(157, 160, none), (155, 155, none), (19, 30, none)] M M' → 0 ≤ v.toInt → v.toInt ≤ 1 → Q (some (.int v)) M') : zCall X l 5 0 0 28 [.ref 157, .ref 155, .ref 19] M Q := by
  refine zs_in (by decide) mf28 (Nat.le_of_ble_eq_true rfl) ?_
  show zGo X l 5 0 0 28 0 [(0, .ref 157), (1, .ref 155), (2, .ref 19)] [] M _
  refine zs_aload_n (pc := 0) t28_0 rfl ?_
  refine zs_invV (pc := 1) (k := 155) (as' := []) (st := []) t28_1 mf29 rfl rfl (Or.inl ⟨by decide, (zk1 (hs.k fk_zMc_155))⟩) ⟨by decide, by decide, Nat.le_of_ble_eq_true rfl, Nat.le_of_ble_eq_true rfl⟩ (zs_in (by decide) mf29 (Nat.le_of_ble_eq_true rfl) ?_) (fun _ _ q => q)
  show zGo X l 0 0 0 29 0 [(0, .ref 155)] [] M _
  refine zs_aload_n (pc := 0) t29_0 rfl ?_
  have w1 := ib155_2 hI
  refine zs_get (pc := 1) t29_1 (by decide) (zk1 (hs.k fk_zMc_155)) (zfvi rfl rfl) ?_
  refine zs_iret (pc := 4) t29_4 mr29 rfl ?_
  show zGo X l 5 0 0 28 4 [(0, .ref 157), (1, .ref 155), (2, .ref 19)] [.int (zI M 155 2)] M _
  refine zs_istore_n (pc := 4) t28_4 (ls' := [(3, .int (zI M 155 2)), (0, .ref 157), (1, .ref 155), (2, .ref 19)]) (zml mf28 (by decide)) rfl ?_
  refine zs_aload_n (pc := 5) t28_5 rfl ?_
  refine zs_invV (pc := 6) (k := 155) (as' := []) (st := []) t28_6 mf30 rfl rfl (Or.inl ⟨by decide, (zk1 (hs.k fk_zMc_155))⟩) ⟨by decide, by decide, Nat.le_of_ble_eq_true rfl, Nat.le_of_ble_eq_true rfl⟩ (C30_155 hs hI ?_) (fun _ _ q => q)
  intro w2M w2v w2s w2I w2F w2a w2b
  show zGo X l 5 0 0 28 9 [(3, .int (zI M 155 2)), (0, .ref 157), (1, .ref 155), (2, .ref 19)] [.int w2v] w2M _
  refine zs_istore (pc := 9) t28_9 (ls' := [(4, .int w2v), (3, .int (zI M 155 2)), (0, .ref 157), (1, .ref 155), (2, .ref 19)]) (zml mf28 (by decide)) rfl ?_
  refine zs_iload (pc := 11) t28_11 rfl ?_
  refine zs_invS (pc := 13) (as := [.int w2v]) (st := []) t28_13 (by decide) mf32 rfl rfl ⟨by decide, by decide, Nat.le_of_ble_eq_true rfl, Nat.le_of_ble_eq_true rfl⟩ (C32 w2s w2I ?_) (fun _ _ q => q)
  intro w3v w3a w3b
  show zGo X l 5 0 0 28 16 [(4, .int w2v), (3, .int (zI M 155 2)), (0, .ref 157), (1, .ref 155), (2, .ref 19)] [.int w3v] w2M _
  refine zs_istore (pc := 16) t28_16 (ls' := [(5, .int w3v), (4, .int w2v), (3, .int (zI M 155 2)), (0, .ref 157), (1, .ref 155), (2, .ref 19)]) (zml mf28 (by decide)) rfl ?_
  refine zs_iload (pc := 18) t28_18 rfl ?_
  by_cases w4 : w3v.toInt = 0
  · refine zs_if_eqT (pc := 20) t28_20 rfl (by omega) ?_
    refine zs_aload_n (pc := 32) t28_32 rfl ?_
    refine zs_iload_n (pc := 33) t28_33 rfl ?_
    refine zs_invV (pc := 34) (k := 155) (as' := [.int (zI M 155 2)]) (st := []) t28_34 mf34 rfl rfl (Or.inl ⟨by decide, (zk1 (w2s.k fk_zMc_155))⟩) ⟨by decide, by decide, Nat.le_of_ble_eq_true rfl, Nat.le_of_ble_eq_true rfl⟩ (zs_in (by decide) mf34 (Nat.le_of_ble_eq_true rfl) ?_) (fun _ _ q => q)
    show zGo X l 0 0 0 34 0 [(0, .ref 155), (1, .int (zI M 155 2))] [] w2M _
    refine zs_aload_n (pc := 0) t34_0 rfl ?_
    refine zs_iload_n (pc := 1) t34_1 rfl ?_
    have w5 : zIv cLo cHi (zsI w2M 155 3 (zI M 155 2)) := zIv.put w2I (show (-2147483648) ≤ (zI M 155 2).toInt ∧ (zI M 155 2).toInt ≤ 2147483647 from (zrg (zI M 155 2)))
    refine zs_putI (pc := 2) t34_2 (zk1 (w2s.k fk_zMc_155)) rfl ?_
    refine zs_iconst (pc := 5) t34_5 (v := 0) (by decide) ?_
    refine zs_iret (pc := 6) t34_6 mr34 (by decide) ?_
    show zGo X l 5 0 0 28 37 [(5, .int w3v), (4, .int w2v), (3, .int (zI M 155 2)), (0, .ref 157), (1, .ref 155), (2, .ref 19)] [.int (0 : Int32)] (zsI w2M 155 3 (zI M 155 2)) _
    exact zs_iret (pc := 37) t28_37 mr28 (by decide) (hQ _ _ w2s w5 (((zFr.refl).trans (w2F.mono rfl)).put rfl) (by decide) (by decide))
  · refine zs_if_eqF (pc := 20) t28_20 rfl (by omega) ?_
    refine zs_iload (pc := 23) t28_23 rfl ?_
    refine zs_aload_n (pc := 25) t28_25 rfl ?_
    refine zs_invS (pc := 26) (as := [.int w2v, .ref 19]) (st := []) t28_26 (by decide) mf33 rfl rfl ⟨by decide, by decide, Nat.le_of_ble_eq_true rfl, Nat.le_of_ble_eq_true rfl⟩ (C33_19 w2s w2I ?_) (fun _ _ q => q)
    intro w6v w6a w6b
    show zGo X l 5 0 0 28 29 [(5, .int w3v), (4, .int w2v), (3, .int (zI M 155 2)), (0, .ref 157), (1, .ref 155), (2, .ref 19)] [.int w6v] w2M _
    by_cases w7 : w6v.toInt = 0
    · refine zs_if_eqT (pc := 29) t28_29 rfl (by omega) ?_
      refine zs_iconst (pc := 38) t28_38 (v := 0) (by decide) ?_
      refine zs_istore (pc := 39) t28_39 (ls' := [(6, .int (0 : Int32)), (5, .int w3v), (4, .int w2v), (3, .int (zI M 155 2)), (0, .ref 157), (1, .ref 155), (2, .ref 19)]) (zml mf28 (by decide)) rfl ?_
      have w8L : ∀ (m : Nat) (w8x6 : Int32) (w8M : zM), (0 ≤ w8x6.toInt ∧ w8x6.toInt ≤ 4) → zSk zMc w8M → zIv cLo cHi w8M → zFr [(157, 160, none), (155, 155, none), (19, 30, none)] w2M w8M → 4 - w8x6.toInt ≤ (m : Int) → zGo X l 5 0 0 28 41 [(0, .ref 157), (1, .ref 155), (2, .ref 19), (3, .int (zI M 155 2)), (4, .int w2v), (5, .int w3v), (6, .int w8x6)] [] w8M Q := by
        intro m
        induction m using Nat.strongRecOn with
        | ind w8m w8ih =>
          intro w8x6 w8M w8b6 w8s w8I w8F w8q
          refine zs_iload (pc := 41) t28_41 rfl ?_
          refine zs_iload (pc := 43) t28_43 rfl ?_
          by_cases w9 : w3v.toInt ≤ w8x6.toInt
          · refine zs_icmp_geT (pc := 45) t28_45 rfl rfl (by omega) ?_
            refine zs_aload_n (pc := 124) t28_124 rfl ?_
            refine zs_iload (pc := 125) t28_125 rfl ?_
            refine zs_aload_n (pc := 127) t28_127 rfl ?_
            refine zs_invV (pc := 128) (k := 157) (as' := [.int w2v, .ref 19]) (st := []) t28_128 mf48 rfl rfl (Or.inl ⟨by decide, (zk1 (w8s.k fk_zMc_157))⟩) ⟨by decide, by decide, Nat.le_of_ble_eq_true rfl, Nat.le_of_ble_eq_true rfl⟩ (C48_157_19 w8s w8I ?_) (fun _ _ q => q)
            intro w10M w10v w10s w10I w10F w10a w10b
            show zGo X l 5 0 0 28 131 [(0, .ref 157), (1, .ref 155), (2, .ref 19), (3, .int (zI M 155 2)), (4, .int w2v), (5, .int w3v), (6, .int w8x6)] [.int w10v] w10M _
            by_cases w11 : w10v.toInt ≠ 0
            · refine zs_if_neT (pc := 131) t28_131 rfl (by omega) ?_
              refine zs_iconst (pc := 142) t28_142 (v := 1) (by decide) ?_
              refine zs_goto (pc := 143) t28_143 ?_
              exact zs_iret (pc := 147) t28_147 mr28 (by decide) (hQ _ _ w10s w10I ((((zFr.refl).trans (w2F.mono rfl)).trans (w8F.mono rfl)).trans (w10F.mono rfl)) (by decide) (by decide))
            · refine zs_if_neF (pc := 131) t28_131 rfl (by omega) ?_
              refine zs_aload_n (pc := 134) t28_134 rfl ?_
              refine zs_iload_n (pc := 135) t28_135 rfl ?_
              refine zs_invV (pc := 136) (k := 155) (as' := [.int (zI M 155 2)]) (st := []) t28_136 mf34 rfl rfl (Or.inl ⟨by decide, (zk1 (w10s.k fk_zMc_155))⟩) ⟨by decide, by decide, Nat.le_of_ble_eq_true rfl, Nat.le_of_ble_eq_true rfl⟩ (zs_in (by decide) mf34 (Nat.le_of_ble_eq_true rfl) ?_) (fun _ _ q => q)
              show zGo X l 0 0 0 34 0 [(0, .ref 155), (1, .int (zI M 155 2))] [] w10M _
              refine zs_aload_n (pc := 0) t34_0 rfl ?_
              refine zs_iload_n (pc := 1) t34_1 rfl ?_
              have w12 : zIv cLo cHi (zsI w10M 155 3 (zI M 155 2)) := zIv.put w10I (show (-2147483648) ≤ (zI M 155 2).toInt ∧ (zI M 155 2).toInt ≤ 2147483647 from (zrg (zI M 155 2)))
              refine zs_putI (pc := 2) t34_2 (zk1 (w10s.k fk_zMc_155)) rfl ?_
              refine zs_iconst (pc := 5) t34_5 (v := 0) (by decide) ?_
              refine zs_iret (pc := 6) t34_6 mr34 (by decide) ?_
              show zGo X l 5 0 0 28 139 [(0, .ref 157), (1, .ref 155), (2, .ref 19), (3, .int (zI M 155 2)), (4, .int w2v), (5, .int w3v), (6, .int w8x6)] [.int (0 : Int32)] (zsI w10M 155 3 (zI M 155 2)) _
              refine zs_if_eqT (pc := 139) t28_139 li0 (by decide) ?_
              refine zs_iconst (pc := 146) t28_146 (v := 0) (by decide) ?_
              exact zs_iret (pc := 147) t28_147 mr28 (by decide) (hQ _ _ w10s w12 (((((zFr.refl).trans (w2F.mono rfl)).trans (w8F.mono rfl)).trans (w10F.mono rfl)).put rfl) (by decide) (by decide))
          · refine zs_icmp_geF (pc := 45) t28_45 rfl rfl (by omega) ?_
            refine zs_aload_n (pc := 48) t28_48 rfl ?_
            refine zs_invV (pc := 49) (k := 155) (as' := []) (st := []) t28_49 mf35 rfl rfl (Or.inl ⟨by decide, (zk1 (w8s.k fk_zMc_155))⟩) ⟨by decide, by decide, Nat.le_of_ble_eq_true rfl, Nat.le_of_ble_eq_true rfl⟩ (C35_155 w8s w8I ?_) (fun _ _ q => q)
            intro w13M w13v w13s w13I w13F w13a w13b
            show zGo X l 5 0 0 28 52 [(0, .ref 157), (1, .ref 155), (2, .ref 19), (3, .int (zI M 155 2)), (4, .int w2v), (5, .int w3v), (6, .int w8x6)] [.int w13v] w13M _
            by_cases w14 : w13v.toInt ≠ 0
            · refine zs_if_neT (pc := 52) t28_52 rfl (by omega) ?_
              refine zs_aload_n (pc := 57) t28_57 rfl ?_
              refine zs_iload (pc := 58) t28_58 rfl ?_
              refine zs_iload (pc := 60) t28_60 rfl ?_
              refine zs_aload_n (pc := 62) t28_62 rfl ?_
              refine zs_invV (pc := 63) (k := 155) (as' := []) (st := [.int w8x6, .int w2v, .ref 157]) t28_63 mf37 rfl rfl (Or.inl ⟨by decide, (zk1 (w13s.k fk_zMc_155))⟩) ⟨by decide, by decide, Nat.le_of_ble_eq_true rfl, Nat.le_of_ble_eq_true rfl⟩ (zs_in (by decide) mf37 (Nat.le_of_ble_eq_true rfl) ?_) (fun _ _ q => q)
              show zGo X l 0 0 0 37 0 [(0, .ref 155)] [] w13M _
              refine zs_aload_n (pc := 0) t37_0 rfl ?_
              have w15 := ib155_4 w13I
              refine zs_get (pc := 1) t37_1 (by decide) (zk1 (w13s.k fk_zMc_155)) (zfvi rfl rfl) ?_
              refine zs_iret (pc := 4) t37_4 mr37 rfl ?_
              show zGo X l 5 0 0 28 66 [(0, .ref 157), (1, .ref 155), (2, .ref 19), (3, .int (zI M 155 2)), (4, .int w2v), (5, .int w3v), (6, .int w8x6)] [.int (zI w13M 155 4), .int w8x6, .int w2v, .ref 157] w13M _
              refine zs_aload_n (pc := 66) t28_66 rfl ?_
              refine zs_invV (pc := 67) (k := 157) (as' := [.int w2v, .int w8x6, .int (zI w13M 155 4), .ref 19]) (st := []) t28_67 mf38 rfl rfl (Or.inl ⟨by decide, (zk1 (w13s.k fk_zMc_157))⟩) ⟨by decide, by decide, Nat.le_of_ble_eq_true rfl, Nat.le_of_ble_eq_true rfl⟩ (C38_157_19 w13s w13I ⟨by omega, by omega⟩ ?_) (fun _ _ q => q)
              intro w16v w16a w16b
              show zGo X l 5 0 0 28 70 [(0, .ref 157), (1, .ref 155), (2, .ref 19), (3, .int (zI M 155 2)), (4, .int w2v), (5, .int w3v), (6, .int w8x6)] [.int w16v] w13M _
              by_cases w17 : w16v.toInt ≠ 0
              · refine zs_if_neT (pc := 70) t28_70 rfl (by omega) ?_
                refine zs_aload_n (pc := 82) t28_82 rfl ?_
                refine zs_get (pc := 83) t28_83 (by decide) (zk1 (w13s.k fk_zMc_157)) (w13s.p rfl fv_zMc_157_0) ?_
                refine zs_iload (pc := 86) t28_86 rfl ?_
                refine zs_aload_n (pc := 88) t28_88 rfl ?_
                refine zs_invV (pc := 89) (k := 155) (as' := []) (st := [.int w8x6, .ref 158]) t28_89 mf37 rfl rfl (Or.inl ⟨by decide, (zk1 (w13s.k fk_zMc_155))⟩) ⟨by decide, by decide, Nat.le_of_ble_eq_true rfl, Nat.le_of_ble_eq_true rfl⟩ (zs_in (by decide) mf37 (Nat.le_of_ble_eq_true rfl) ?_) (fun _ _ q => q)
                show zGo X l 0 0 0 37 0 [(0, .ref 155)] [] w13M _
                refine zs_aload_n (pc := 0) t37_0 rfl ?_
                refine zs_get (pc := 1) t37_1 (by decide) (zk1 (w13s.k fk_zMc_155)) (zfvi rfl rfl) ?_
                refine zs_iret (pc := 4) t37_4 mr37 rfl ?_
                show zGo X l 5 0 0 28 92 [(0, .ref 157), (1, .ref 155), (2, .ref 19), (3, .int (zI M 155 2)), (4, .int w2v), (5, .int w3v), (6, .int w8x6)] [.int (zI w13M 155 4), .int w8x6, .ref 158] w13M _
                obtain ⟨w18n, w18⟩ : ∃ n : Nat, w8x6.toInt = (n : Int) := ⟨w8x6.toInt.toNat, by omega⟩
                have w19 : zIv cLo cHi (zsI w13M 158 w18n (zI w13M 155 4)) := zIv.put w13I (show (-2147483648) ≤ (zI w13M 155 4).toInt ∧ (zI w13M 155 4).toInt ≤ 2147483647 from (zrg (zI w13M 155 4)))
                refine zs_iast (pc := 92) t28_92 (j := w18n) (by decide) (zk1 (w13s.k fk_zMc_158)) w18 (zk2 (w13s.k fk_zMc_158) (by omega)) ?_
                refine zs_aload_n (pc := 93) t28_93 rfl ?_
                refine zs_iload (pc := 94) t28_94 rfl ?_
                refine zs_iconst (pc := 96) t28_96 (v := 1) (by decide) ?_
                obtain ⟨w20v, w20e, w20⟩ := ziadd (a := w8x6) (b := (1 : Int32)) rfl li1 (by omega) (by omega)
                refine zs_iadd (pc := 97) t28_97 (c := w20v) w20e ?_
                refine zs_iload (pc := 98) t28_98 rfl ?_
                by_cases w21 : w3v.toInt ≤ (w8x6.toInt + 1)
                · refine zs_icmp_geT (pc := 100) t28_100 w20 rfl (by omega) ?_
                  refine zs_bipush (pc := 108) t28_108 (v := 59) (by decide) ?_
                  refine zs_invV (pc := 110) (k := 155) (as' := [.int (59 : Int32)]) (st := []) t28_110 mf47 rfl rfl (Or.inl ⟨by decide, (zk1 (w13s.k fk_zMc_155))⟩) ⟨by decide, by decide, Nat.le_of_ble_eq_true rfl, Nat.le_of_ble_eq_true rfl⟩ (zs_in (by decide) mf47 (Nat.le_of_ble_eq_true rfl) ?_) (fun _ _ q => q)
                  show zGo X l 1 0 0 47 0 [(0, .ref 155), (1, .int (59 : Int32))] [] (zsI w13M 158 w18n (zI w13M 155 4)) _
                  refine zs_aload_n (pc := 0) t47_0 rfl ?_
                  refine zs_invV (pc := 1) (k := 155) (as' := []) (st := []) t47_1 mf31 rfl rfl (Or.inl ⟨by decide, (zk1 (w13s.k fk_zMc_155))⟩) ⟨by decide, by decide, Nat.le_of_ble_eq_true rfl, Nat.le_of_ble_eq_true rfl⟩ (C31_155 w13s w19 ?_) (fun _ _ q => q)
                  intro w22v w22a w22b
                  show zGo X l 1 0 0 47 4 [(0, .ref 155), (1, .int (59 : Int32))] [.int w22v] (zsI w13M 158 w18n (zI w13M 155 4)) _
                  refine zs_iload_n (pc := 4) t47_4 rfl ?_
                  by_cases w23 : w22v.toInt = 59
                  · refine zs_icmp_eqT (pc := 5) t47_5 rfl li59 (by omega) ?_
                    refine zs_aload_n (pc := 17) t47_17 rfl ?_
                    refine zs_dup (pc := 18) t47_18 rfl ?_
                    have w24 := ib155_2 w13I
                    refine zs_get (pc := 19) t47_19 (by decide) (zk1 (w13s.k fk_zMc_155)) (zfvi rfl ((zIo (by decide)).trans rfl)) ?_
                    refine zs_iconst (pc := 22) t47_22 (v := 1) (by decide) ?_
                    obtain ⟨w25v, w25⟩ : ∃ v, v = (zI w13M 155 2) + (1 : Int32) := ⟨_, rfl⟩
                    have w25g := zrg w25v
                    refine zs_iadd (pc := 23) t47_23 (c := w25v) w25.symm ?_
                    have w26 : zIv cLo cHi (zsI (zsI w13M 158 w18n (zI w13M 155 4)) 155 2 w25v) := zIv.put w19 (show (-2147483648) ≤ w25v.toInt ∧ w25v.toInt ≤ 2147483647 from (zrg w25v))
                    refine zs_putI (pc := 24) t47_24 (zk1 (w13s.k fk_zMc_155)) rfl ?_
                    refine zs_iconst (pc := 27) t47_27 (v := 1) (by decide) ?_
                    refine zs_iret (pc := 28) t47_28 mr47 (by decide) ?_
                    show zGo X l 5 0 0 28 113 [(0, .ref 157), (1, .ref 155), (2, .ref 19), (3, .int (zI M 155 2)), (4, .int w2v), (5, .int w3v), (6, .int w8x6)] [.int (1 : Int32)] (zsI (zsI w13M 158 w18n (zI w13M 155 4)) 155 2 w25v) _
                    refine zs_if_neT (pc := 113) t28_113 li1 (by decide) ?_
                    obtain ⟨w27v, w27e, w27⟩ := ziadd (a := w8x6) (b := Int32.ofInt 1) rfl (show (Int32.ofInt 1).toInt = 1 by decide) (by omega) (by omega)
                    refine zs_iinc (pc := 118) t28_118 (ls' := [(6, .int w27v), (0, .ref 157), (1, .ref 155), (2, .ref 19), (3, .int (zI M 155 2)), (4, .int w2v), (5, .int w3v)]) (zml mf28 (by decide)) rfl (c := w27v) w27e rfl ?_
                    refine zs_goto (pc := 121) t28_121 ?_
                    refine zGo.locals (ls' := [(0, .ref 157), (1, .ref 155), (2, .ref 19), (3, .int (zI M 155 2)), (4, .int w2v), (5, .int w3v), (6, .int w27v)]) (by simp) ?_
                    exact w8ih (w8m - 1) (by omega) w27v (zsI (zsI w13M 158 w18n (zI w13M 155 4)) 155 2 w25v) ⟨by omega, by omega⟩ w13s w26 (((((zFr.refl).trans (w8F.mono rfl)).trans (w13F.mono rfl)).put rfl).put rfl) (by omega)
                  · refine zs_icmp_eqF (pc := 5) t47_5 rfl li59 (by omega) ?_
                    refine zs_aload_n (pc := 8) t47_8 rfl ?_
                    refine zs_aload_n (pc := 9) t47_9 rfl ?_
                    have w28 := ib155_2 w13I
                    refine zs_get (pc := 10) t47_10 (by decide) (zk1 (w13s.k fk_zMc_155)) (zfvi rfl ((zIo (by decide)).trans rfl)) ?_
                    refine zs_invV (pc := 13) (k := 155) (as' := [.int (zI w13M 155 2)]) (st := []) t47_13 mf34 rfl rfl (Or.inl ⟨by decide, (zk1 (w13s.k fk_zMc_155))⟩) ⟨by decide, by decide, Nat.le_of_ble_eq_true rfl, Nat.le_of_ble_eq_true rfl⟩ (zs_in (by decide) mf34 (Nat.le_of_ble_eq_true rfl) ?_) (fun _ _ q => q)
                    show zGo X l 0 0 0 34 0 [(0, .ref 155), (1, .int (zI w13M 155 2))] [] (zsI w13M 158 w18n (zI w13M 155 4)) _
                    refine zs_aload_n (pc := 0) t34_0 rfl ?_
                    refine zs_iload_n (pc := 1) t34_1 rfl ?_
                    have w29 : zIv cLo cHi (zsI (zsI w13M 158 w18n (zI w13M 155 4)) 155 3 (zI w13M 155 2)) := zIv.put w19 (show (-2147483648) ≤ (zI w13M 155 2).toInt ∧ (zI w13M 155 2).toInt ≤ 2147483647 from (zrg (zI w13M 155 2)))
                    refine zs_putI (pc := 2) t34_2 (zk1 (w13s.k fk_zMc_155)) rfl ?_
                    refine zs_iconst (pc := 5) t34_5 (v := 0) (by decide) ?_
                    refine zs_iret (pc := 6) t34_6 mr34 (by decide) ?_
                    show zGo X l 1 0 0 47 16 [(0, .ref 155), (1, .int (59 : Int32))] [.int (0 : Int32)] (zsI (zsI w13M 158 w18n (zI w13M 155 4)) 155 3 (zI w13M 155 2)) _
                    refine zs_iret (pc := 16) t47_16 mr47 (by decide) ?_
                    show zGo X l 5 0 0 28 113 [(0, .ref 157), (1, .ref 155), (2, .ref 19), (3, .int (zI M 155 2)), (4, .int w2v), (5, .int w3v), (6, .int w8x6)] [.int (0 : Int32)] (zsI (zsI w13M 158 w18n (zI w13M 155 4)) 155 3 (zI w13M 155 2)) _
                    refine zs_if_neF (pc := 113) t28_113 li0 (by decide) ?_
                    refine zs_iconst (pc := 116) t28_116 (v := 0) (by decide) ?_
                    exact zs_iret (pc := 117) t28_117 mr28 (by decide) (hQ _ _ w13s w29 ((((((zFr.refl).trans (w2F.mono rfl)).trans (w8F.mono rfl)).trans (w13F.mono rfl)).put rfl).put rfl) (by decide) (by decide))
                · refine zs_icmp_geF (pc := 100) t28_100 w20 rfl (by omega) ?_
                  refine zs_bipush (pc := 103) t28_103 (v := 44) (by decide) ?_
                  refine zs_goto (pc := 105) t28_105 ?_
                  refine zs_invV (pc := 110) (k := 155) (as' := [.int (44 : Int32)]) (st := []) t28_110 mf47 rfl rfl (Or.inl ⟨by decide, (zk1 (w13s.k fk_zMc_155))⟩) ⟨by decide, by decide, Nat.le_of_ble_eq_true rfl, Nat.le_of_ble_eq_true rfl⟩ (zs_in (by decide) mf47 (Nat.le_of_ble_eq_true rfl) ?_) (fun _ _ q => q)
                  show zGo X l 1 0 0 47 0 [(0, .ref 155), (1, .int (44 : Int32))] [] (zsI w13M 158 w18n (zI w13M 155 4)) _
                  refine zs_aload_n (pc := 0) t47_0 rfl ?_
                  refine zs_invV (pc := 1) (k := 155) (as' := []) (st := []) t47_1 mf31 rfl rfl (Or.inl ⟨by decide, (zk1 (w13s.k fk_zMc_155))⟩) ⟨by decide, by decide, Nat.le_of_ble_eq_true rfl, Nat.le_of_ble_eq_true rfl⟩ (C31_155 w13s w19 ?_) (fun _ _ q => q)
                  intro w30v w30a w30b
                  show zGo X l 1 0 0 47 4 [(0, .ref 155), (1, .int (44 : Int32))] [.int w30v] (zsI w13M 158 w18n (zI w13M 155 4)) _
                  refine zs_iload_n (pc := 4) t47_4 rfl ?_
                  by_cases w31 : w30v.toInt = 44
                  · refine zs_icmp_eqT (pc := 5) t47_5 rfl li44 (by omega) ?_
                    refine zs_aload_n (pc := 17) t47_17 rfl ?_
                    refine zs_dup (pc := 18) t47_18 rfl ?_
                    have w32 := ib155_2 w13I
                    refine zs_get (pc := 19) t47_19 (by decide) (zk1 (w13s.k fk_zMc_155)) (zfvi rfl ((zIo (by decide)).trans rfl)) ?_
                    refine zs_iconst (pc := 22) t47_22 (v := 1) (by decide) ?_
                    obtain ⟨w33v, w33⟩ : ∃ v, v = (zI w13M 155 2) + (1 : Int32) := ⟨_, rfl⟩
                    have w33g := zrg w33v
                    refine zs_iadd (pc := 23) t47_23 (c := w33v) w33.symm ?_
                    have w34 : zIv cLo cHi (zsI (zsI w13M 158 w18n (zI w13M 155 4)) 155 2 w33v) := zIv.put w19 (show (-2147483648) ≤ w33v.toInt ∧ w33v.toInt ≤ 2147483647 from (zrg w33v))
                    refine zs_putI (pc := 24) t47_24 (zk1 (w13s.k fk_zMc_155)) rfl ?_
                    refine zs_iconst (pc := 27) t47_27 (v := 1) (by decide) ?_
                    refine zs_iret (pc := 28) t47_28 mr47 (by decide) ?_
                    show zGo X l 5 0 0 28 113 [(0, .ref 157), (1, .ref 155), (2, .ref 19), (3, .int (zI M 155 2)), (4, .int w2v), (5, .int w3v), (6, .int w8x6)] [.int (1 : Int32)] (zsI (zsI w13M 158 w18n (zI w13M 155 4)) 155 2 w33v) _
                    refine zs_if_neT (pc := 113) t28_113 li1 (by decide) ?_
                    obtain ⟨w35v, w35e, w35⟩ := ziadd (a := w8x6) (b := Int32.ofInt 1) rfl (show (Int32.ofInt 1).toInt = 1 by decide) (by omega) (by omega)
                    refine zs_iinc (pc := 118) t28_118 (ls' := [(6, .int w35v), (0, .ref 157), (1, .ref 155), (2, .ref 19), (3, .int (zI M 155 2)), (4, .int w2v), (5, .int w3v)]) (zml mf28 (by decide)) rfl (c := w35v) w35e rfl ?_
                    refine zs_goto (pc := 121) t28_121 ?_
                    refine zGo.locals (ls' := [(0, .ref 157), (1, .ref 155), (2, .ref 19), (3, .int (zI M 155 2)), (4, .int w2v), (5, .int w3v), (6, .int w35v)]) (by simp) ?_
                    exact w8ih (w8m - 1) (by omega) w35v (zsI (zsI w13M 158 w18n (zI w13M 155 4)) 155 2 w33v) ⟨by omega, by omega⟩ w13s w34 (((((zFr.refl).trans (w8F.mono rfl)).trans (w13F.mono rfl)).put rfl).put rfl) (by omega)
                  · refine zs_icmp_eqF (pc := 5) t47_5 rfl li44 (by omega) ?_
                    refine zs_aload_n (pc := 8) t47_8 rfl ?_
                    refine zs_aload_n (pc := 9) t47_9 rfl ?_
                    have w36 := ib155_2 w13I
                    refine zs_get (pc := 10) t47_10 (by decide) (zk1 (w13s.k fk_zMc_155)) (zfvi rfl ((zIo (by decide)).trans rfl)) ?_
                    refine zs_invV (pc := 13) (k := 155) (as' := [.int (zI w13M 155 2)]) (st := []) t47_13 mf34 rfl rfl (Or.inl ⟨by decide, (zk1 (w13s.k fk_zMc_155))⟩) ⟨by decide, by decide, Nat.le_of_ble_eq_true rfl, Nat.le_of_ble_eq_true rfl⟩ (zs_in (by decide) mf34 (Nat.le_of_ble_eq_true rfl) ?_) (fun _ _ q => q)
                    show zGo X l 0 0 0 34 0 [(0, .ref 155), (1, .int (zI w13M 155 2))] [] (zsI w13M 158 w18n (zI w13M 155 4)) _
                    refine zs_aload_n (pc := 0) t34_0 rfl ?_
                    refine zs_iload_n (pc := 1) t34_1 rfl ?_
                    have w37 : zIv cLo cHi (zsI (zsI w13M 158 w18n (zI w13M 155 4)) 155 3 (zI w13M 155 2)) := zIv.put w19 (show (-2147483648) ≤ (zI w13M 155 2).toInt ∧ (zI w13M 155 2).toInt ≤ 2147483647 from (zrg (zI w13M 155 2)))
                    refine zs_putI (pc := 2) t34_2 (zk1 (w13s.k fk_zMc_155)) rfl ?_
                    refine zs_iconst (pc := 5) t34_5 (v := 0) (by decide) ?_
                    refine zs_iret (pc := 6) t34_6 mr34 (by decide) ?_
                    show zGo X l 1 0 0 47 16 [(0, .ref 155), (1, .int (44 : Int32))] [.int (0 : Int32)] (zsI (zsI w13M 158 w18n (zI w13M 155 4)) 155 3 (zI w13M 155 2)) _
                    refine zs_iret (pc := 16) t47_16 mr47 (by decide) ?_
                    show zGo X l 5 0 0 28 113 [(0, .ref 157), (1, .ref 155), (2, .ref 19), (3, .int (zI M 155 2)), (4, .int w2v), (5, .int w3v), (6, .int w8x6)] [.int (0 : Int32)] (zsI (zsI w13M 158 w18n (zI w13M 155 4)) 155 3 (zI w13M 155 2)) _
                    refine zs_if_neF (pc := 113) t28_113 li0 (by decide) ?_
                    refine zs_iconst (pc := 116) t28_116 (v := 0) (by decide) ?_
                    exact zs_iret (pc := 117) t28_117 mr28 (by decide) (hQ _ _ w13s w37 ((((((zFr.refl).trans (w2F.mono rfl)).trans (w8F.mono rfl)).trans (w13F.mono rfl)).put rfl).put rfl) (by decide) (by decide))
              · refine zs_if_neF (pc := 70) t28_70 rfl (by omega) ?_
                refine zs_aload_n (pc := 73) t28_73 rfl ?_
                refine zs_aload_n (pc := 74) t28_74 rfl ?_
                refine zs_invV (pc := 75) (k := 155) (as' := []) (st := [.ref 155]) t28_75 mf46 rfl rfl (Or.inl ⟨by decide, (zk1 (w13s.k fk_zMc_155))⟩) ⟨by decide, by decide, Nat.le_of_ble_eq_true rfl, Nat.le_of_ble_eq_true rfl⟩ (zs_in (by decide) mf46 (Nat.le_of_ble_eq_true rfl) ?_) (fun _ _ q => q)
                show zGo X l 0 0 0 46 0 [(0, .ref 155)] [] w13M _
                refine zs_aload_n (pc := 0) t46_0 rfl ?_
                have w38 := ib155_5 w13I
                refine zs_get (pc := 1) t46_1 (by decide) (zk1 (w13s.k fk_zMc_155)) (zfvi rfl rfl) ?_
                refine zs_iret (pc := 4) t46_4 mr46 rfl ?_
                show zGo X l 5 0 0 28 78 [(0, .ref 157), (1, .ref 155), (2, .ref 19), (3, .int (zI M 155 2)), (4, .int w2v), (5, .int w3v), (6, .int w8x6)] [.int (zI w13M 155 5), .ref 155] w13M _
                refine zs_invV (pc := 78) (k := 155) (as' := [.int (zI w13M 155 5)]) (st := []) t28_78 mf34 rfl rfl (Or.inl ⟨by decide, (zk1 (w13s.k fk_zMc_155))⟩) ⟨by decide, by decide, Nat.le_of_ble_eq_true rfl, Nat.le_of_ble_eq_true rfl⟩ (zs_in (by decide) mf34 (Nat.le_of_ble_eq_true rfl) ?_) (fun _ _ q => q)
                show zGo X l 0 0 0 34 0 [(0, .ref 155), (1, .int (zI w13M 155 5))] [] w13M _
                refine zs_aload_n (pc := 0) t34_0 rfl ?_
                refine zs_iload_n (pc := 1) t34_1 rfl ?_
                have w39 : zIv cLo cHi (zsI w13M 155 3 (zI w13M 155 5)) := zIv.put w13I (show (-2147483648) ≤ (zI w13M 155 5).toInt ∧ (zI w13M 155 5).toInt ≤ 2147483647 from (zrg (zI w13M 155 5)))
                refine zs_putI (pc := 2) t34_2 (zk1 (w13s.k fk_zMc_155)) rfl ?_
                refine zs_iconst (pc := 5) t34_5 (v := 0) (by decide) ?_
                refine zs_iret (pc := 6) t34_6 mr34 (by decide) ?_
                show zGo X l 5 0 0 28 81 [(0, .ref 157), (1, .ref 155), (2, .ref 19), (3, .int (zI M 155 2)), (4, .int w2v), (5, .int w3v), (6, .int w8x6)] [.int (0 : Int32)] (zsI w13M 155 3 (zI w13M 155 5)) _
                exact zs_iret (pc := 81) t28_81 mr28 (by decide) (hQ _ _ w13s w39 (((((zFr.refl).trans (w2F.mono rfl)).trans (w8F.mono rfl)).trans (w13F.mono rfl)).put rfl) (by decide) (by decide))
            · refine zs_if_neF (pc := 52) t28_52 rfl (by omega) ?_
              refine zs_iconst (pc := 55) t28_55 (v := 0) (by decide) ?_
              exact zs_iret (pc := 56) t28_56 mr28 (by decide) (hQ _ _ w13s w13I ((((zFr.refl).trans (w2F.mono rfl)).trans (w8F.mono rfl)).trans (w13F.mono rfl)) (by decide) (by decide))
      refine zGo.locals (ls' := [(0, .ref 157), (1, .ref 155), (2, .ref 19), (3, .int (zI M 155 2)), (4, .int w2v), (5, .int w3v), (6, .int (0 : Int32))]) (by simp) ?_
      have w40 := li0
      exact w8L ((4 - 0 : Int).toNat) (0 : Int32) w2M ⟨by decide, by decide⟩ w2s w2I zFr.refl (by omega)
    · refine zs_if_eqF (pc := 29) t28_29 rfl (by omega) ?_
      refine zs_aload_n (pc := 32) t28_32 rfl ?_
      refine zs_iload_n (pc := 33) t28_33 rfl ?_
      refine zs_invV (pc := 34) (k := 155) (as' := [.int (zI M 155 2)]) (st := []) t28_34 mf34 rfl rfl (Or.inl ⟨by decide, (zk1 (w2s.k fk_zMc_155))⟩) ⟨by decide, by decide, Nat.le_of_ble_eq_true rfl, Nat.le_of_ble_eq_true rfl⟩ (zs_in (by decide) mf34 (Nat.le_of_ble_eq_true rfl) ?_) (fun _ _ q => q)
      show zGo X l 0 0 0 34 0 [(0, .ref 155), (1, .int (zI M 155 2))] [] w2M _
      refine zs_aload_n (pc := 0) t34_0 rfl ?_
      refine zs_iload_n (pc := 1) t34_1 rfl ?_
      have w41 : zIv cLo cHi (zsI w2M 155 3 (zI M 155 2)) := zIv.put w2I (show (-2147483648) ≤ (zI M 155 2).toInt ∧ (zI M 155 2).toInt ≤ 2147483647 from (zrg (zI M 155 2)))
      refine zs_putI (pc := 2) t34_2 (zk1 (w2s.k fk_zMc_155)) rfl ?_
      refine zs_iconst (pc := 5) t34_5 (v := 0) (by decide) ?_
      refine zs_iret (pc := 6) t34_6 mr34 (by decide) ?_
      show zGo X l 5 0 0 28 37 [(5, .int w3v), (4, .int w2v), (3, .int (zI M 155 2)), (0, .ref 157), (1, .ref 155), (2, .ref 19)] [.int (0 : Int32)] (zsI w2M 155 3 (zI M 155 2)) _
      exact zs_iret (pc := 37) t28_37 mr28 (by decide) (hQ _ _ w2s w41 (((zFr.refl).trans (w2F.mono rfl)).put rfl) (by decide) (by decide))
theorem C25_157_155_19 {X : zX} {l : Launch} {M : zM} {Q : Option Value → zM → Prop} (hs : zSk zMc M) (hI : zIv cLo cHi M) (hQ : ∀ (M' : zM) (v : Int32), zSk zMc M' → zIv cLo cHi M' → zFr [(157, 160, none), (155, 155, none), (19, 30, none)] M M' → (-1) ≤ v.toInt → v.toInt ≤ 500 → Q (some (.int v)) M') : zCall X l 6 0 0 25 [.ref 157, .ref 155, .ref 19] M Q := by
  refine zs_in (by decide) mf25 (Nat.le_of_ble_eq_true rfl) ?_
  show zGo X l 6 0 0 25 0 [(0, .ref 157), (1, .ref 155), (2, .ref 19)] [] M _
  refine zs_aload_n (pc := 0) t25_0 rfl ?_
  refine zs_invV (pc := 1) (k := 155) (as' := []) (st := []) t25_1 mf26 rfl rfl (Or.inl ⟨by decide, (zk1 (hs.k fk_zMc_155))⟩) ⟨by decide, by decide, Nat.le_of_ble_eq_true rfl, Nat.le_of_ble_eq_true rfl⟩ (zs_in (by decide) mf26 (Nat.le_of_ble_eq_true rfl) ?_) (fun _ _ q => q)
  show zGo X l 0 0 0 26 0 [(0, .ref 155)] [] M _
  refine zs_aload_n (pc := 0) t26_0 rfl ?_
  refine zs_iconst (pc := 1) t26_1 (v := 0) (by decide) ?_
  have w1 : zIv cLo cHi (zsI M 155 2 (0 : Int32)) := zIv.put hI (show (-2147483648) ≤ (0 : Int32).toInt ∧ (0 : Int32).toInt ≤ 2147483647 from (zrg (0 : Int32)))
  refine zs_putI (pc := 2) t26_2 (zk1 (hs.k fk_zMc_155)) rfl ?_
  refine zs_aload_n (pc := 5) t26_5 rfl ?_
  refine zs_iconst (pc := 6) t26_6 (v := -1) (by decide) ?_
  have w2 : zIv cLo cHi (zsI (zsI M 155 2 (0 : Int32)) 155 3 (-1 : Int32)) := zIv.put w1 (show (-2147483648) ≤ (-1 : Int32).toInt ∧ (-1 : Int32).toInt ≤ 2147483647 from (zrg (-1 : Int32)))
  refine zs_putI (pc := 7) t26_7 (zk1 (hs.k fk_zMc_155)) rfl ?_
  refine zs_vret (pc := 10) t26_10 mr26 ?_
  show zGo X l 6 0 0 25 4 [(0, .ref 157), (1, .ref 155), (2, .ref 19)] [] (zsI (zsI M 155 2 (0 : Int32)) 155 3 (-1 : Int32)) _
  refine zs_iconst (pc := 4) t25_4 (v := 0) (by decide) ?_
  refine zs_istore_n (pc := 5) t25_5 (ls' := [(3, .int (0 : Int32)), (0, .ref 157), (1, .ref 155), (2, .ref 19)]) (zml mf25 (by decide)) rfl ?_
  have w3L : ∀ (m : Nat) (w3x3 : Int32) (w3M : zM), (0 ≤ w3x3.toInt ∧ w3x3.toInt ≤ 500) → zSk zMc w3M → zIv cLo cHi w3M → zFr [(157, 160, none), (155, 155, none), (19, 30, none)] (zsI (zsI M 155 2 (0 : Int32)) 155 3 (-1 : Int32)) w3M → 500 - w3x3.toInt ≤ (m : Int) → zGo X l 6 0 0 25 6 [(0, .ref 157), (1, .ref 155), (2, .ref 19), (3, .int w3x3)] [] w3M Q := by
    intro m
    induction m using Nat.strongRecOn with
    | ind w3m w3ih =>
      intro w3x3 w3M w3b3 w3s w3I w3F w3q
      refine zs_iload_n (pc := 6) t25_6 rfl ?_
      refine zs_sipush (pc := 7) t25_7 (v := 500) (by decide) ?_
      by_cases w4 : 500 ≤ w3x3.toInt
      · refine zs_icmp_geT (pc := 10) t25_10 rfl li500 (by omega) ?_
        refine zs_iload_n (pc := 37) t25_37 rfl ?_
        exact zs_iret (pc := 38) t25_38 mr25 rfl (hQ _ _ w3s w3I ((((zFr.refl).put rfl).put rfl).trans (w3F.mono rfl)) (by omega) (by omega))
      · refine zs_icmp_geF (pc := 10) t25_10 rfl li500 (by omega) ?_
        refine zs_aload_n (pc := 13) t25_13 rfl ?_
        refine zs_invV (pc := 14) (k := 155) (as' := []) (st := []) t25_14 mf27 rfl rfl (Or.inl ⟨by decide, (zk1 (w3s.k fk_zMc_155))⟩) ⟨by decide, by decide, Nat.le_of_ble_eq_true rfl, Nat.le_of_ble_eq_true rfl⟩ (zs_in (by decide) mf27 (Nat.le_of_ble_eq_true rfl) ?_) (fun _ _ q => q)
        show zGo X l 0 0 0 27 0 [(0, .ref 155)] [] w3M _
        refine zs_aload_n (pc := 0) t27_0 rfl ?_
        have w5 := ib155_2 w3I
        refine zs_get (pc := 1) t27_1 (by decide) (zk1 (w3s.k fk_zMc_155)) (zfvi rfl rfl) ?_
        refine zs_aload_n (pc := 4) t27_4 rfl ?_
        have w6 := ib155_1 w3I
        refine zs_get (pc := 5) t27_5 (by decide) (zk1 (w3s.k fk_zMc_155)) (zfvi rfl rfl) ?_
        by_cases w7 : (zI w3M 155 2).toInt < (zI w3M 155 1).toInt
        · refine zs_icmp_ltT (pc := 8) t27_8 rfl rfl (by omega) ?_
          refine zs_iconst (pc := 15) t27_15 (v := 0) (by decide) ?_
          refine zs_iret (pc := 16) t27_16 mr27 (by decide) ?_
          show zGo X l 6 0 0 25 17 [(0, .ref 157), (1, .ref 155), (2, .ref 19), (3, .int w3x3)] [.int (0 : Int32)] w3M _
          refine zs_if_neF (pc := 17) t25_17 li0 (by decide) ?_
          refine zs_aload_n (pc := 20) t25_20 rfl ?_
          refine zs_aload_n (pc := 21) t25_21 rfl ?_
          refine zs_aload_n (pc := 22) t25_22 rfl ?_
          refine zs_invV (pc := 23) (k := 157) (as' := [.ref 155, .ref 19]) (st := []) t25_23 mf28 rfl rfl (Or.inl ⟨by decide, (zk1 (w3s.k fk_zMc_157))⟩) ⟨by decide, by decide, Nat.le_of_ble_eq_true rfl, Nat.le_of_ble_eq_true rfl⟩ (C28_157_155_19 w3s w3I ?_) (fun _ _ q => q)
          intro w8M w8v w8s w8I w8F w8a w8b
          show zGo X l 6 0 0 25 26 [(0, .ref 157), (1, .ref 155), (2, .ref 19), (3, .int w3x3)] [.int w8v] w8M _
          by_cases w9 : w8v.toInt ≠ 0
          · refine zs_if_neT (pc := 26) t25_26 rfl (by omega) ?_
            obtain ⟨w10v, w10e, w10⟩ := ziadd (a := w3x3) (b := Int32.ofInt 1) rfl (show (Int32.ofInt 1).toInt = 1 by decide) (by omega) (by omega)
            refine zs_iinc (pc := 31) t25_31 (ls' := [(3, .int w10v), (0, .ref 157), (1, .ref 155), (2, .ref 19)]) (zml mf25 (by decide)) rfl (c := w10v) w10e rfl ?_
            refine zs_goto (pc := 34) t25_34 ?_
            refine zGo.locals (ls' := [(0, .ref 157), (1, .ref 155), (2, .ref 19), (3, .int w10v)]) (by simp) ?_
            exact w3ih (w3m - 1) (by omega) w10v w8M ⟨by omega, by omega⟩ w8s w8I (((zFr.refl).trans (w3F.mono rfl)).trans (w8F.mono rfl)) (by omega)
          · refine zs_if_neF (pc := 26) t25_26 rfl (by omega) ?_
            refine zs_iconst (pc := 29) t25_29 (v := -1) (by decide) ?_
            exact zs_iret (pc := 30) t25_30 mr25 (by decide) (hQ _ _ w8s w8I (((((zFr.refl).put rfl).put rfl).trans (w3F.mono rfl)).trans (w8F.mono rfl)) (by decide) (by decide))
        · refine zs_icmp_ltF (pc := 8) t27_8 rfl rfl (by omega) ?_
          refine zs_iconst (pc := 11) t27_11 (v := 1) (by decide) ?_
          refine zs_goto (pc := 12) t27_12 ?_
          refine zs_iret (pc := 16) t27_16 mr27 (by decide) ?_
          show zGo X l 6 0 0 25 17 [(0, .ref 157), (1, .ref 155), (2, .ref 19), (3, .int w3x3)] [.int (1 : Int32)] w3M _
          refine zs_if_neT (pc := 17) t25_17 li1 (by decide) ?_
          refine zs_iload_n (pc := 37) t25_37 rfl ?_
          exact zs_iret (pc := 38) t25_38 mr25 rfl (hQ _ _ w3s w3I ((((zFr.refl).put rfl).put rfl).trans (w3F.mono rfl)) (by omega) (by omega))
  refine zGo.locals (ls' := [(0, .ref 157), (1, .ref 155), (2, .ref 19), (3, .int (0 : Int32))]) (by simp) ?_
  have w11 := li0
  exact w3L ((500 - 0 : Int).toNat) (0 : Int32) (zsI (zsI M 155 2 (0 : Int32)) 155 3 (-1 : Int32)) ⟨by decide, by decide⟩ hs w2 zFr.refl (by omega)
theorem C84_157_155 {X : zX} {l : Launch} {M : zM} {Q : Option Value → zM → Prop} {a : Int32} (hs : zSk zMc M) (hI : zIv cLo cHi M) (ha : 0 ≤ a.toInt ∧ a.toInt ≤ 19) (hQ : ∀ (M' : zM) (v : Int32), zSk zMc M' → zIv cLo cHi M' → zFr [(157, 160, none), (155, 155, none)] M M' → 0 ≤ v.toInt → v.toInt ≤ 1 → Q (some (.int v)) M') : zCall X l 3 0 0 84 [.ref 157, .ref 155, .int a] M Q := by
  have ga := zrg a
  refine zs_in (by decide) mf84 (Nat.le_of_ble_eq_true rfl) ?_
  show zGo X l 3 0 0 84 0 [(0, .ref 157), (1, .ref 155), (2, .int a)] [] M _
  refine zs_aload_n (pc := 0) t84_0 rfl ?_
  refine zs_invV (pc := 1) (k := 155) (as' := []) (st := []) t84_1 mf29 rfl rfl (Or.inl ⟨by decide, (zk1 (hs.k fk_zMc_155))⟩) ⟨by decide, by decide, Nat.le_of_ble_eq_true rfl, Nat.le_of_ble_eq_true rfl⟩ (zs_in (by decide) mf29 (Nat.le_of_ble_eq_true rfl) ?_) (fun _ _ q => q)
  show zGo X l 0 0 0 29 0 [(0, .ref 155)] [] M _
  refine zs_aload_n (pc := 0) t29_0 rfl ?_
  have w1 := ib155_2 hI
  refine zs_get (pc := 1) t29_1 (by decide) (zk1 (hs.k fk_zMc_155)) (zfvi rfl rfl) ?_
  refine zs_iret (pc := 4) t29_4 mr29 rfl ?_
  show zGo X l 3 0 0 84 4 [(0, .ref 157), (1, .ref 155), (2, .int a)] [.int (zI M 155 2)] M _
  refine zs_istore_n (pc := 4) t84_4 (ls' := [(3, .int (zI M 155 2)), (0, .ref 157), (1, .ref 155), (2, .int a)]) (zml mf84 (by decide)) rfl ?_
  refine zs_aload_n (pc := 5) t84_5 rfl ?_
  refine zs_invV (pc := 6) (k := 155) (as' := []) (st := []) t84_6 mf30 rfl rfl (Or.inl ⟨by decide, (zk1 (hs.k fk_zMc_155))⟩) ⟨by decide, by decide, Nat.le_of_ble_eq_true rfl, Nat.le_of_ble_eq_true rfl⟩ (C30_155 hs hI ?_) (fun _ _ q => q)
  intro w2M w2v w2s w2I w2F w2a w2b
  show zGo X l 3 0 0 84 9 [(3, .int (zI M 155 2)), (0, .ref 157), (1, .ref 155), (2, .int a)] [.int w2v] w2M _
  refine zs_istore (pc := 9) t84_9 (ls' := [(4, .int w2v), (3, .int (zI M 155 2)), (0, .ref 157), (1, .ref 155), (2, .int a)]) (zml mf84 (by decide)) rfl ?_
  refine zs_iload (pc := 11) t84_11 rfl ?_
  refine zs_invS (pc := 13) (as := [.int w2v]) (st := []) t84_13 (by decide) mf85 rfl rfl ⟨by decide, by decide, Nat.le_of_ble_eq_true rfl, Nat.le_of_ble_eq_true rfl⟩ (C85 w2s w2I ?_) (fun _ _ q => q)
  intro w3v w3a w3b
  show zGo X l 3 0 0 84 16 [(4, .int w2v), (3, .int (zI M 155 2)), (0, .ref 157), (1, .ref 155), (2, .int a)] [.int w3v] w2M _
  refine zs_istore (pc := 16) t84_16 (ls' := [(5, .int w3v), (4, .int w2v), (3, .int (zI M 155 2)), (0, .ref 157), (1, .ref 155), (2, .int a)]) (zml mf84 (by decide)) rfl ?_
  refine zs_iload (pc := 18) t84_18 rfl ?_
  by_cases w4 : w3v.toInt ≠ 0
  · refine zs_if_neT (pc := 20) t84_20 rfl (by omega) ?_
    refine zs_aload_n (pc := 29) t84_29 rfl ?_
    refine zs_get (pc := 30) t84_30 (by decide) (zk1 (w2s.k fk_zMc_157)) (w2s.p rfl fv_zMc_157_1) ?_
    refine zs_iload_n (pc := 33) t84_33 rfl ?_
    refine zs_iload (pc := 34) t84_34 rfl ?_
    obtain ⟨w5n, w5⟩ : ∃ n : Nat, a.toInt = (n : Int) := ⟨a.toInt.toNat, by omega⟩
    have w6 : zIv cLo cHi (zsI w2M 159 w5n w2v) := zIv.put w2I (show (-2147483648) ≤ w2v.toInt ∧ w2v.toInt ≤ 2147483647 from (zrg w2v))
    refine zs_iast (pc := 36) t84_36 (j := w5n) (by decide) (zk1 (w2s.k fk_zMc_159)) w5 (zk2 (w2s.k fk_zMc_159) (by omega)) ?_
    refine zs_iconst (pc := 37) t84_37 (v := 0) (by decide) ?_
    refine zs_istore (pc := 38) t84_38 (ls' := [(6, .int (0 : Int32)), (5, .int w3v), (4, .int w2v), (3, .int (zI M 155 2)), (0, .ref 157), (1, .ref 155), (2, .int a)]) (zml mf84 (by decide)) rfl ?_
    have w7L : ∀ (m : Nat) (w7x6 : Int32) (w7M : zM), (0 ≤ w7x6.toInt ∧ w7x6.toInt ≤ 3) → zSk zMc w7M → zIv cLo cHi w7M → zFr [(157, 160, none), (155, 155, none)] (zsI w2M 159 w5n w2v) w7M → 3 - w7x6.toInt ≤ (m : Int) → zGo X l 3 0 0 84 40 [(0, .ref 157), (1, .ref 155), (2, .int a), (3, .int (zI M 155 2)), (4, .int w2v), (5, .int w3v), (6, .int w7x6)] [] w7M Q := by
      intro m
      induction m using Nat.strongRecOn with
      | ind w7m w7ih =>
        intro w7x6 w7M w7b6 w7s w7I w7F w7q
        refine zs_iload (pc := 40) t84_40 rfl ?_
        refine zs_iload (pc := 42) t84_42 rfl ?_
        by_cases w8 : w3v.toInt ≤ w7x6.toInt
        · refine zs_icmp_geT (pc := 44) t84_44 rfl rfl (by omega) ?_
          refine zs_iconst (pc := 102) t84_102 (v := 1) (by decide) ?_
          exact zs_iret (pc := 103) t84_103 mr84 (by decide) (hQ _ _ w7s w7I ((((zFr.refl).trans (w2F.mono rfl)).put rfl).trans (w7F.mono rfl)) (by decide) (by decide))
        · refine zs_icmp_geF (pc := 44) t84_44 rfl rfl (by omega) ?_
          refine zs_aload_n (pc := 47) t84_47 rfl ?_
          refine zs_invV (pc := 48) (k := 155) (as' := []) (st := []) t84_48 mf35 rfl rfl (Or.inl ⟨by decide, (zk1 (w7s.k fk_zMc_155))⟩) ⟨by decide, by decide, Nat.le_of_ble_eq_true rfl, Nat.le_of_ble_eq_true rfl⟩ (C35_155 w7s w7I ?_) (fun _ _ q => q)
          intro w9M w9v w9s w9I w9F w9a w9b
          show zGo X l 3 0 0 84 51 [(0, .ref 157), (1, .ref 155), (2, .int a), (3, .int (zI M 155 2)), (4, .int w2v), (5, .int w3v), (6, .int w7x6)] [.int w9v] w9M _
          by_cases w10 : w9v.toInt ≠ 0
          · refine zs_if_neT (pc := 51) t84_51 rfl (by omega) ?_
            refine zs_aload_n (pc := 56) t84_56 rfl ?_
            refine zs_get (pc := 57) t84_57 (by decide) (zk1 (w9s.k fk_zMc_157)) (w9s.p rfl fv_zMc_157_2) ?_
            refine zs_iload_n (pc := 60) t84_60 rfl ?_
            refine zs_iconst (pc := 61) t84_61 (v := 4) (by decide) ?_
            obtain ⟨w11v, w11⟩ : ∃ v, a * (4 : Int32) = v := ⟨_, rfl⟩
            have w11g : w11v.toInt = a.toInt * 4 := by rw [← w11]; exact zmulc rfl li4 (by omega) (by omega)
            refine zs_imul (pc := 62) t84_62 (c := w11v) w11 ?_
            refine zs_iload (pc := 63) t84_63 rfl ?_
            obtain ⟨w12v, w12e, w12⟩ := ziadd (a := w11v) (b := w7x6) rfl rfl (by omega) (by omega)
            refine zs_iadd (pc := 65) t84_65 (c := w12v) w12e ?_
            refine zs_aload_n (pc := 66) t84_66 rfl ?_
            refine zs_invV (pc := 67) (k := 155) (as' := []) (st := [.int w12v, .ref 160]) t84_67 mf37 rfl rfl (Or.inl ⟨by decide, (zk1 (w9s.k fk_zMc_155))⟩) ⟨by decide, by decide, Nat.le_of_ble_eq_true rfl, Nat.le_of_ble_eq_true rfl⟩ (zs_in (by decide) mf37 (Nat.le_of_ble_eq_true rfl) ?_) (fun _ _ q => q)
            show zGo X l 0 0 0 37 0 [(0, .ref 155)] [] w9M _
            refine zs_aload_n (pc := 0) t37_0 rfl ?_
            have w13 := ib155_4 w9I
            refine zs_get (pc := 1) t37_1 (by decide) (zk1 (w9s.k fk_zMc_155)) (zfvi rfl rfl) ?_
            refine zs_iret (pc := 4) t37_4 mr37 rfl ?_
            show zGo X l 3 0 0 84 70 [(0, .ref 157), (1, .ref 155), (2, .int a), (3, .int (zI M 155 2)), (4, .int w2v), (5, .int w3v), (6, .int w7x6)] [.int (zI w9M 155 4), .int w12v, .ref 160] w9M _
            obtain ⟨w14n, w14⟩ : ∃ n : Nat, w12v.toInt = (n : Int) := ⟨w12v.toInt.toNat, by omega⟩
            have w15 : zIv cLo cHi (zsI w9M 160 w14n (zI w9M 155 4)) := zIv.put w9I (show (-2147483648) ≤ (zI w9M 155 4).toInt ∧ (zI w9M 155 4).toInt ≤ 2147483647 from (zrg (zI w9M 155 4)))
            refine zs_iast (pc := 70) t84_70 (j := w14n) (by decide) (zk1 (w9s.k fk_zMc_160)) w14 (zk2 (w9s.k fk_zMc_160) (by omega)) ?_
            refine zs_aload_n (pc := 71) t84_71 rfl ?_
            refine zs_iload (pc := 72) t84_72 rfl ?_
            refine zs_iconst (pc := 74) t84_74 (v := 1) (by decide) ?_
            obtain ⟨w16v, w16e, w16⟩ := ziadd (a := w7x6) (b := (1 : Int32)) rfl li1 (by omega) (by omega)
            refine zs_iadd (pc := 75) t84_75 (c := w16v) w16e ?_
            refine zs_iload (pc := 76) t84_76 rfl ?_
            by_cases w17 : w3v.toInt ≤ (w7x6.toInt + 1)
            · refine zs_icmp_geT (pc := 78) t84_78 w16 rfl (by omega) ?_
              refine zs_bipush (pc := 86) t84_86 (v := 59) (by decide) ?_
              refine zs_invV (pc := 88) (k := 155) (as' := [.int (59 : Int32)]) (st := []) t84_88 mf47 rfl rfl (Or.inl ⟨by decide, (zk1 (w9s.k fk_zMc_155))⟩) ⟨by decide, by decide, Nat.le_of_ble_eq_true rfl, Nat.le_of_ble_eq_true rfl⟩ (zs_in (by decide) mf47 (Nat.le_of_ble_eq_true rfl) ?_) (fun _ _ q => q)
              show zGo X l 1 0 0 47 0 [(0, .ref 155), (1, .int (59 : Int32))] [] (zsI w9M 160 w14n (zI w9M 155 4)) _
              refine zs_aload_n (pc := 0) t47_0 rfl ?_
              refine zs_invV (pc := 1) (k := 155) (as' := []) (st := []) t47_1 mf31 rfl rfl (Or.inl ⟨by decide, (zk1 (w9s.k fk_zMc_155))⟩) ⟨by decide, by decide, Nat.le_of_ble_eq_true rfl, Nat.le_of_ble_eq_true rfl⟩ (C31_155 w9s w15 ?_) (fun _ _ q => q)
              intro w18v w18a w18b
              show zGo X l 1 0 0 47 4 [(0, .ref 155), (1, .int (59 : Int32))] [.int w18v] (zsI w9M 160 w14n (zI w9M 155 4)) _
              refine zs_iload_n (pc := 4) t47_4 rfl ?_
              by_cases w19 : w18v.toInt = 59
              · refine zs_icmp_eqT (pc := 5) t47_5 rfl li59 (by omega) ?_
                refine zs_aload_n (pc := 17) t47_17 rfl ?_
                refine zs_dup (pc := 18) t47_18 rfl ?_
                have w20 := ib155_2 w9I
                refine zs_get (pc := 19) t47_19 (by decide) (zk1 (w9s.k fk_zMc_155)) (zfvi rfl ((zIo (by decide)).trans rfl)) ?_
                refine zs_iconst (pc := 22) t47_22 (v := 1) (by decide) ?_
                obtain ⟨w21v, w21⟩ : ∃ v, v = (zI w9M 155 2) + (1 : Int32) := ⟨_, rfl⟩
                have w21g := zrg w21v
                refine zs_iadd (pc := 23) t47_23 (c := w21v) w21.symm ?_
                have w22 : zIv cLo cHi (zsI (zsI w9M 160 w14n (zI w9M 155 4)) 155 2 w21v) := zIv.put w15 (show (-2147483648) ≤ w21v.toInt ∧ w21v.toInt ≤ 2147483647 from (zrg w21v))
                refine zs_putI (pc := 24) t47_24 (zk1 (w9s.k fk_zMc_155)) rfl ?_
                refine zs_iconst (pc := 27) t47_27 (v := 1) (by decide) ?_
                refine zs_iret (pc := 28) t47_28 mr47 (by decide) ?_
                show zGo X l 3 0 0 84 91 [(0, .ref 157), (1, .ref 155), (2, .int a), (3, .int (zI M 155 2)), (4, .int w2v), (5, .int w3v), (6, .int w7x6)] [.int (1 : Int32)] (zsI (zsI w9M 160 w14n (zI w9M 155 4)) 155 2 w21v) _
                refine zs_if_neT (pc := 91) t84_91 li1 (by decide) ?_
                obtain ⟨w23v, w23e, w23⟩ := ziadd (a := w7x6) (b := Int32.ofInt 1) rfl (show (Int32.ofInt 1).toInt = 1 by decide) (by omega) (by omega)
                refine zs_iinc (pc := 96) t84_96 (ls' := [(6, .int w23v), (0, .ref 157), (1, .ref 155), (2, .int a), (3, .int (zI M 155 2)), (4, .int w2v), (5, .int w3v)]) (zml mf84 (by decide)) rfl (c := w23v) w23e rfl ?_
                refine zs_goto (pc := 99) t84_99 ?_
                refine zGo.locals (ls' := [(0, .ref 157), (1, .ref 155), (2, .int a), (3, .int (zI M 155 2)), (4, .int w2v), (5, .int w3v), (6, .int w23v)]) (by simp) ?_
                exact w7ih (w7m - 1) (by omega) w23v (zsI (zsI w9M 160 w14n (zI w9M 155 4)) 155 2 w21v) ⟨by omega, by omega⟩ w9s w22 (((((zFr.refl).trans (w7F.mono rfl)).trans (w9F.mono rfl)).put rfl).put rfl) (by omega)
              · refine zs_icmp_eqF (pc := 5) t47_5 rfl li59 (by omega) ?_
                refine zs_aload_n (pc := 8) t47_8 rfl ?_
                refine zs_aload_n (pc := 9) t47_9 rfl ?_
                have w24 := ib155_2 w9I
                refine zs_get (pc := 10) t47_10 (by decide) (zk1 (w9s.k fk_zMc_155)) (zfvi rfl ((zIo (by decide)).trans rfl)) ?_
                refine zs_invV (pc := 13) (k := 155) (as' := [.int (zI w9M 155 2)]) (st := []) t47_13 mf34 rfl rfl (Or.inl ⟨by decide, (zk1 (w9s.k fk_zMc_155))⟩) ⟨by decide, by decide, Nat.le_of_ble_eq_true rfl, Nat.le_of_ble_eq_true rfl⟩ (zs_in (by decide) mf34 (Nat.le_of_ble_eq_true rfl) ?_) (fun _ _ q => q)
                show zGo X l 0 0 0 34 0 [(0, .ref 155), (1, .int (zI w9M 155 2))] [] (zsI w9M 160 w14n (zI w9M 155 4)) _
                refine zs_aload_n (pc := 0) t34_0 rfl ?_
                refine zs_iload_n (pc := 1) t34_1 rfl ?_
                have w25 : zIv cLo cHi (zsI (zsI w9M 160 w14n (zI w9M 155 4)) 155 3 (zI w9M 155 2)) := zIv.put w15 (show (-2147483648) ≤ (zI w9M 155 2).toInt ∧ (zI w9M 155 2).toInt ≤ 2147483647 from (zrg (zI w9M 155 2)))
                refine zs_putI (pc := 2) t34_2 (zk1 (w9s.k fk_zMc_155)) rfl ?_
                refine zs_iconst (pc := 5) t34_5 (v := 0) (by decide) ?_
                refine zs_iret (pc := 6) t34_6 mr34 (by decide) ?_
                show zGo X l 1 0 0 47 16 [(0, .ref 155), (1, .int (59 : Int32))] [.int (0 : Int32)] (zsI (zsI w9M 160 w14n (zI w9M 155 4)) 155 3 (zI w9M 155 2)) _
                refine zs_iret (pc := 16) t47_16 mr47 (by decide) ?_
                show zGo X l 3 0 0 84 91 [(0, .ref 157), (1, .ref 155), (2, .int a), (3, .int (zI M 155 2)), (4, .int w2v), (5, .int w3v), (6, .int w7x6)] [.int (0 : Int32)] (zsI (zsI w9M 160 w14n (zI w9M 155 4)) 155 3 (zI w9M 155 2)) _
                refine zs_if_neF (pc := 91) t84_91 li0 (by decide) ?_
                refine zs_iconst (pc := 94) t84_94 (v := 0) (by decide) ?_
                exact zs_iret (pc := 95) t84_95 mr84 (by decide) (hQ _ _ w9s w25 (((((((zFr.refl).trans (w2F.mono rfl)).put rfl).trans (w7F.mono rfl)).trans (w9F.mono rfl)).put rfl).put rfl) (by decide) (by decide))
            · refine zs_icmp_geF (pc := 78) t84_78 w16 rfl (by omega) ?_
              refine zs_bipush (pc := 81) t84_81 (v := 44) (by decide) ?_
              refine zs_goto (pc := 83) t84_83 ?_
              refine zs_invV (pc := 88) (k := 155) (as' := [.int (44 : Int32)]) (st := []) t84_88 mf47 rfl rfl (Or.inl ⟨by decide, (zk1 (w9s.k fk_zMc_155))⟩) ⟨by decide, by decide, Nat.le_of_ble_eq_true rfl, Nat.le_of_ble_eq_true rfl⟩ (zs_in (by decide) mf47 (Nat.le_of_ble_eq_true rfl) ?_) (fun _ _ q => q)
              show zGo X l 1 0 0 47 0 [(0, .ref 155), (1, .int (44 : Int32))] [] (zsI w9M 160 w14n (zI w9M 155 4)) _
              refine zs_aload_n (pc := 0) t47_0 rfl ?_
              refine zs_invV (pc := 1) (k := 155) (as' := []) (st := []) t47_1 mf31 rfl rfl (Or.inl ⟨by decide, (zk1 (w9s.k fk_zMc_155))⟩) ⟨by decide, by decide, Nat.le_of_ble_eq_true rfl, Nat.le_of_ble_eq_true rfl⟩ (C31_155 w9s w15 ?_) (fun _ _ q => q)
              intro w26v w26a w26b
              show zGo X l 1 0 0 47 4 [(0, .ref 155), (1, .int (44 : Int32))] [.int w26v] (zsI w9M 160 w14n (zI w9M 155 4)) _
              refine zs_iload_n (pc := 4) t47_4 rfl ?_
              by_cases w27 : w26v.toInt = 44
              · refine zs_icmp_eqT (pc := 5) t47_5 rfl li44 (by omega) ?_
                refine zs_aload_n (pc := 17) t47_17 rfl ?_
                refine zs_dup (pc := 18) t47_18 rfl ?_
                have w28 := ib155_2 w9I
                refine zs_get (pc := 19) t47_19 (by decide) (zk1 (w9s.k fk_zMc_155)) (zfvi rfl ((zIo (by decide)).trans rfl)) ?_
                refine zs_iconst (pc := 22) t47_22 (v := 1) (by decide) ?_
                obtain ⟨w29v, w29⟩ : ∃ v, v = (zI w9M 155 2) + (1 : Int32) := ⟨_, rfl⟩
                have w29g := zrg w29v
                refine zs_iadd (pc := 23) t47_23 (c := w29v) w29.symm ?_
                have w30 : zIv cLo cHi (zsI (zsI w9M 160 w14n (zI w9M 155 4)) 155 2 w29v) := zIv.put w15 (show (-2147483648) ≤ w29v.toInt ∧ w29v.toInt ≤ 2147483647 from (zrg w29v))
                refine zs_putI (pc := 24) t47_24 (zk1 (w9s.k fk_zMc_155)) rfl ?_
                refine zs_iconst (pc := 27) t47_27 (v := 1) (by decide) ?_
                refine zs_iret (pc := 28) t47_28 mr47 (by decide) ?_
                show zGo X l 3 0 0 84 91 [(0, .ref 157), (1, .ref 155), (2, .int a), (3, .int (zI M 155 2)), (4, .int w2v), (5, .int w3v), (6, .int w7x6)] [.int (1 : Int32)] (zsI (zsI w9M 160 w14n (zI w9M 155 4)) 155 2 w29v) _
                refine zs_if_neT (pc := 91) t84_91 li1 (by decide) ?_
                obtain ⟨w31v, w31e, w31⟩ := ziadd (a := w7x6) (b := Int32.ofInt 1) rfl (show (Int32.ofInt 1).toInt = 1 by decide) (by omega) (by omega)
                refine zs_iinc (pc := 96) t84_96 (ls' := [(6, .int w31v), (0, .ref 157), (1, .ref 155), (2, .int a), (3, .int (zI M 155 2)), (4, .int w2v), (5, .int w3v)]) (zml mf84 (by decide)) rfl (c := w31v) w31e rfl ?_
                refine zs_goto (pc := 99) t84_99 ?_
                refine zGo.locals (ls' := [(0, .ref 157), (1, .ref 155), (2, .int a), (3, .int (zI M 155 2)), (4, .int w2v), (5, .int w3v), (6, .int w31v)]) (by simp) ?_
                exact w7ih (w7m - 1) (by omega) w31v (zsI (zsI w9M 160 w14n (zI w9M 155 4)) 155 2 w29v) ⟨by omega, by omega⟩ w9s w30 (((((zFr.refl).trans (w7F.mono rfl)).trans (w9F.mono rfl)).put rfl).put rfl) (by omega)
              · refine zs_icmp_eqF (pc := 5) t47_5 rfl li44 (by omega) ?_
                refine zs_aload_n (pc := 8) t47_8 rfl ?_
                refine zs_aload_n (pc := 9) t47_9 rfl ?_
                have w32 := ib155_2 w9I
                refine zs_get (pc := 10) t47_10 (by decide) (zk1 (w9s.k fk_zMc_155)) (zfvi rfl ((zIo (by decide)).trans rfl)) ?_
                refine zs_invV (pc := 13) (k := 155) (as' := [.int (zI w9M 155 2)]) (st := []) t47_13 mf34 rfl rfl (Or.inl ⟨by decide, (zk1 (w9s.k fk_zMc_155))⟩) ⟨by decide, by decide, Nat.le_of_ble_eq_true rfl, Nat.le_of_ble_eq_true rfl⟩ (zs_in (by decide) mf34 (Nat.le_of_ble_eq_true rfl) ?_) (fun _ _ q => q)
                show zGo X l 0 0 0 34 0 [(0, .ref 155), (1, .int (zI w9M 155 2))] [] (zsI w9M 160 w14n (zI w9M 155 4)) _
                refine zs_aload_n (pc := 0) t34_0 rfl ?_
                refine zs_iload_n (pc := 1) t34_1 rfl ?_
                have w33 : zIv cLo cHi (zsI (zsI w9M 160 w14n (zI w9M 155 4)) 155 3 (zI w9M 155 2)) := zIv.put w15 (show (-2147483648) ≤ (zI w9M 155 2).toInt ∧ (zI w9M 155 2).toInt ≤ 2147483647 from (zrg (zI w9M 155 2)))
                refine zs_putI (pc := 2) t34_2 (zk1 (w9s.k fk_zMc_155)) rfl ?_
                refine zs_iconst (pc := 5) t34_5 (v := 0) (by decide) ?_
                refine zs_iret (pc := 6) t34_6 mr34 (by decide) ?_
                show zGo X l 1 0 0 47 16 [(0, .ref 155), (1, .int (44 : Int32))] [.int (0 : Int32)] (zsI (zsI w9M 160 w14n (zI w9M 155 4)) 155 3 (zI w9M 155 2)) _
                refine zs_iret (pc := 16) t47_16 mr47 (by decide) ?_
                show zGo X l 3 0 0 84 91 [(0, .ref 157), (1, .ref 155), (2, .int a), (3, .int (zI M 155 2)), (4, .int w2v), (5, .int w3v), (6, .int w7x6)] [.int (0 : Int32)] (zsI (zsI w9M 160 w14n (zI w9M 155 4)) 155 3 (zI w9M 155 2)) _
                refine zs_if_neF (pc := 91) t84_91 li0 (by decide) ?_
                refine zs_iconst (pc := 94) t84_94 (v := 0) (by decide) ?_
                exact zs_iret (pc := 95) t84_95 mr84 (by decide) (hQ _ _ w9s w33 (((((((zFr.refl).trans (w2F.mono rfl)).put rfl).trans (w7F.mono rfl)).trans (w9F.mono rfl)).put rfl).put rfl) (by decide) (by decide))
          · refine zs_if_neF (pc := 51) t84_51 rfl (by omega) ?_
            refine zs_iconst (pc := 54) t84_54 (v := 0) (by decide) ?_
            exact zs_iret (pc := 55) t84_55 mr84 (by decide) (hQ _ _ w9s w9I (((((zFr.refl).trans (w2F.mono rfl)).put rfl).trans (w7F.mono rfl)).trans (w9F.mono rfl)) (by decide) (by decide))
    refine zGo.locals (ls' := [(0, .ref 157), (1, .ref 155), (2, .int a), (3, .int (zI M 155 2)), (4, .int w2v), (5, .int w3v), (6, .int (0 : Int32))]) (by simp) ?_
    have w34 := li0
    exact w7L ((3 - 0 : Int).toNat) (0 : Int32) (zsI w2M 159 w5n w2v) ⟨by decide, by decide⟩ w2s w6 zFr.refl (by omega)
  · refine zs_if_neF (pc := 20) t84_20 rfl (by omega) ?_
    refine zs_aload_n (pc := 23) t84_23 rfl ?_
    refine zs_iload_n (pc := 24) t84_24 rfl ?_
    refine zs_invV (pc := 25) (k := 155) (as' := [.int (zI M 155 2)]) (st := []) t84_25 mf34 rfl rfl (Or.inl ⟨by decide, (zk1 (w2s.k fk_zMc_155))⟩) ⟨by decide, by decide, Nat.le_of_ble_eq_true rfl, Nat.le_of_ble_eq_true rfl⟩ (zs_in (by decide) mf34 (Nat.le_of_ble_eq_true rfl) ?_) (fun _ _ q => q)
    show zGo X l 0 0 0 34 0 [(0, .ref 155), (1, .int (zI M 155 2))] [] w2M _
    refine zs_aload_n (pc := 0) t34_0 rfl ?_
    refine zs_iload_n (pc := 1) t34_1 rfl ?_
    have w35 : zIv cLo cHi (zsI w2M 155 3 (zI M 155 2)) := zIv.put w2I (show (-2147483648) ≤ (zI M 155 2).toInt ∧ (zI M 155 2).toInt ≤ 2147483647 from (zrg (zI M 155 2)))
    refine zs_putI (pc := 2) t34_2 (zk1 (w2s.k fk_zMc_155)) rfl ?_
    refine zs_iconst (pc := 5) t34_5 (v := 0) (by decide) ?_
    refine zs_iret (pc := 6) t34_6 mr34 (by decide) ?_
    show zGo X l 3 0 0 84 28 [(5, .int w3v), (4, .int w2v), (3, .int (zI M 155 2)), (0, .ref 157), (1, .ref 155), (2, .int a)] [.int (0 : Int32)] (zsI w2M 155 3 (zI M 155 2)) _
    exact zs_iret (pc := 28) t84_28 mr84 (by decide) (hQ _ _ w2s w35 (((zFr.refl).trans (w2F.mono rfl)).put rfl) (by decide) (by decide))
theorem C83_157_155 {X : zX} {l : Launch} {M : zM} {Q : Option Value → zM → Prop} (hs : zSk zMc M) (hI : zIv cLo cHi M) (hQ : ∀ (M' : zM) (v : Int32), zSk zMc M' → zIv cLo cHi M' → zFr [(157, 160, none), (155, 155, none)] M M' → (-1) ≤ v.toInt → v.toInt ≤ 20 → Q (some (.int v)) M') : zCall X l 4 0 0 83 [.ref 157, .ref 155] M Q := by
  refine zs_in (by decide) mf83 (Nat.le_of_ble_eq_true rfl) ?_
  show zGo X l 4 0 0 83 0 [(0, .ref 157), (1, .ref 155)] [] M _
  refine zs_aload_n (pc := 0) t83_0 rfl ?_
  refine zs_invV (pc := 1) (k := 155) (as' := []) (st := []) t83_1 mf26 rfl rfl (Or.inl ⟨by decide, (zk1 (hs.k fk_zMc_155))⟩) ⟨by decide, by decide, Nat.le_of_ble_eq_true rfl, Nat.le_of_ble_eq_true rfl⟩ (zs_in (by decide) mf26 (Nat.le_of_ble_eq_true rfl) ?_) (fun _ _ q => q)
  show zGo X l 0 0 0 26 0 [(0, .ref 155)] [] M _
  refine zs_aload_n (pc := 0) t26_0 rfl ?_
  refine zs_iconst (pc := 1) t26_1 (v := 0) (by decide) ?_
  have w1 : zIv cLo cHi (zsI M 155 2 (0 : Int32)) := zIv.put hI (show (-2147483648) ≤ (0 : Int32).toInt ∧ (0 : Int32).toInt ≤ 2147483647 from (zrg (0 : Int32)))
  refine zs_putI (pc := 2) t26_2 (zk1 (hs.k fk_zMc_155)) rfl ?_
  refine zs_aload_n (pc := 5) t26_5 rfl ?_
  refine zs_iconst (pc := 6) t26_6 (v := -1) (by decide) ?_
  have w2 : zIv cLo cHi (zsI (zsI M 155 2 (0 : Int32)) 155 3 (-1 : Int32)) := zIv.put w1 (show (-2147483648) ≤ (-1 : Int32).toInt ∧ (-1 : Int32).toInt ≤ 2147483647 from (zrg (-1 : Int32)))
  refine zs_putI (pc := 7) t26_7 (zk1 (hs.k fk_zMc_155)) rfl ?_
  refine zs_vret (pc := 10) t26_10 mr26 ?_
  show zGo X l 4 0 0 83 4 [(0, .ref 157), (1, .ref 155)] [] (zsI (zsI M 155 2 (0 : Int32)) 155 3 (-1 : Int32)) _
  refine zs_iconst (pc := 4) t83_4 (v := 0) (by decide) ?_
  refine zs_istore_n (pc := 5) t83_5 (ls' := [(2, .int (0 : Int32)), (0, .ref 157), (1, .ref 155)]) (zml mf83 (by decide)) rfl ?_
  have w3L : ∀ (m : Nat) (w3x2 : Int32) (w3M : zM), (0 ≤ w3x2.toInt ∧ w3x2.toInt ≤ 20) → zSk zMc w3M → zIv cLo cHi w3M → zFr [(157, 160, none), (155, 155, none)] (zsI (zsI M 155 2 (0 : Int32)) 155 3 (-1 : Int32)) w3M → 20 - w3x2.toInt ≤ (m : Int) → zGo X l 4 0 0 83 6 [(0, .ref 157), (1, .ref 155), (2, .int w3x2)] [] w3M Q := by
    intro m
    induction m using Nat.strongRecOn with
    | ind w3m w3ih =>
      intro w3x2 w3M w3b2 w3s w3I w3F w3q
      refine zs_iload_n (pc := 6) t83_6 rfl ?_
      refine zs_bipush (pc := 7) t83_7 (v := 20) (by decide) ?_
      by_cases w4 : 20 ≤ w3x2.toInt
      · refine zs_icmp_geT (pc := 9) t83_9 rfl li20 (by omega) ?_
        refine zs_aload_n (pc := 36) t83_36 rfl ?_
        refine zs_invV (pc := 37) (k := 155) (as' := []) (st := []) t83_37 mf27 rfl rfl (Or.inl ⟨by decide, (zk1 (w3s.k fk_zMc_155))⟩) ⟨by decide, by decide, Nat.le_of_ble_eq_true rfl, Nat.le_of_ble_eq_true rfl⟩ (zs_in (by decide) mf27 (Nat.le_of_ble_eq_true rfl) ?_) (fun _ _ q => q)
        show zGo X l 0 0 0 27 0 [(0, .ref 155)] [] w3M _
        refine zs_aload_n (pc := 0) t27_0 rfl ?_
        have w5 := ib155_2 w3I
        refine zs_get (pc := 1) t27_1 (by decide) (zk1 (w3s.k fk_zMc_155)) (zfvi rfl rfl) ?_
        refine zs_aload_n (pc := 4) t27_4 rfl ?_
        have w6 := ib155_1 w3I
        refine zs_get (pc := 5) t27_5 (by decide) (zk1 (w3s.k fk_zMc_155)) (zfvi rfl rfl) ?_
        by_cases w7 : (zI w3M 155 2).toInt < (zI w3M 155 1).toInt
        · refine zs_icmp_ltT (pc := 8) t27_8 rfl rfl (by omega) ?_
          refine zs_iconst (pc := 15) t27_15 (v := 0) (by decide) ?_
          refine zs_iret (pc := 16) t27_16 mr27 (by decide) ?_
          show zGo X l 4 0 0 83 40 [(0, .ref 157), (1, .ref 155), (2, .int w3x2)] [.int (0 : Int32)] w3M _
          refine zs_if_neF (pc := 40) t83_40 li0 (by decide) ?_
          refine zs_aload_n (pc := 43) t83_43 rfl ?_
          refine zs_aload_n (pc := 44) t83_44 rfl ?_
          refine zs_invV (pc := 45) (k := 155) (as' := []) (st := [.ref 155]) t83_45 mf29 rfl rfl (Or.inl ⟨by decide, (zk1 (w3s.k fk_zMc_155))⟩) ⟨by decide, by decide, Nat.le_of_ble_eq_true rfl, Nat.le_of_ble_eq_true rfl⟩ (zs_in (by decide) mf29 (Nat.le_of_ble_eq_true rfl) ?_) (fun _ _ q => q)
          show zGo X l 0 0 0 29 0 [(0, .ref 155)] [] w3M _
          refine zs_aload_n (pc := 0) t29_0 rfl ?_
          refine zs_get (pc := 1) t29_1 (by decide) (zk1 (w3s.k fk_zMc_155)) (zfvi rfl rfl) ?_
          refine zs_iret (pc := 4) t29_4 mr29 rfl ?_
          show zGo X l 4 0 0 83 48 [(0, .ref 157), (1, .ref 155), (2, .int w3x2)] [.int (zI w3M 155 2), .ref 155] w3M _
          refine zs_invV (pc := 48) (k := 155) (as' := [.int (zI w3M 155 2)]) (st := []) t83_48 mf34 rfl rfl (Or.inl ⟨by decide, (zk1 (w3s.k fk_zMc_155))⟩) ⟨by decide, by decide, Nat.le_of_ble_eq_true rfl, Nat.le_of_ble_eq_true rfl⟩ (zs_in (by decide) mf34 (Nat.le_of_ble_eq_true rfl) ?_) (fun _ _ q => q)
          show zGo X l 0 0 0 34 0 [(0, .ref 155), (1, .int (zI w3M 155 2))] [] w3M _
          refine zs_aload_n (pc := 0) t34_0 rfl ?_
          refine zs_iload_n (pc := 1) t34_1 rfl ?_
          have w8 : zIv cLo cHi (zsI w3M 155 3 (zI w3M 155 2)) := zIv.put w3I (show (-2147483648) ≤ (zI w3M 155 2).toInt ∧ (zI w3M 155 2).toInt ≤ 2147483647 from (zrg (zI w3M 155 2)))
          refine zs_putI (pc := 2) t34_2 (zk1 (w3s.k fk_zMc_155)) rfl ?_
          refine zs_iconst (pc := 5) t34_5 (v := 0) (by decide) ?_
          refine zs_iret (pc := 6) t34_6 mr34 (by decide) ?_
          show zGo X l 4 0 0 83 51 [(0, .ref 157), (1, .ref 155), (2, .int w3x2)] [.int (0 : Int32)] (zsI w3M 155 3 (zI w3M 155 2)) _
          refine zs_pop (pc := 51) t83_51 rfl ?_
          refine zs_iconst (pc := 52) t83_52 (v := -1) (by decide) ?_
          exact zs_iret (pc := 53) t83_53 mr83 (by decide) (hQ _ _ w3s w8 (((((zFr.refl).put rfl).put rfl).trans (w3F.mono rfl)).put rfl) (by decide) (by decide))
        · refine zs_icmp_ltF (pc := 8) t27_8 rfl rfl (by omega) ?_
          refine zs_iconst (pc := 11) t27_11 (v := 1) (by decide) ?_
          refine zs_goto (pc := 12) t27_12 ?_
          refine zs_iret (pc := 16) t27_16 mr27 (by decide) ?_
          show zGo X l 4 0 0 83 40 [(0, .ref 157), (1, .ref 155), (2, .int w3x2)] [.int (1 : Int32)] w3M _
          refine zs_if_neT (pc := 40) t83_40 li1 (by decide) ?_
          refine zs_iload_n (pc := 54) t83_54 rfl ?_
          exact zs_iret (pc := 55) t83_55 mr83 rfl (hQ _ _ w3s w3I ((((zFr.refl).put rfl).put rfl).trans (w3F.mono rfl)) (by omega) (by omega))
      · refine zs_icmp_geF (pc := 9) t83_9 rfl li20 (by omega) ?_
        refine zs_aload_n (pc := 12) t83_12 rfl ?_
        refine zs_invV (pc := 13) (k := 155) (as' := []) (st := []) t83_13 mf27 rfl rfl (Or.inl ⟨by decide, (zk1 (w3s.k fk_zMc_155))⟩) ⟨by decide, by decide, Nat.le_of_ble_eq_true rfl, Nat.le_of_ble_eq_true rfl⟩ (zs_in (by decide) mf27 (Nat.le_of_ble_eq_true rfl) ?_) (fun _ _ q => q)
        show zGo X l 0 0 0 27 0 [(0, .ref 155)] [] w3M _
        refine zs_aload_n (pc := 0) t27_0 rfl ?_
        have w9 := ib155_2 w3I
        refine zs_get (pc := 1) t27_1 (by decide) (zk1 (w3s.k fk_zMc_155)) (zfvi rfl rfl) ?_
        refine zs_aload_n (pc := 4) t27_4 rfl ?_
        have w10 := ib155_1 w3I
        refine zs_get (pc := 5) t27_5 (by decide) (zk1 (w3s.k fk_zMc_155)) (zfvi rfl rfl) ?_
        by_cases w11 : (zI w3M 155 2).toInt < (zI w3M 155 1).toInt
        · refine zs_icmp_ltT (pc := 8) t27_8 rfl rfl (by omega) ?_
          refine zs_iconst (pc := 15) t27_15 (v := 0) (by decide) ?_
          refine zs_iret (pc := 16) t27_16 mr27 (by decide) ?_
          show zGo X l 4 0 0 83 16 [(0, .ref 157), (1, .ref 155), (2, .int w3x2)] [.int (0 : Int32)] w3M _
          refine zs_if_neF (pc := 16) t83_16 li0 (by decide) ?_
          refine zs_aload_n (pc := 19) t83_19 rfl ?_
          refine zs_aload_n (pc := 20) t83_20 rfl ?_
          refine zs_iload_n (pc := 21) t83_21 rfl ?_
          refine zs_invV (pc := 22) (k := 157) (as' := [.ref 155, .int w3x2]) (st := []) t83_22 mf84 rfl rfl (Or.inl ⟨by decide, (zk1 (w3s.k fk_zMc_157))⟩) ⟨by decide, by decide, Nat.le_of_ble_eq_true rfl, Nat.le_of_ble_eq_true rfl⟩ (C84_157_155 w3s w3I ⟨by omega, by omega⟩ ?_) (fun _ _ q => q)
          intro w12M w12v w12s w12I w12F w12a w12b
          show zGo X l 4 0 0 83 25 [(0, .ref 157), (1, .ref 155), (2, .int w3x2)] [.int w12v] w12M _
          by_cases w13 : w12v.toInt ≠ 0
          · refine zs_if_neT (pc := 25) t83_25 rfl (by omega) ?_
            obtain ⟨w14v, w14e, w14⟩ := ziadd (a := w3x2) (b := Int32.ofInt 1) rfl (show (Int32.ofInt 1).toInt = 1 by decide) (by omega) (by omega)
            refine zs_iinc (pc := 30) t83_30 (ls' := [(2, .int w14v), (0, .ref 157), (1, .ref 155)]) (zml mf83 (by decide)) rfl (c := w14v) w14e rfl ?_
            refine zs_goto (pc := 33) t83_33 ?_
            refine zGo.locals (ls' := [(0, .ref 157), (1, .ref 155), (2, .int w14v)]) (by simp) ?_
            exact w3ih (w3m - 1) (by omega) w14v w12M ⟨by omega, by omega⟩ w12s w12I (((zFr.refl).trans (w3F.mono rfl)).trans (w12F.mono rfl)) (by omega)
          · refine zs_if_neF (pc := 25) t83_25 rfl (by omega) ?_
            refine zs_iconst (pc := 28) t83_28 (v := -1) (by decide) ?_
            exact zs_iret (pc := 29) t83_29 mr83 (by decide) (hQ _ _ w12s w12I (((((zFr.refl).put rfl).put rfl).trans (w3F.mono rfl)).trans (w12F.mono rfl)) (by decide) (by decide))
        · refine zs_icmp_ltF (pc := 8) t27_8 rfl rfl (by omega) ?_
          refine zs_iconst (pc := 11) t27_11 (v := 1) (by decide) ?_
          refine zs_goto (pc := 12) t27_12 ?_
          refine zs_iret (pc := 16) t27_16 mr27 (by decide) ?_
          show zGo X l 4 0 0 83 16 [(0, .ref 157), (1, .ref 155), (2, .int w3x2)] [.int (1 : Int32)] w3M _
          refine zs_if_neT (pc := 16) t83_16 li1 (by decide) ?_
          refine zs_aload_n (pc := 36) t83_36 rfl ?_
          refine zs_invV (pc := 37) (k := 155) (as' := []) (st := []) t83_37 mf27 rfl rfl (Or.inl ⟨by decide, (zk1 (w3s.k fk_zMc_155))⟩) ⟨by decide, by decide, Nat.le_of_ble_eq_true rfl, Nat.le_of_ble_eq_true rfl⟩ (zs_in (by decide) mf27 (Nat.le_of_ble_eq_true rfl) ?_) (fun _ _ q => q)
          show zGo X l 0 0 0 27 0 [(0, .ref 155)] [] w3M _
          refine zs_aload_n (pc := 0) t27_0 rfl ?_
          refine zs_get (pc := 1) t27_1 (by decide) (zk1 (w3s.k fk_zMc_155)) (zfvi rfl rfl) ?_
          refine zs_aload_n (pc := 4) t27_4 rfl ?_
          refine zs_get (pc := 5) t27_5 (by decide) (zk1 (w3s.k fk_zMc_155)) (zfvi rfl rfl) ?_
          by_cases w15 : (zI w3M 155 2).toInt < (zI w3M 155 1).toInt
          · refine zs_icmp_ltT (pc := 8) t27_8 rfl rfl (by omega) ?_
            refine zs_iconst (pc := 15) t27_15 (v := 0) (by decide) ?_
            refine zs_iret (pc := 16) t27_16 mr27 (by decide) ?_
            show zGo X l 4 0 0 83 40 [(0, .ref 157), (1, .ref 155), (2, .int w3x2)] [.int (0 : Int32)] w3M _
            refine zs_if_neF (pc := 40) t83_40 li0 (by decide) ?_
            refine zs_aload_n (pc := 43) t83_43 rfl ?_
            refine zs_aload_n (pc := 44) t83_44 rfl ?_
            refine zs_invV (pc := 45) (k := 155) (as' := []) (st := [.ref 155]) t83_45 mf29 rfl rfl (Or.inl ⟨by decide, (zk1 (w3s.k fk_zMc_155))⟩) ⟨by decide, by decide, Nat.le_of_ble_eq_true rfl, Nat.le_of_ble_eq_true rfl⟩ (zs_in (by decide) mf29 (Nat.le_of_ble_eq_true rfl) ?_) (fun _ _ q => q)
            show zGo X l 0 0 0 29 0 [(0, .ref 155)] [] w3M _
            refine zs_aload_n (pc := 0) t29_0 rfl ?_
            refine zs_get (pc := 1) t29_1 (by decide) (zk1 (w3s.k fk_zMc_155)) (zfvi rfl rfl) ?_
            refine zs_iret (pc := 4) t29_4 mr29 rfl ?_
            show zGo X l 4 0 0 83 48 [(0, .ref 157), (1, .ref 155), (2, .int w3x2)] [.int (zI w3M 155 2), .ref 155] w3M _
            refine zs_invV (pc := 48) (k := 155) (as' := [.int (zI w3M 155 2)]) (st := []) t83_48 mf34 rfl rfl (Or.inl ⟨by decide, (zk1 (w3s.k fk_zMc_155))⟩) ⟨by decide, by decide, Nat.le_of_ble_eq_true rfl, Nat.le_of_ble_eq_true rfl⟩ (zs_in (by decide) mf34 (Nat.le_of_ble_eq_true rfl) ?_) (fun _ _ q => q)
            show zGo X l 0 0 0 34 0 [(0, .ref 155), (1, .int (zI w3M 155 2))] [] w3M _
            refine zs_aload_n (pc := 0) t34_0 rfl ?_
            refine zs_iload_n (pc := 1) t34_1 rfl ?_
            have w16 : zIv cLo cHi (zsI w3M 155 3 (zI w3M 155 2)) := zIv.put w3I (show (-2147483648) ≤ (zI w3M 155 2).toInt ∧ (zI w3M 155 2).toInt ≤ 2147483647 from (zrg (zI w3M 155 2)))
            refine zs_putI (pc := 2) t34_2 (zk1 (w3s.k fk_zMc_155)) rfl ?_
            refine zs_iconst (pc := 5) t34_5 (v := 0) (by decide) ?_
            refine zs_iret (pc := 6) t34_6 mr34 (by decide) ?_
            show zGo X l 4 0 0 83 51 [(0, .ref 157), (1, .ref 155), (2, .int w3x2)] [.int (0 : Int32)] (zsI w3M 155 3 (zI w3M 155 2)) _
            refine zs_pop (pc := 51) t83_51 rfl ?_
            refine zs_iconst (pc := 52) t83_52 (v := -1) (by decide) ?_
            exact zs_iret (pc := 53) t83_53 mr83 (by decide) (hQ _ _ w3s w16 (((((zFr.refl).put rfl).put rfl).trans (w3F.mono rfl)).put rfl) (by decide) (by decide))
          · refine zs_icmp_ltF (pc := 8) t27_8 rfl rfl (by omega) ?_
            refine zs_iconst (pc := 11) t27_11 (v := 1) (by decide) ?_
            refine zs_goto (pc := 12) t27_12 ?_
            refine zs_iret (pc := 16) t27_16 mr27 (by decide) ?_
            show zGo X l 4 0 0 83 40 [(0, .ref 157), (1, .ref 155), (2, .int w3x2)] [.int (1 : Int32)] w3M _
            refine zs_if_neT (pc := 40) t83_40 li1 (by decide) ?_
            refine zs_iload_n (pc := 54) t83_54 rfl ?_
            exact zs_iret (pc := 55) t83_55 mr83 rfl (hQ _ _ w3s w3I ((((zFr.refl).put rfl).put rfl).trans (w3F.mono rfl)) (by omega) (by omega))
  refine zGo.locals (ls' := [(0, .ref 157), (1, .ref 155), (2, .int (0 : Int32))]) (by simp) ?_
  have w17 := li0
  exact w3L ((20 - 0 : Int).toNat) (0 : Int32) (zsI (zsI M 155 2 (0 : Int32)) 155 3 (-1 : Int32)) ⟨by decide, by decide⟩ hs w2 zFr.refl (by omega)

