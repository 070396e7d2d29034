/-! ===== memories that keep a table of bounds ===== -/
def zSk (Mz M : zM) : Prop := M.2.1 = Mz.2.1 ∧ M.2.2.2.2 = Mz.2.2.2.2
theorem zSk.k {Mz M : zM} {k c m : Nat} (h : zSk Mz M) (f : zK Mz k = (c, m)) : zK M k = (c, m) := (congrFun h.1 k).trans f
theorem zSk.p {Mz M : zM} {k j : Nat} {t : FieldType} {v : Value} (h : zSk Mz M) (ht : zft t = 2) (f : zfv Mz k t j = v) : zfv M k t j = v := (zfvP h.2 ht).trans f
theorem zSk.a {Mz M : zM} {k j : Nat} {v : Value} (h : zSk Mz M) (f : va_rf (zP Mz k j) = v) : va_rf (zP M k j) = v := by
  show va_rf (M.2.2.2.2 k j) = v
  rw [h.2]
  exact f
/-- every int lies within the table's bounds -/
def zIv (lo hi : Nat → Nat → Int) (M : zM) : Prop := ∀ k j, lo k j ≤ (zI M k j).toInt ∧ (zI M k j).toInt ≤ hi k j
theorem zIv.put {lo hi : Nat → Nat → Int} {M : zM} {k j : Nat} {v : Int32} (h : zIv lo hi M) (h1 : lo k j ≤ v.toInt ∧ v.toInt ≤ hi k j) : zIv lo hi (zsI M k j v) := by
  intro k' j'
  by_cases hk : k' = k
  · by_cases hj : j' = j
    · subst hk
      subst hj
      rw [zIs]
      exact h1
    · rw [zIoj hj]
      exact h k' j'
  · rw [zIo hk]
    exact h k' j'
theorem zIv.row {lo hi : Nat → Nat → Int} {M : zM} {k : Nat} {r : Nat → Int32} (h : zIv lo hi M) (h1 : ∀ j, lo k j ≤ (r j).toInt ∧ (r j).toInt ≤ hi k j) : zIv lo hi (zsR M k r) := by
  intro k' j'
  show lo k' j' ≤ (zr (zI M) k r k' j').toInt ∧ (zr (zI M) k r k' j').toInt ≤ hi k' j'
  unfold zr
  by_cases hk : k' = k
  · rw [if_pos hk, hk]
    exact h1 j'
  · rw [if_neg hk]
    exact h k' j'
theorem zcpyB {f g : Nat → Int32} {a b n j : Nat} {lo hi : Int} (hf : ∀ j, lo ≤ (f j).toInt ∧ (f j).toInt ≤ hi) (hg : ∀ j, lo ≤ (g j).toInt ∧ (g j).toInt ≤ hi) : lo ≤ (va_cpy f g a b n j).toInt ∧ (va_cpy f g a b n j).toInt ≤ hi := by
  unfold va_cpy
  split
  · exact hf _
  · exact hg _
/-- cells, or fields of cells, that may have been written -/
abbrev zW : Type := List (Nat × Nat × Option Nat)
def zinW (W : zW) (k j : Nat) : Bool := W.any (fun p => Nat.ble p.1 k && (Nat.ble k p.2.1 && (match p.2.2 with
  | none => true
  | some i => Nat.beq i j)))
def zFr (W : zW) (M M' : zM) : Prop := ∀ k j, zinW W k j = false → zI M' k j = zI M k j
theorem zFr.refl {W : zW} {M : zM} : zFr W M M := fun _ _ _ => rfl
theorem zFr.put {W : zW} {M M' : zM} {k j : Nat} {v : Int32} (h : zFr W M M') (hw : zinW W k j = true) : zFr W M (zsI M' k j v) := by
  intro k' j' h'
  by_cases hk : k' = k
  · by_cases hj : j' = j
    · subst hk
      subst hj
      rw [hw] at h'
      cases h'
    · rw [zIoj hj]
      exact h k' j' h'
  · rw [zIo hk]
    exact h k' j' h'
theorem zFr.row {W : zW} {M M' : zM} {k : Nat} {r : Nat → Int32} (h : zFr W M M') (hw : ∀ j, zinW W k j = true) : zFr W M (zsR M' k r) := by
  intro k' j' h'
  by_cases hk : k' = k
  · subst hk
    rw [hw j'] at h'
    cases h'
  · show zr (zI M') k r k' j' = _
    unfold zr
    rw [if_neg hk]
    exact h k' j' h'
theorem zFr.trans {W : zW} {M M' M'' : zM} (h : zFr W M M') (h' : zFr W M' M'') : zFr W M M'' := fun k j q => (h' k j q).trans (h k j q)
def zsub (W W' : zW) : Bool := W.all (fun p => W'.any (fun q => Nat.ble q.1 p.1 && (Nat.ble p.2.1 q.2.1 && (match q.2.2 with
  | none => true
  | some i => match p.2.2 with
    | none => false
    | some i' => Nat.beq i i'))))
theorem zsub_in {W W' : zW} {k j : Nat} (h : zsub W W' = true) (hk : zinW W k j = true) : zinW W' k j = true := by
  unfold zinW at hk ⊢
  rw [List.any_eq_true] at hk ⊢
  obtain ⟨p, hp, hk⟩ := hk
  unfold zsub at h
  have h1 := List.all_eq_true.mp h p hp
  rw [List.any_eq_true] at h1
  obtain ⟨q, hq, h1⟩ := h1
  refine ⟨q, hq, ?_⟩
  rw [Bool.and_eq_true, Bool.and_eq_true, Nat.ble_eq, Nat.ble_eq] at hk h1 ⊢
  refine ⟨by omega, by omega, ?_⟩
  have h2 := h1.2.2
  have h3 := hk.2.2
  cases hqi : q.2.2 with
  | none => rfl
  | some i =>
    rw [hqi] at h2
    cases hpi : p.2.2 with
    | none => rw [hpi] at h2; cases h2
    | some i' =>
      rw [hpi] at h2 h3
      have e1 : i = i' := Nat.eq_of_beq_eq_true h2
      rw [e1]
      exact h3
theorem zFr.mono {W W' : zW} {M M' : zM} (h : zFr W M M') (hw : zsub W W' = true) : zFr W' M M' := by
  intro k j q
  refine h k j ?_
  cases hz : zinW W k j with
  | false => rfl
  | true => rw [zsub_in hw hz] at q; cases q
theorem znb (v : Int32) : -128 ≤ (vp_nar .byte v).toInt ∧ (vp_nar .byte v).toInt ≤ 127 := by
  have e : vp_nar .byte v = v.toInt8.toInt32 := rfl
  rw [e, Int8.toInt_toInt32]
  have h1 := Int8.le_toInt v.toInt8
  have h2 := Int8.toInt_lt v.toInt8
  omega
theorem zfb01 {v : Int32} (h : 0 ≤ v.toInt ∧ v.toInt ≤ 1) : zfiB .boolean v = true := by
  unfold zfiB
  rw [Bool.or_eq_true, decide_eq_true_eq, decide_eq_true_eq]
  by_cases q : v.toInt = 0
  · exact Or.inl ((zeq q (by decide : (0 : Int32).toInt = 0)).mpr rfl)
  · exact Or.inr ((zeq (ea := 1) (by omega) (by decide : (1 : Int32).toInt = 1)).mpr rfl)
theorem zand {a m : Int32} {e : Int} (hm : m.toInt = e) (h : 0 ≤ e) : 0 ≤ (a &&& m).toInt ∧ (a &&& m).toInt ≤ e := by
  subst hm
  have hmb : m.toBitVec.msb = false := by
    rw [BitVec.msb_eq_toInt]
    exact decide_eq_false (by show ¬ m.toInt < 0; omega)
  have e1 : (a &&& m).toInt = ((a.toBitVec &&& m.toBitVec).toNat : Int) := by
    show (a.toBitVec &&& m.toBitVec).toInt = _
    rw [BitVec.toInt_eq_toNat_of_msb (by rw [BitVec.msb_and, hmb, Bool.and_false])]
  have e2 : m.toInt = (m.toBitVec.toNat : Int) := by
    show m.toBitVec.toInt = _
    rw [BitVec.toInt_eq_toNat_of_msb hmb]
  rw [e1, e2, BitVec.toNat_and]
  have := Nat.and_le_right (n := a.toBitVec.toNat) (m := m.toBitVec.toNat)
  omega
theorem znz {b : Int32} {e : Int} (hb : b.toInt = e) (h : e ≠ 0) : b ≠ 0 := fun q => h (by rw [← hb, q]; decide)
theorem zmulc {a b : Int32} {ea eb : Int} (ha : a.toInt = ea) (hb : b.toInt = eb) (h1 : -2147483648 ≤ ea * eb) (h2 : ea * eb ≤ 2147483647) : (a * b).toInt = ea * eb := by
  rw [Int32.toInt_mul, ha, hb]
  exact Int.bmod_eq_of_le (by omega) (by omega)
theorem zdivp {a b : Int32} {ea eb : Int} (ha : a.toInt = ea) (hb : b.toInt = eb) (h1 : 0 ≤ ea) (h2 : 0 < eb) : (a / b).toInt = ea / eb := by
  have hq : (a / b).toInt = (a.toInt.tdiv b.toInt).bmod (2 ^ 32) := Int32.toInt_div a b
  rw [hq, ha, hb, Int.tdiv_eq_ediv_of_nonneg h1]
  have g := zrg a
  have h3 : ea / eb ≤ ea := Int.ediv_le_self eb h1
  have h4 : 0 ≤ ea / eb := Int.ediv_nonneg h1 (Int.le_of_lt h2)
  exact Int.bmod_eq_of_le (by omega) (by omega)
theorem zrem {a b : Int32} {ea eb : Int} (ha : a.toInt = ea) (hb : b.toInt = eb) (h1 : 0 ≤ ea) (h2 : 0 < eb) : 0 ≤ (a - a / b * b).toInt ∧ (a - a / b * b).toInt ≤ eb - 1 := by
  have hd := zdivp ha hb h1 h2
  have g := zrg a
  have h5 := Int.emod_add_mul_ediv ea eb
  have h6 := Int.emod_nonneg ea (show eb ≠ 0 by omega)
  have h7 := Int.emod_lt_of_pos ea h2
  have h8 : 0 ≤ ea / eb * eb := Int.mul_nonneg (Int.ediv_nonneg h1 (Int.le_of_lt h2)) (Int.le_of_lt h2)
  have h9 : ea / eb * eb = eb * (ea / eb) := Int.mul_comm _ _
  have hm := zmulc hd hb (by omega) (by omega)
  obtain ⟨v, e1, e2⟩ := zisub ha hm (by omega) (by omega)
  rw [e1, e2]
  omega
theorem znc16 (v : Int32) : 0 ≤ ((v.toUInt32 % 65536).toInt32).toInt ∧ ((v.toUInt32 % 65536).toInt32).toInt ≤ 65535 := by
  have h : (v.toUInt32 % 65536).toNat < 65536 := by
    rw [UInt32.toNat_mod]
    exact Nat.mod_lt _ (by decide)
  have e : ((v.toUInt32 % 65536).toInt32).toInt = ((v.toUInt32 % 65536).toNat : Int) := by
    show ((v.toUInt32 % 65536).toBitVec).toInt = ((v.toUInt32 % 65536).toBitVec.toNat : Int)
    exact BitVec.toInt_eq_toNat_of_lt (by have h2 : (v.toUInt32 % 65536).toBitVec.toNat < 65536 := h; omega)
  omega

def cLo (k j : Nat) : Int := cond (Nat.ble 336 k) (-2147483648) (cond (Nat.ble 168 k) (cond (Nat.ble 252 k) (cond (Nat.ble 294 k) (cond (Nat.ble 315 k) (cond (Nat.ble 325 k) (cond (Nat.ble 330 k) (cond (Nat.ble 333 k) (cond (Nat.ble 334 k) (cond (Nat.ble 335 k) ((-128)) ((-2147483648))) ((-2147483648))) ((-2147483648))) (cond (Nat.ble 327 k) ((-2147483648)) (cond (Nat.ble 326 k) (0) (cond (Nat.beq j 0) 0 ((-2147483648)))))) (cond (Nat.ble 320 k) (cond (Nat.ble 322 k) (cond (Nat.ble 323 k) (cond (Nat.ble 324 k) ((-2147483648)) (0)) ((-2147483648))) ((-2147483648))) (cond (Nat.ble 317 k) ((-2147483648)) (cond (Nat.ble 316 k) ((-2147483648)) ((-2)))))) (cond (Nat.ble 304 k) (cond (Nat.ble 309 k) (cond (Nat.ble 312 k) (cond (Nat.ble 313 k) (cond (Nat.ble 314 k) (cond (Nat.beq j 0) (-3) (cond (Nat.beq j 1) (-20) ((-2147483648)))) ((-2147483648))) ((-2))) (cond (Nat.ble 310 k) (cond (Nat.ble 311 k) (cond (Nat.beq j 0) (-3) (cond (Nat.beq j 1) (-20) ((-2147483648)))) ((-2147483648))) ((-2)))) (cond (Nat.ble 306 k) (cond (Nat.ble 307 k) (cond (Nat.ble 308 k) (cond (Nat.beq j 0) (-3) (cond (Nat.beq j 1) (-20) ((-2147483648)))) ((-2147483648))) ((-2))) (cond (Nat.ble 305 k) (cond (Nat.beq j 0) (-3) (cond (Nat.beq j 1) (-20) ((-2147483648)))) ((-2147483648))))) (cond (Nat.ble 299 k) (cond (Nat.ble 301 k) (cond (Nat.ble 302 k) (cond (Nat.ble 303 k) ((-2)) (cond (Nat.beq j 0) (-3) (cond (Nat.beq j 1) (-20) ((-2147483648))))) ((-2147483648))) (cond (Nat.ble 300 k) ((-2)) (cond (Nat.beq j 0) (-3) (cond (Nat.beq j 1) (-20) ((-2147483648)))))) (cond (Nat.ble 296 k) (cond (Nat.ble 297 k) (cond (Nat.ble 298 k) ((-2147483648)) ((-2))) (cond (Nat.beq j 0) (-3) (cond (Nat.beq j 1) (-20) ((-2147483648))))) (cond (Nat.ble 295 k) ((-2147483648)) ((-2))))))) (cond (Nat.ble 273 k) (cond (Nat.ble 283 k) (cond (Nat.ble 288 k) (cond (Nat.ble 291 k) (cond (Nat.ble 292 k) (cond (Nat.ble 293 k) (cond (Nat.beq j 0) (-3) (cond (Nat.beq j 1) (-20) ((-2147483648)))) ((-2147483648))) ((-2))) (cond (Nat.ble 289 k) (cond (Nat.ble 290 k) (cond (Nat.beq j 0) (-3) (cond (Nat.beq j 1) (-20) ((-2147483648)))) ((-2147483648))) ((-2)))) (cond (Nat.ble 285 k) (cond (Nat.ble 286 k) (cond (Nat.ble 287 k) (cond (Nat.beq j 0) (-3) (cond (Nat.beq j 1) (-20) ((-2147483648)))) ((-2147483648))) ((-2))) (cond (Nat.ble 284 k) (cond (Nat.beq j 0) (-3) (cond (Nat.beq j 1) (-20) ((-2147483648)))) ((-2147483648))))) (cond (Nat.ble 278 k) (cond (Nat.ble 280 k) (cond (Nat.ble 281 k) (cond (Nat.ble 282 k) ((-2)) (cond (Nat.beq j 0) (-3) (cond (Nat.beq j 1) (-20) ((-2147483648))))) ((-2147483648))) (cond (Nat.ble 279 k) ((-2)) (cond (Nat.beq j 0) (-3) (cond (Nat.beq j 1) (-20) ((-2147483648)))))) (cond (Nat.ble 275 k) (cond (Nat.ble 276 k) (cond (Nat.ble 277 k) ((-2147483648)) ((-2))) (cond (Nat.beq j 0) (-3) (cond (Nat.beq j 1) (-20) ((-2147483648))))) (cond (Nat.ble 274 k) ((-2147483648)) ((-2)))))) (cond (Nat.ble 262 k) (cond (Nat.ble 267 k) (cond (Nat.ble 270 k) (cond (Nat.ble 271 k) (cond (Nat.ble 272 k) (cond (Nat.beq j 0) (-3) (cond (Nat.beq j 1) (-20) ((-2147483648)))) ((-2147483648))) ((-2))) (cond (Nat.ble 268 k) (cond (Nat.ble 269 k) (cond (Nat.beq j 0) (-3) (cond (Nat.beq j 1) (-20) ((-2147483648)))) ((-2147483648))) ((-2)))) (cond (Nat.ble 264 k) (cond (Nat.ble 265 k) (cond (Nat.ble 266 k) (cond (Nat.beq j 0) (-3) (cond (Nat.beq j 1) (-20) ((-2147483648)))) ((-2147483648))) ((-2))) (cond (Nat.ble 263 k) (cond (Nat.beq j 0) (-3) (cond (Nat.beq j 1) (-20) ((-2147483648)))) ((-2147483648))))) (cond (Nat.ble 257 k) (cond (Nat.ble 259 k) (cond (Nat.ble 260 k) (cond (Nat.ble 261 k) ((-2)) (cond (Nat.beq j 0) (-3) (cond (Nat.beq j 1) (-20) ((-2147483648))))) ((-2147483648))) (cond (Nat.ble 258 k) ((-2)) (cond (Nat.beq j 0) (-3) (cond (Nat.beq j 1) (-20) ((-2147483648)))))) (cond (Nat.ble 254 k) (cond (Nat.ble 255 k) ((-2147483648)) (0)) ((-2147483648))))))) (cond (Nat.ble 210 k) (cond (Nat.ble 231 k) (cond (Nat.ble 241 k) (cond (Nat.ble 246 k) (cond (Nat.ble 249 k) ((-2147483648)) (cond (Nat.ble 247 k) (0) ((-2147483648)))) (cond (Nat.ble 243 k) (cond (Nat.ble 244 k) (cond (Nat.ble 245 k) ((-2147483648)) ((-20))) ((-3))) (cond (Nat.ble 242 k) (cond (Nat.beq j 0) 0 (cond (Nat.beq j 5) 1 (cond (Nat.beq j 6) 0 (cond (Nat.beq j 15) 0 ((-2147483648)))))) (cond (Nat.beq j 2) 0 ((-2147483648)))))) (cond (Nat.ble 236 k) (cond (Nat.ble 238 k) (cond (Nat.ble 239 k) (cond (Nat.ble 240 k) ((-2147483648)) ((-2))) (cond (Nat.beq j 0) (-3) (cond (Nat.beq j 1) (-20) ((-2147483648))))) (cond (Nat.ble 237 k) ((-2147483648)) ((-2)))) (cond (Nat.ble 233 k) (cond (Nat.ble 234 k) (cond (Nat.ble 235 k) (cond (Nat.beq j 0) (-3) (cond (Nat.beq j 1) (-20) ((-2147483648)))) ((-2147483648))) ((-2))) (cond (Nat.ble 232 k) (cond (Nat.beq j 0) (-3) (cond (Nat.beq j 1) (-20) ((-2147483648)))) ((-2147483648)))))) (cond (Nat.ble 220 k) (cond (Nat.ble 225 k) (cond (Nat.ble 228 k) (cond (Nat.ble 229 k) (cond (Nat.ble 230 k) ((-2)) (cond (Nat.beq j 0) (-3) (cond (Nat.beq j 1) (-20) ((-2147483648))))) ((-2147483648))) (cond (Nat.ble 226 k) (cond (Nat.ble 227 k) ((-2)) (cond (Nat.beq j 0) (-3) (cond (Nat.beq j 1) (-20) ((-2147483648))))) ((-2147483648)))) (cond (Nat.ble 222 k) (cond (Nat.ble 223 k) (cond (Nat.ble 224 k) ((-2)) (cond (Nat.beq j 0) (-3) (cond (Nat.beq j 1) (-20) ((-2147483648))))) ((-2147483648))) (cond (Nat.ble 221 k) ((-2)) (cond (Nat.beq j 0) (-3) (cond (Nat.beq j 1) (-20) ((-2147483648))))))) (cond (Nat.ble 215 k) (cond (Nat.ble 217 k) (cond (Nat.ble 218 k) (cond (Nat.ble 219 k) ((-2147483648)) ((-2))) (cond (Nat.beq j 0) (-3) (cond (Nat.beq j 1) (-20) ((-2147483648))))) (cond (Nat.ble 216 k) ((-2147483648)) ((-2)))) (cond (Nat.ble 212 k) (cond (Nat.ble 213 k) (cond (Nat.ble 214 k) (cond (Nat.beq j 0) (-3) (cond (Nat.beq j 1) (-20) ((-2147483648)))) ((-2147483648))) ((-2))) (cond (Nat.ble 211 k) (cond (Nat.beq j 0) (-3) (cond (Nat.beq j 1) (-20) ((-2147483648)))) ((-2147483648))))))) (cond (Nat.ble 189 k) (cond (Nat.ble 199 k) (cond (Nat.ble 204 k) (cond (Nat.ble 207 k) (cond (Nat.ble 208 k) (cond (Nat.ble 209 k) ((-2)) (cond (Nat.beq j 0) (-3) (cond (Nat.beq j 1) (-20) ((-2147483648))))) ((-2147483648))) (cond (Nat.ble 205 k) (cond (Nat.ble 206 k) ((-2)) (cond (Nat.beq j 0) (-3) (cond (Nat.beq j 1) (-20) ((-2147483648))))) ((-2147483648)))) (cond (Nat.ble 201 k) (cond (Nat.ble 202 k) (cond (Nat.ble 203 k) ((-2)) (cond (Nat.beq j 0) (-3) (cond (Nat.beq j 1) (-20) ((-2147483648))))) ((-2147483648))) (cond (Nat.ble 200 k) ((-2)) (cond (Nat.beq j 0) (-3) (cond (Nat.beq j 1) (-20) ((-2147483648))))))) (cond (Nat.ble 194 k) (cond (Nat.ble 196 k) (cond (Nat.ble 197 k) (cond (Nat.ble 198 k) ((-2147483648)) ((-2))) (cond (Nat.beq j 0) (-3) (cond (Nat.beq j 1) (-20) ((-2147483648))))) (cond (Nat.ble 195 k) ((-2147483648)) ((-2)))) (cond (Nat.ble 191 k) (cond (Nat.ble 192 k) (cond (Nat.ble 193 k) (cond (Nat.beq j 0) (-3) (cond (Nat.beq j 1) (-20) ((-2147483648)))) ((-2147483648))) ((-2))) (cond (Nat.ble 190 k) (cond (Nat.beq j 0) (-3) (cond (Nat.beq j 1) (-20) ((-2147483648)))) ((-2147483648)))))) (cond (Nat.ble 178 k) (cond (Nat.ble 183 k) (cond (Nat.ble 186 k) (cond (Nat.ble 187 k) (cond (Nat.ble 188 k) ((-2)) (cond (Nat.beq j 0) (-3) (cond (Nat.beq j 1) (-20) ((-2147483648))))) ((-2147483648))) (cond (Nat.ble 184 k) (cond (Nat.ble 185 k) ((-2)) (cond (Nat.beq j 0) (-3) (cond (Nat.beq j 1) (-20) ((-2147483648))))) ((-2147483648)))) (cond (Nat.ble 180 k) (cond (Nat.ble 181 k) (cond (Nat.ble 182 k) ((-2)) (cond (Nat.beq j 0) (-3) (cond (Nat.beq j 1) (-20) ((-2147483648))))) ((-2147483648))) (cond (Nat.ble 179 k) ((-2147483648)) (0)))) (cond (Nat.ble 173 k) ((-2147483648)) (cond (Nat.ble 170 k) (cond (Nat.ble 171 k) (0) ((-2147483648))) (cond (Nat.ble 169 k) ((-2147483648)) ((-20))))))))) (cond (Nat.ble 84 k) (cond (Nat.ble 126 k) (cond (Nat.ble 147 k) (cond (Nat.ble 157 k) (cond (Nat.ble 162 k) (cond (Nat.ble 165 k) (cond (Nat.ble 166 k) (cond (Nat.ble 167 k) ((-3)) (cond (Nat.beq j 0) 0 (cond (Nat.beq j 5) 1 (cond (Nat.beq j 6) 0 (cond (Nat.beq j 15) 0 ((-2147483648))))))) (cond (Nat.beq j 2) 0 ((-2147483648)))) (cond (Nat.ble 163 k) (cond (Nat.ble 164 k) (cond (Nat.beq j 0) 0 (cond (Nat.beq j 4) 0 (cond (Nat.beq j 5) 0 (cond (Nat.beq j 9) 0 ((-2147483648)))))) ((-128))) ((-2147483648)))) (cond (Nat.ble 159 k) (cond (Nat.ble 160 k) (cond (Nat.ble 161 k) (cond (Nat.beq j 2) 0 (cond (Nat.beq j 3) 0 (cond (Nat.beq j 4) 0 ((-2147483648))))) ((-2147483648))) ((-2147483648))) ((-2147483648)))) (cond (Nat.ble 152 k) (cond (Nat.ble 154 k) (cond (Nat.ble 155 k) (cond (Nat.ble 156 k) ((-128)) (cond (Nat.beq j 1) 0 ((-2147483648)))) ((-128))) ((-2147483648))) ((-2147483648)))) (cond (Nat.ble 136 k) (cond (Nat.ble 141 k) (cond (Nat.ble 144 k) (cond (Nat.ble 145 k) (0) ((-2147483648))) (cond (Nat.ble 142 k) (cond (Nat.ble 143 k) (cond (Nat.beq j 0) 0 (cond (Nat.beq j 3) 0 (cond (Nat.beq j 8) 0 (cond (Nat.beq j 13) 0 ((-2147483648)))))) ((-128))) ((-2147483648)))) ((-2147483648))) (cond (Nat.ble 131 k) (cond (Nat.ble 133 k) (cond (Nat.ble 134 k) (cond (Nat.ble 135 k) ((-2147483648)) (0)) (0)) (cond (Nat.ble 132 k) ((-2147483648)) (cond (Nat.beq j 0) 0 (cond (Nat.beq j 3) 0 (cond (Nat.beq j 8) 0 (cond (Nat.beq j 13) 0 ((-2147483648)))))))) (cond (Nat.ble 128 k) (cond (Nat.ble 129 k) (cond (Nat.ble 130 k) ((-128)) ((-2147483648))) ((-2147483648))) ((-2147483648)))))) (cond (Nat.ble 105 k) (cond (Nat.ble 115 k) (cond (Nat.ble 120 k) (cond (Nat.ble 123 k) ((-2147483648)) (cond (Nat.ble 121 k) (0) ((-2147483648)))) (cond (Nat.ble 117 k) (cond (Nat.ble 118 k) (cond (Nat.ble 119 k) (cond (Nat.beq j 0) 0 (cond (Nat.beq j 3) 0 (cond (Nat.beq j 8) 0 (cond (Nat.beq j 13) 0 ((-2147483648)))))) ((-128))) ((-2147483648))) ((-2147483648)))) (cond (Nat.ble 110 k) (cond (Nat.ble 112 k) ((-2147483648)) (cond (Nat.ble 111 k) ((-2147483648)) (0))) (cond (Nat.ble 107 k) (cond (Nat.ble 108 k) (cond (Nat.ble 109 k) (0) ((-2147483648))) (cond (Nat.beq j 0) 0 (cond (Nat.beq j 3) 0 (cond (Nat.beq j 8) 0 (cond (Nat.beq j 13) 0 ((-2147483648))))))) (cond (Nat.ble 106 k) ((-128)) ((-2147483648)))))) (cond (Nat.ble 94 k) (cond (Nat.ble 99 k) ((-2147483648)) (cond (Nat.ble 96 k) (cond (Nat.ble 97 k) (0) ((-2147483648))) (cond (Nat.ble 95 k) (cond (Nat.beq j 0) 0 (cond (Nat.beq j 3) 0 (cond (Nat.beq j 8) 0 (cond (Nat.beq j 13) 0 ((-2147483648)))))) ((-128))))) (cond (Nat.ble 89 k) ((-2147483648)) (cond (Nat.ble 86 k) (cond (Nat.ble 87 k) ((-2147483648)) (0)) (cond (Nat.ble 85 k) (0) ((-2147483648)))))))) (cond (Nat.ble 42 k) (cond (Nat.ble 63 k) (cond (Nat.ble 73 k) (cond (Nat.ble 78 k) (cond (Nat.ble 81 k) (cond (Nat.ble 82 k) (cond (Nat.ble 83 k) (cond (Nat.beq j 0) 0 (cond (Nat.beq j 3) 0 (cond (Nat.beq j 8) 0 (cond (Nat.beq j 13) 0 ((-2147483648)))))) ((-128))) ((-2147483648))) ((-2147483648))) (cond (Nat.ble 75 k) ((-2147483648)) (0))) (cond (Nat.ble 68 k) (cond (Nat.ble 70 k) (cond (Nat.ble 71 k) (cond (Nat.ble 72 k) ((-2147483648)) (cond (Nat.beq j 0) 0 (cond (Nat.beq j 3) 0 (cond (Nat.beq j 8) 0 (cond (Nat.beq j 13) 0 ((-2147483648))))))) ((-128))) ((-2147483648))) ((-2147483648)))) (cond (Nat.ble 52 k) (cond (Nat.ble 57 k) (cond (Nat.ble 60 k) (cond (Nat.ble 61 k) (0) ((-2147483648))) (cond (Nat.ble 58 k) (cond (Nat.ble 59 k) (cond (Nat.beq j 0) 0 (cond (Nat.beq j 3) 0 (cond (Nat.beq j 8) 0 (cond (Nat.beq j 13) 0 ((-2147483648)))))) ((-128))) ((-2147483648)))) ((-2147483648))) (cond (Nat.ble 47 k) (cond (Nat.ble 49 k) (cond (Nat.ble 50 k) (cond (Nat.ble 51 k) ((-2147483648)) (0)) (0)) (cond (Nat.ble 48 k) ((-2147483648)) (cond (Nat.beq j 0) 0 (cond (Nat.beq j 3) 0 (cond (Nat.beq j 8) 0 (cond (Nat.beq j 13) 0 ((-2147483648)))))))) (cond (Nat.ble 44 k) (cond (Nat.ble 45 k) (cond (Nat.ble 46 k) ((-128)) ((-2147483648))) ((-2147483648))) ((-2147483648)))))) (cond (Nat.ble 21 k) (cond (Nat.ble 31 k) (cond (Nat.ble 36 k) (cond (Nat.ble 39 k) ((-2147483648)) (cond (Nat.ble 37 k) (0) ((-2147483648)))) (cond (Nat.ble 33 k) (cond (Nat.ble 34 k) (cond (Nat.ble 35 k) (cond (Nat.beq j 0) 0 (cond (Nat.beq j 3) 0 (cond (Nat.beq j 8) 0 (cond (Nat.beq j 13) 0 ((-2147483648)))))) (0)) ((-2147483648))) (cond (Nat.ble 32 k) ((-2147483648)) (cond (Nat.beq j 1) 0 (cond (Nat.beq j 2) 0 ((-2147483648))))))) (cond (Nat.ble 26 k) (cond (Nat.ble 28 k) (cond (Nat.ble 29 k) (cond (Nat.ble 30 k) ((-128)) ((-2147483648))) ((-2147483648))) ((-2147483648))) (cond (Nat.ble 23 k) ((-2147483648)) (0)))) (cond (Nat.ble 10 k) (cond (Nat.ble 15 k) (cond (Nat.ble 18 k) (cond (Nat.ble 19 k) (cond (Nat.ble 20 k) ((-2147483648)) (cond (Nat.beq j 0) 0 (cond (Nat.beq j 3) 0 (cond (Nat.beq j 8) 0 (cond (Nat.beq j 13) 0 ((-2147483648))))))) ((-128))) ((-2147483648))) (cond (Nat.ble 12 k) ((-2147483648)) (cond (Nat.ble 11 k) ((-2147483648)) (0)))) (cond (Nat.ble 5 k) (cond (Nat.ble 7 k) (cond (Nat.ble 8 k) (cond (Nat.ble 9 k) (0) ((-2147483648))) (cond (Nat.beq j 0) 0 (cond (Nat.beq j 3) 0 (cond (Nat.beq j 8) 0 (cond (Nat.beq j 13) 0 ((-2147483648))))))) (cond (Nat.ble 6 k) (cond (Nat.beq j 10) 0 ((-2147483648))) ((-2147483648)))) ((-2147483648))))))))
def cHi (k j : Nat) : Int := cond (Nat.ble 336 k) 2147483647 (cond (Nat.ble 168 k) (cond (Nat.ble 252 k) (cond (Nat.ble 294 k) (cond (Nat.ble 315 k) (cond (Nat.ble 325 k) (cond (Nat.ble 330 k) (cond (Nat.ble 333 k) (cond (Nat.ble 334 k) (cond (Nat.ble 335 k) (127) (2147483647)) (2147483647)) (2147483647)) (cond (Nat.ble 327 k) (2147483647) (cond (Nat.ble 326 k) (20) (cond (Nat.beq j 0) 1 (2147483647))))) (cond (Nat.ble 320 k) (cond (Nat.ble 322 k) (cond (Nat.ble 323 k) (cond (Nat.ble 324 k) (2147483647) (1)) (2147483647)) (2147483647)) (cond (Nat.ble 317 k) (2147483647) (cond (Nat.ble 316 k) (2147483647) (59))))) (cond (Nat.ble 304 k) (cond (Nat.ble 309 k) (cond (Nat.ble 312 k) (cond (Nat.ble 313 k) (cond (Nat.ble 314 k) (cond (Nat.beq j 0) 3 (cond (Nat.beq j 1) 20 (2147483647))) (2147483647)) (59)) (cond (Nat.ble 310 k) (cond (Nat.ble 311 k) (cond (Nat.beq j 0) 3 (cond (Nat.beq j 1) 20 (2147483647))) (2147483647)) (59))) (cond (Nat.ble 306 k) (cond (Nat.ble 307 k) (cond (Nat.ble 308 k) (cond (Nat.beq j 0) 3 (cond (Nat.beq j 1) 20 (2147483647))) (2147483647)) (59)) (cond (Nat.ble 305 k) (cond (Nat.beq j 0) 3 (cond (Nat.beq j 1) 20 (2147483647))) (2147483647)))) (cond (Nat.ble 299 k) (cond (Nat.ble 301 k) (cond (Nat.ble 302 k) (cond (Nat.ble 303 k) (59) (cond (Nat.beq j 0) 3 (cond (Nat.beq j 1) 20 (2147483647)))) (2147483647)) (cond (Nat.ble 300 k) (59) (cond (Nat.beq j 0) 3 (cond (Nat.beq j 1) 20 (2147483647))))) (cond (Nat.ble 296 k) (cond (Nat.ble 297 k) (cond (Nat.ble 298 k) (2147483647) (59)) (cond (Nat.beq j 0) 3 (cond (Nat.beq j 1) 20 (2147483647)))) (cond (Nat.ble 295 k) (2147483647) (59)))))) (cond (Nat.ble 273 k) (cond (Nat.ble 283 k) (cond (Nat.ble 288 k) (cond (Nat.ble 291 k) (cond (Nat.ble 292 k) (cond (Nat.ble 293 k) (cond (Nat.beq j 0) 3 (cond (Nat.beq j 1) 20 (2147483647))) (2147483647)) (59)) (cond (Nat.ble 289 k) (cond (Nat.ble 290 k) (cond (Nat.beq j 0) 3 (cond (Nat.beq j 1) 20 (2147483647))) (2147483647)) (59))) (cond (Nat.ble 285 k) (cond (Nat.ble 286 k) (cond (Nat.ble 287 k) (cond (Nat.beq j 0) 3 (cond (Nat.beq j 1) 20 (2147483647))) (2147483647)) (59)) (cond (Nat.ble 284 k) (cond (Nat.beq j 0) 3 (cond (Nat.beq j 1) 20 (2147483647))) (2147483647)))) (cond (Nat.ble 278 k) (cond (Nat.ble 280 k) (cond (Nat.ble 281 k) (cond (Nat.ble 282 k) (59) (cond (Nat.beq j 0) 3 (cond (Nat.beq j 1) 20 (2147483647)))) (2147483647)) (cond (Nat.ble 279 k) (59) (cond (Nat.beq j 0) 3 (cond (Nat.beq j 1) 20 (2147483647))))) (cond (Nat.ble 275 k) (cond (Nat.ble 276 k) (cond (Nat.ble 277 k) (2147483647) (59)) (cond (Nat.beq j 0) 3 (cond (Nat.beq j 1) 20 (2147483647)))) (cond (Nat.ble 274 k) (2147483647) (59))))) (cond (Nat.ble 262 k) (cond (Nat.ble 267 k) (cond (Nat.ble 270 k) (cond (Nat.ble 271 k) (cond (Nat.ble 272 k) (cond (Nat.beq j 0) 3 (cond (Nat.beq j 1) 20 (2147483647))) (2147483647)) (59)) (cond (Nat.ble 268 k) (cond (Nat.ble 269 k) (cond (Nat.beq j 0) 3 (cond (Nat.beq j 1) 20 (2147483647))) (2147483647)) (59))) (cond (Nat.ble 264 k) (cond (Nat.ble 265 k) (cond (Nat.ble 266 k) (cond (Nat.beq j 0) 3 (cond (Nat.beq j 1) 20 (2147483647))) (2147483647)) (59)) (cond (Nat.ble 263 k) (cond (Nat.beq j 0) 3 (cond (Nat.beq j 1) 20 (2147483647))) (2147483647)))) (cond (Nat.ble 257 k) (cond (Nat.ble 259 k) (cond (Nat.ble 260 k) (cond (Nat.ble 261 k) (59) (cond (Nat.beq j 0) 3 (cond (Nat.beq j 1) 20 (2147483647)))) (2147483647)) (cond (Nat.ble 258 k) (59) (cond (Nat.beq j 0) 3 (cond (Nat.beq j 1) 20 (2147483647))))) (cond (Nat.ble 254 k) (cond (Nat.ble 255 k) (2147483647) (127)) (2147483647)))))) (cond (Nat.ble 210 k) (cond (Nat.ble 231 k) (cond (Nat.ble 241 k) (cond (Nat.ble 246 k) (cond (Nat.ble 249 k) (2147483647) (cond (Nat.ble 247 k) (cond (Nat.ble 248 k) (7) (59)) (2147483647))) (cond (Nat.ble 243 k) (cond (Nat.ble 244 k) (cond (Nat.ble 245 k) (2147483647) (20)) (3)) (cond (Nat.ble 242 k) (cond (Nat.beq j 0) 287 (cond (Nat.beq j 5) 2147483647 (cond (Nat.beq j 6) 60 (cond (Nat.beq j 15) 60 (2147483647))))) (cond (Nat.beq j 2) 20 (2147483647))))) (cond (Nat.ble 236 k) (cond (Nat.ble 238 k) (cond (Nat.ble 239 k) (cond (Nat.ble 240 k) (2147483647) (59)) (cond (Nat.beq j 0) 3 (cond (Nat.beq j 1) 20 (2147483647)))) (cond (Nat.ble 237 k) (2147483647) (59))) (cond (Nat.ble 233 k) (cond (Nat.ble 234 k) (cond (Nat.ble 235 k) (cond (Nat.beq j 0) 3 (cond (Nat.beq j 1) 20 (2147483647))) (2147483647)) (59)) (cond (Nat.ble 232 k) (cond (Nat.beq j 0) 3 (cond (Nat.beq j 1) 20 (2147483647))) (2147483647))))) (cond (Nat.ble 220 k) (cond (Nat.ble 225 k) (cond (Nat.ble 228 k) (cond (Nat.ble 229 k) (cond (Nat.ble 230 k) (59) (cond (Nat.beq j 0) 3 (cond (Nat.beq j 1) 20 (2147483647)))) (2147483647)) (cond (Nat.ble 226 k) (cond (Nat.ble 227 k) (59) (cond (Nat.beq j 0) 3 (cond (Nat.beq j 1) 20 (2147483647)))) (2147483647))) (cond (Nat.ble 222 k) (cond (Nat.ble 223 k) (cond (Nat.ble 224 k) (59) (cond (Nat.beq j 0) 3 (cond (Nat.beq j 1) 20 (2147483647)))) (2147483647)) (cond (Nat.ble 221 k) (59) (cond (Nat.beq j 0) 3 (cond (Nat.beq j 1) 20 (2147483647)))))) (cond (Nat.ble 215 k) (cond (Nat.ble 217 k) (cond (Nat.ble 218 k) (cond (Nat.ble 219 k) (2147483647) (59)) (cond (Nat.beq j 0) 3 (cond (Nat.beq j 1) 20 (2147483647)))) (cond (Nat.ble 216 k) (2147483647) (59))) (cond (Nat.ble 212 k) (cond (Nat.ble 213 k) (cond (Nat.ble 214 k) (cond (Nat.beq j 0) 3 (cond (Nat.beq j 1) 20 (2147483647))) (2147483647)) (59)) (cond (Nat.ble 211 k) (cond (Nat.beq j 0) 3 (cond (Nat.beq j 1) 20 (2147483647))) (2147483647)))))) (cond (Nat.ble 189 k) (cond (Nat.ble 199 k) (cond (Nat.ble 204 k) (cond (Nat.ble 207 k) (cond (Nat.ble 208 k) (cond (Nat.ble 209 k) (59) (cond (Nat.beq j 0) 3 (cond (Nat.beq j 1) 20 (2147483647)))) (2147483647)) (cond (Nat.ble 205 k) (cond (Nat.ble 206 k) (59) (cond (Nat.beq j 0) 3 (cond (Nat.beq j 1) 20 (2147483647)))) (2147483647))) (cond (Nat.ble 201 k) (cond (Nat.ble 202 k) (cond (Nat.ble 203 k) (59) (cond (Nat.beq j 0) 3 (cond (Nat.beq j 1) 20 (2147483647)))) (2147483647)) (cond (Nat.ble 200 k) (59) (cond (Nat.beq j 0) 3 (cond (Nat.beq j 1) 20 (2147483647)))))) (cond (Nat.ble 194 k) (cond (Nat.ble 196 k) (cond (Nat.ble 197 k) (cond (Nat.ble 198 k) (2147483647) (59)) (cond (Nat.beq j 0) 3 (cond (Nat.beq j 1) 20 (2147483647)))) (cond (Nat.ble 195 k) (2147483647) (59))) (cond (Nat.ble 191 k) (cond (Nat.ble 192 k) (cond (Nat.ble 193 k) (cond (Nat.beq j 0) 3 (cond (Nat.beq j 1) 20 (2147483647))) (2147483647)) (59)) (cond (Nat.ble 190 k) (cond (Nat.beq j 0) 3 (cond (Nat.beq j 1) 20 (2147483647))) (2147483647))))) (cond (Nat.ble 178 k) (cond (Nat.ble 183 k) (cond (Nat.ble 186 k) (cond (Nat.ble 187 k) (cond (Nat.ble 188 k) (59) (cond (Nat.beq j 0) 3 (cond (Nat.beq j 1) 20 (2147483647)))) (2147483647)) (cond (Nat.ble 184 k) (cond (Nat.ble 185 k) (59) (cond (Nat.beq j 0) 3 (cond (Nat.beq j 1) 20 (2147483647)))) (2147483647))) (cond (Nat.ble 180 k) (cond (Nat.ble 181 k) (cond (Nat.ble 182 k) (59) (cond (Nat.beq j 0) 3 (cond (Nat.beq j 1) 20 (2147483647)))) (2147483647)) (cond (Nat.ble 179 k) (2147483647) (127)))) (cond (Nat.ble 173 k) (2147483647) (cond (Nat.ble 170 k) (cond (Nat.ble 171 k) (cond (Nat.ble 172 k) (7) (59)) (2147483647)) (cond (Nat.ble 169 k) (2147483647) (20)))))))) (cond (Nat.ble 84 k) (cond (Nat.ble 126 k) (cond (Nat.ble 147 k) (cond (Nat.ble 157 k) (cond (Nat.ble 162 k) (cond (Nat.ble 165 k) (cond (Nat.ble 166 k) (cond (Nat.ble 167 k) (3) (cond (Nat.beq j 0) 287 (cond (Nat.beq j 5) 2147483647 (cond (Nat.beq j 6) 60 (cond (Nat.beq j 15) 60 (2147483647)))))) (cond (Nat.beq j 2) 20 (2147483647))) (cond (Nat.ble 163 k) (cond (Nat.ble 164 k) (cond (Nat.beq j 0) 1 (cond (Nat.beq j 4) 20 (cond (Nat.beq j 5) 12 (cond (Nat.beq j 9) 20 (2147483647))))) (127)) (2147483647))) (cond (Nat.ble 159 k) (cond (Nat.ble 160 k) (cond (Nat.ble 161 k) (cond (Nat.beq j 2) 500 (cond (Nat.beq j 3) 500 (cond (Nat.beq j 4) 30 (2147483647)))) (2147483647)) (2147483647)) (2147483647))) (cond (Nat.ble 152 k) (cond (Nat.ble 154 k) (cond (Nat.ble 155 k) (cond (Nat.ble 156 k) (127) (cond (Nat.beq j 1) 500 (2147483647))) (127)) (2147483647)) (2147483647))) (cond (Nat.ble 136 k) (cond (Nat.ble 141 k) (cond (Nat.ble 144 k) (cond (Nat.ble 145 k) (cond (Nat.ble 146 k) (7) (1)) (2147483647)) (cond (Nat.ble 142 k) (cond (Nat.ble 143 k) (cond (Nat.beq j 0) 8 (cond (Nat.beq j 3) 60 (cond (Nat.beq j 8) 12 (cond (Nat.beq j 13) 500 (2147483647))))) (127)) (2147483647))) (2147483647)) (cond (Nat.ble 131 k) (cond (Nat.ble 133 k) (cond (Nat.ble 134 k) (cond (Nat.ble 135 k) (2147483647) (7)) (1)) (cond (Nat.ble 132 k) (2147483647) (cond (Nat.beq j 0) 8 (cond (Nat.beq j 3) 60 (cond (Nat.beq j 8) 12 (cond (Nat.beq j 13) 500 (2147483647))))))) (cond (Nat.ble 128 k) (cond (Nat.ble 129 k) (cond (Nat.ble 130 k) (127) (2147483647)) (2147483647)) (2147483647))))) (cond (Nat.ble 105 k) (cond (Nat.ble 115 k) (cond (Nat.ble 120 k) (cond (Nat.ble 123 k) (2147483647) (cond (Nat.ble 121 k) (cond (Nat.ble 122 k) (7) (1)) (2147483647))) (cond (Nat.ble 117 k) (cond (Nat.ble 118 k) (cond (Nat.ble 119 k) (cond (Nat.beq j 0) 8 (cond (Nat.beq j 3) 60 (cond (Nat.beq j 8) 12 (cond (Nat.beq j 13) 500 (2147483647))))) (127)) (2147483647)) (2147483647))) (cond (Nat.ble 110 k) (cond (Nat.ble 112 k) (2147483647) (cond (Nat.ble 111 k) (2147483647) (7))) (cond (Nat.ble 107 k) (cond (Nat.ble 108 k) (cond (Nat.ble 109 k) (1) (2147483647)) (cond (Nat.beq j 0) 8 (cond (Nat.beq j 3) 60 (cond (Nat.beq j 8) 12 (cond (Nat.beq j 13) 500 (2147483647)))))) (cond (Nat.ble 106 k) (127) (2147483647))))) (cond (Nat.ble 94 k) (cond (Nat.ble 99 k) (2147483647) (cond (Nat.ble 96 k) (cond (Nat.ble 97 k) (cond (Nat.ble 98 k) (7) (1)) (2147483647)) (cond (Nat.ble 95 k) (cond (Nat.beq j 0) 8 (cond (Nat.beq j 3) 60 (cond (Nat.beq j 8) 12 (cond (Nat.beq j 13) 500 (2147483647))))) (127)))) (cond (Nat.ble 89 k) (2147483647) (cond (Nat.ble 86 k) (cond (Nat.ble 87 k) (2147483647) (7)) (cond (Nat.ble 85 k) (1) (2147483647))))))) (cond (Nat.ble 42 k) (cond (Nat.ble 63 k) (cond (Nat.ble 73 k) (cond (Nat.ble 78 k) (cond (Nat.ble 81 k) (cond (Nat.ble 82 k) (cond (Nat.ble 83 k) (cond (Nat.beq j 0) 8 (cond (Nat.beq j 3) 60 (cond (Nat.beq j 8) 12 (cond (Nat.beq j 13) 500 (2147483647))))) (127)) (2147483647)) (2147483647)) (cond (Nat.ble 75 k) (2147483647) (cond (Nat.ble 74 k) (7) (1)))) (cond (Nat.ble 68 k) (cond (Nat.ble 70 k) (cond (Nat.ble 71 k) (cond (Nat.ble 72 k) (2147483647) (cond (Nat.beq j 0) 8 (cond (Nat.beq j 3) 60 (cond (Nat.beq j 8) 12 (cond (Nat.beq j 13) 500 (2147483647)))))) (127)) (2147483647)) (2147483647))) (cond (Nat.ble 52 k) (cond (Nat.ble 57 k) (cond (Nat.ble 60 k) (cond (Nat.ble 61 k) (cond (Nat.ble 62 k) (7) (1)) (2147483647)) (cond (Nat.ble 58 k) (cond (Nat.ble 59 k) (cond (Nat.beq j 0) 8 (cond (Nat.beq j 3) 60 (cond (Nat.beq j 8) 12 (cond (Nat.beq j 13) 500 (2147483647))))) (127)) (2147483647))) (2147483647)) (cond (Nat.ble 47 k) (cond (Nat.ble 49 k) (cond (Nat.ble 50 k) (cond (Nat.ble 51 k) (2147483647) (7)) (1)) (cond (Nat.ble 48 k) (2147483647) (cond (Nat.beq j 0) 8 (cond (Nat.beq j 3) 60 (cond (Nat.beq j 8) 12 (cond (Nat.beq j 13) 500 (2147483647))))))) (cond (Nat.ble 44 k) (cond (Nat.ble 45 k) (cond (Nat.ble 46 k) (127) (2147483647)) (2147483647)) (2147483647))))) (cond (Nat.ble 21 k) (cond (Nat.ble 31 k) (cond (Nat.ble 36 k) (cond (Nat.ble 39 k) (2147483647) (cond (Nat.ble 37 k) (cond (Nat.ble 38 k) (7) (1)) (2147483647))) (cond (Nat.ble 33 k) (cond (Nat.ble 34 k) (cond (Nat.ble 35 k) (cond (Nat.beq j 0) 8 (cond (Nat.beq j 3) 60 (cond (Nat.beq j 8) 12 (cond (Nat.beq j 13) 500 (2147483647))))) (1)) (2147483647)) (cond (Nat.ble 32 k) (2147483647) (cond (Nat.beq j 1) 7 (cond (Nat.beq j 2) 8 (2147483647)))))) (cond (Nat.ble 26 k) (cond (Nat.ble 28 k) (cond (Nat.ble 29 k) (cond (Nat.ble 30 k) (127) (2147483647)) (2147483647)) (2147483647)) (cond (Nat.ble 23 k) (2147483647) (cond (Nat.ble 22 k) (7) (1))))) (cond (Nat.ble 10 k) (cond (Nat.ble 15 k) (cond (Nat.ble 18 k) (cond (Nat.ble 19 k) (cond (Nat.ble 20 k) (2147483647) (cond (Nat.beq j 0) 8 (cond (Nat.beq j 3) 60 (cond (Nat.beq j 8) 12 (cond (Nat.beq j 13) 500 (2147483647)))))) (127)) (2147483647)) (cond (Nat.ble 12 k) (2147483647) (cond (Nat.ble 11 k) (2147483647) (7)))) (cond (Nat.ble 5 k) (cond (Nat.ble 7 k) (cond (Nat.ble 8 k) (cond (Nat.ble 9 k) (1) (2147483647)) (cond (Nat.beq j 0) 8 (cond (Nat.beq j 3) 60 (cond (Nat.beq j 8) 12 (cond (Nat.beq j 13) 500 (2147483647)))))) (cond (Nat.ble 6 k) (cond (Nat.beq j 10) 128 (2147483647)) (2147483647))) (2147483647)))))))
theorem li24 : (24 : Int32).toInt = 24 := by decide
theorem li500 : (500 : Int32).toInt = 500 := by decide
theorem mf16 : zmf 16 2 7 0 3 := by unfold zmf; decide +kernel
theorem mf93 : zmf 93 2 6 1 2 := by unfold zmf; decide +kernel
theorem mf103 : zmf 103 2 6 2 4 := by unfold zmf; decide +kernel
theorem mf128 : zmf 128 2 6 2 4 := by unfold zmf; decide +kernel
theorem mf185 : zmf 185 2 6 0 3 := by unfold zmf; decide +kernel
theorem mr16 : (mt 16).2.2.2.1 = none := by decide +kernel
theorem mr93 : (mt 93).2.2.2.1 = some .boolean := by decide +kernel
theorem mr103 : (mt 103).2.2.2.1 = some .int := by decide +kernel
theorem mr128 : (mt 128).2.2.2.1 = some .int := by decide +kernel
theorem mr185 : (mt 185).2.2.2.1 = some .boolean := by decide +kernel
theorem t16_0 : zT 16 0 = some (.bipush 24, 2, 0, 0, 24, 0) := by decide +kernel
theorem t16_2 : zT 16 2 = some (.istore_n 2, 1, 2, 0, 0, 0) := by decide +kernel
theorem t16_3 : zT 16 3 = some (.iload_n 2, 1, 2, 0, 0, 0) := by decide +kernel
theorem t16_4 : zT 16 4 = some (.ifCond .lt 42, 3, 46, 0, 0, 0) := by decide +kernel
theorem t16_7 : zT 16 7 = some (.aload_n 0, 1, 0, 0, 0, 0) := by decide +kernel
theorem t16_8 : zT 16 8 = some (.getfield 15, 3, 7, 1, 0, 261) := by decide +kernel
theorem t16_11 : zT 16 11 = some (.sipush 500, 3, 0, 0, 500, 0) := by decide +kernel
theorem t16_14 : zT 16 14 = some (.if_icmp .ge 32, 3, 46, 0, 0, 0) := by decide +kernel
theorem t16_17 : zT 16 17 = some (.aload_n 0, 1, 0, 0, 0, 0) := by decide +kernel
theorem t16_18 : zT 16 18 = some (.getfield 9, 3, 7, 0, 0, 260) := by decide +kernel
theorem t16_21 : zT 16 21 = some (.aload_n 0, 1, 0, 0, 0, 0) := by decide +kernel
theorem t16_22 : zT 16 22 = some (.getfield 15, 3, 7, 1, 0, 261) := by decide +kernel
theorem t16_25 : zT 16 25 = some (.iload_n 1, 1, 1, 0, 0, 0) := by decide +kernel
theorem t16_26 : zT 16 26 = some (.iload_n 2, 1, 2, 0, 0, 0) := by decide +kernel
theorem t16_27 : zT 16 27 = some (.iushr, 1, 0, 0, 0, 0) := by decide +kernel
theorem t16_28 : zT 16 28 = some (.i2b, 1, 0, 0, 0, 0) := by decide +kernel
theorem t16_29 : zT 16 29 = some (.bastore, 1, 0, 0, 0, 0) := by decide +kernel
theorem t16_30 : zT 16 30 = some (.aload_n 0, 1, 0, 0, 0, 0) := by decide +kernel
theorem t16_31 : zT 16 31 = some (.dup, 1, 0, 0, 0, 0) := by decide +kernel
theorem t16_32 : zT 16 32 = some (.getfield 15, 3, 7, 1, 0, 261) := by decide +kernel
theorem t16_35 : zT 16 35 = some (.iconst 1, 1, 0, 0, 1, 0) := by decide +kernel
theorem t16_36 : zT 16 36 = some (.iadd, 1, 0, 0, 0, 0) := by decide +kernel
theorem t16_37 : zT 16 37 = some (.putfield 15, 3, 7, 1, 0, 261) := by decide +kernel
theorem t16_40 : zT 16 40 = some (.iinc 2 (-8), 3, 0, 0, 0, 0) := by decide +kernel
theorem t16_43 : zT 16 43 = some (.goto (-40), 3, 3, 0, 0, 0) := by decide +kernel
theorem t16_46 : zT 16 46 = some (.return_, 1, 0, 0, 0, 0) := by decide +kernel
theorem t91_12 : zT 91 12 = some (.iconst 1, 1, 0, 0, 1, 0) := by decide +kernel
theorem t91_13 : zT 91 13 = some (.goto 4, 3, 17, 0, 0, 0) := by decide +kernel
theorem t92_12 : zT 92 12 = some (.aload_n 0, 1, 0, 0, 0, 0) := by decide +kernel
theorem t92_13 : zT 92 13 = some (.iload_n 2, 1, 2, 0, 0, 0) := by decide +kernel
theorem t92_14 : zT 92 14 = some (.invokevirtual 95, 3, 93, 0, 0, 1014) := by decide +kernel
theorem t92_17 : zT 92 17 = some (.ifCond .eq 6, 3, 23, 0, 0, 0) := by decide +kernel
theorem t92_20 : zT 92 20 = some (.iinc 1 1, 3, 0, 0, 0, 0) := by decide +kernel
theorem t92_23 : zT 92 23 = some (.iinc 2 1, 3, 0, 0, 0, 0) := by decide +kernel
theorem t92_26 : zT 92 26 = some (.goto (-22), 3, 4, 0, 0, 0) := by decide +kernel
theorem t93_0 : zT 93 0 = some (.aload_n 0, 1, 0, 0, 0, 0) := by decide +kernel
theorem t93_1 : zT 93 1 = some (.iload_n 1, 1, 1, 0, 0, 0) := by decide +kernel
theorem t93_2 : zT 93 2 = some (.invokevirtual 87, 3, 91, 0, 0, 1018) := by decide +kernel
theorem t93_5 : zT 93 5 = some (.ifCond .eq 46, 3, 51, 0, 0, 0) := by decide +kernel
theorem t93_8 : zT 93 8 = some (.aload_n 0, 1, 0, 0, 0, 0) := by decide +kernel
theorem t93_9 : zT 93 9 = some (.getfield 19, 3, 6, 2, 0, 161) := by decide +kernel
theorem t93_12 : zT 93 12 = some (.aload_n 0, 1, 0, 0, 0, 0) := by decide +kernel
theorem t93_13 : zT 93 13 = some (.getfield 26, 3, 6, 4, 0, 168) := by decide +kernel
theorem t93_16 : zT 93 16 = some (.iload_n 1, 1, 1, 0, 0, 0) := by decide +kernel
theorem t93_17 : zT 93 17 = some (.iaload, 1, 0, 0, 0, 0) := by decide +kernel
theorem t93_18 : zT 93 18 = some (.baload, 1, 0, 0, 0, 0) := by decide +kernel
theorem t93_19 : zT 93 19 = some (.ifCond .eq 32, 3, 51, 0, 0, 0) := by decide +kernel
theorem t93_22 : zT 93 22 = some (.aload_n 0, 1, 0, 0, 0, 0) := by decide +kernel
theorem t93_23 : zT 93 23 = some (.getfield 32, 3, 6, 6, 0, 175) := by decide +kernel
theorem t93_26 : zT 93 26 = some (.iload_n 1, 1, 1, 0, 0, 0) := by decide +kernel
theorem t93_27 : zT 93 27 = some (.iaload, 1, 0, 0, 0, 0) := by decide +kernel
theorem t93_28 : zT 93 28 = some (.aload_n 0, 1, 0, 0, 0, 0) := by decide +kernel
theorem t93_29 : zT 93 29 = some (.getfield 58, 3, 6, 12, 0, 190) := by decide +kernel
theorem t93_32 : zT 93 32 = some (.iconst 5, 1, 0, 0, 5, 0) := by decide +kernel
theorem t93_33 : zT 93 33 = some (.iaload, 1, 0, 0, 0, 0) := by decide +kernel
theorem t93_34 : zT 93 34 = some (.aload_n 0, 1, 0, 0, 0, 0) := by decide +kernel
theorem t93_35 : zT 93 35 = some (.getfield 58, 3, 6, 12, 0, 190) := by decide +kernel
theorem t93_38 : zT 93 38 = some (.bipush 6, 2, 0, 0, 6, 0) := by decide +kernel
theorem t93_40 : zT 93 40 = some (.iaload, 1, 0, 0, 0, 0) := by decide +kernel
theorem t93_41 : zT 93 41 = some (.invokestatic 91, 3, 39, 2, 0, 792) := by decide +kernel
theorem t93_44 : zT 93 44 = some (.ifCond .eq 7, 3, 51, 0, 0, 0) := by decide +kernel
theorem t93_47 : zT 93 47 = some (.iconst 1, 1, 0, 0, 1, 0) := by decide +kernel
theorem t93_48 : zT 93 48 = some (.goto 4, 3, 52, 0, 0, 0) := by decide +kernel
theorem t93_51 : zT 93 51 = some (.iconst 0, 1, 0, 0, 0, 0) := by decide +kernel
theorem t93_52 : zT 93 52 = some (.ireturn, 1, 0, 0, 0, 0) := by decide +kernel
theorem t100_12 : zT 100 12 = some (.aload_n 0, 1, 0, 0, 0, 0) := by decide +kernel
theorem t100_13 : zT 100 13 = some (.getfield 19, 3, 6, 2, 0, 161) := by decide +kernel
theorem t100_16 : zT 100 16 = some (.iload_n 2, 1, 2, 0, 0, 0) := by decide +kernel
theorem t100_17 : zT 100 17 = some (.baload, 1, 0, 0, 0, 0) := by decide +kernel
theorem t100_18 : zT 100 18 = some (.ifCond .eq 6, 3, 24, 0, 0, 0) := by decide +kernel
theorem t100_21 : zT 100 21 = some (.iinc 1 1, 3, 0, 0, 0, 0) := by decide +kernel
theorem t100_24 : zT 100 24 = some (.iinc 2 1, 3, 0, 0, 0, 0) := by decide +kernel
theorem t100_27 : zT 100 27 = some (.goto (-23), 3, 4, 0, 0, 0) := by decide +kernel
theorem t103_0 : zT 103 0 = some (.iconst 0, 1, 0, 0, 0, 0) := by decide +kernel
theorem t103_1 : zT 103 1 = some (.istore_n 2, 1, 2, 0, 0, 0) := by decide +kernel
theorem t103_2 : zT 103 2 = some (.iconst 0, 1, 0, 0, 0, 0) := by decide +kernel
theorem t103_3 : zT 103 3 = some (.istore_n 3, 1, 3, 0, 0, 0) := by decide +kernel
theorem t103_4 : zT 103 4 = some (.iload_n 3, 1, 3, 0, 0, 0) := by decide +kernel
theorem t103_5 : zT 103 5 = some (.aload_n 0, 1, 0, 0, 0, 0) := by decide +kernel
theorem t103_6 : zT 103 6 = some (.getfield 23, 3, 6, 3, 0, 164) := by decide +kernel
theorem t103_9 : zT 103 9 = some (.if_icmp .ge 30, 3, 39, 0, 0, 0) := by decide +kernel
theorem t103_12 : zT 103 12 = some (.aload_n 0, 1, 0, 0, 0, 0) := by decide +kernel
theorem t103_13 : zT 103 13 = some (.getfield 26, 3, 6, 4, 0, 168) := by decide +kernel
theorem t103_16 : zT 103 16 = some (.iload_n 3, 1, 3, 0, 0, 0) := by decide +kernel
theorem t103_17 : zT 103 17 = some (.iaload, 1, 0, 0, 0, 0) := by decide +kernel
theorem t103_18 : zT 103 18 = some (.iload_n 1, 1, 1, 0, 0, 0) := by decide +kernel
theorem t103_19 : zT 103 19 = some (.if_icmp .ne 14, 3, 33, 0, 0, 0) := by decide +kernel
theorem t103_22 : zT 103 22 = some (.aload_n 0, 1, 0, 0, 0, 0) := by decide +kernel
theorem t103_23 : zT 103 23 = some (.iload_n 3, 1, 3, 0, 0, 0) := by decide +kernel
theorem t103_24 : zT 103 24 = some (.invokevirtual 95, 3, 93, 0, 0, 1014) := by decide +kernel
theorem t103_27 : zT 103 27 = some (.ifCond .eq 6, 3, 33, 0, 0, 0) := by decide +kernel
theorem t103_30 : zT 103 30 = some (.iinc 2 1, 3, 0, 0, 0, 0) := by decide +kernel
theorem t103_33 : zT 103 33 = some (.iinc 3 1, 3, 0, 0, 0, 0) := by decide +kernel
theorem t103_36 : zT 103 36 = some (.goto (-32), 3, 4, 0, 0, 0) := by decide +kernel
theorem t103_39 : zT 103 39 = some (.iload_n 2, 1, 2, 0, 0, 0) := by decide +kernel
theorem t103_40 : zT 103 40 = some (.ireturn, 1, 0, 0, 0, 0) := by decide +kernel
theorem t128_0 : zT 128 0 = some (.iconst 0, 1, 0, 0, 0, 0) := by decide +kernel
theorem t128_1 : zT 128 1 = some (.istore_n 2, 1, 2, 0, 0, 0) := by decide +kernel
theorem t128_2 : zT 128 2 = some (.iconst 0, 1, 0, 0, 0, 0) := by decide +kernel
theorem t128_3 : zT 128 3 = some (.istore_n 3, 1, 3, 0, 0, 0) := by decide +kernel
theorem t128_4 : zT 128 4 = some (.iload_n 3, 1, 3, 0, 0, 0) := by decide +kernel
theorem t128_5 : zT 128 5 = some (.aload_n 0, 1, 0, 0, 0, 0) := by decide +kernel
theorem t128_6 : zT 128 6 = some (.getfield 23, 3, 6, 3, 0, 164) := by decide +kernel
theorem t128_9 : zT 128 9 = some (.if_icmp .ge 30, 3, 39, 0, 0, 0) := by decide +kernel
theorem t128_12 : zT 128 12 = some (.aload_n 0, 1, 0, 0, 0, 0) := by decide +kernel
theorem t128_13 : zT 128 13 = some (.getfield 35, 3, 6, 7, 0, 177) := by decide +kernel
theorem t128_16 : zT 128 16 = some (.iload_n 3, 1, 3, 0, 0, 0) := by decide +kernel
theorem t128_17 : zT 128 17 = some (.iaload, 1, 0, 0, 0, 0) := by decide +kernel
theorem t128_18 : zT 128 18 = some (.iload_n 1, 1, 1, 0, 0, 0) := by decide +kernel
theorem t128_19 : zT 128 19 = some (.if_icmp .ne 14, 3, 33, 0, 0, 0) := by decide +kernel
theorem t128_22 : zT 128 22 = some (.aload_n 0, 1, 0, 0, 0, 0) := by decide +kernel
theorem t128_23 : zT 128 23 = some (.iload_n 3, 1, 3, 0, 0, 0) := by decide +kernel
theorem t128_24 : zT 128 24 = some (.invokevirtual 95, 3, 93, 0, 0, 1014) := by decide +kernel
theorem t128_27 : zT 128 27 = some (.ifCond .eq 6, 3, 33, 0, 0, 0) := by decide +kernel
theorem t128_30 : zT 128 30 = some (.iinc 2 1, 3, 0, 0, 0, 0) := by decide +kernel
theorem t128_33 : zT 128 33 = some (.iinc 3 1, 3, 0, 0, 0, 0) := by decide +kernel
theorem t128_36 : zT 128 36 = some (.goto (-32), 3, 4, 0, 0, 0) := by decide +kernel
theorem t128_39 : zT 128 39 = some (.iload_n 2, 1, 2, 0, 0, 0) := by decide +kernel
theorem t128_40 : zT 128 40 = some (.ireturn, 1, 0, 0, 0, 0) := by decide +kernel
theorem t185_0 : zT 185 0 = some (.iconst 0, 1, 0, 0, 0, 0) := by decide +kernel
theorem t185_1 : zT 185 1 = some (.istore_n 2, 1, 2, 0, 0, 0) := by decide +kernel
theorem t185_2 : zT 185 2 = some (.iload_n 2, 1, 2, 0, 0, 0) := by decide +kernel
theorem t185_3 : zT 185 3 = some (.aload_n 0, 1, 0, 0, 0, 0) := by decide +kernel
theorem t185_4 : zT 185 4 = some (.getfield 61, 3, 6, 13, 0, 191) := by decide +kernel
theorem t185_7 : zT 185 7 = some (.if_icmp .ge 21, 3, 28, 0, 0, 0) := by decide +kernel
theorem t185_10 : zT 185 10 = some (.aload_n 0, 1, 0, 0, 0, 0) := by decide +kernel
theorem t185_11 : zT 185 11 = some (.getfield 64, 3, 6, 14, 0, 193) := by decide +kernel
theorem t185_14 : zT 185 14 = some (.iload_n 2, 1, 2, 0, 0, 0) := by decide +kernel
theorem t185_15 : zT 185 15 = some (.baload, 1, 0, 0, 0, 0) := by decide +kernel
theorem t185_16 : zT 185 16 = some (.iload_n 1, 1, 1, 0, 0, 0) := by decide +kernel
theorem t185_17 : zT 185 17 = some (.if_icmp .ne 5, 3, 22, 0, 0, 0) := by decide +kernel
theorem t185_20 : zT 185 20 = some (.iconst 1, 1, 0, 0, 1, 0) := by decide +kernel
theorem t185_21 : zT 185 21 = some (.ireturn, 1, 0, 0, 0, 0) := by decide +kernel
theorem t185_22 : zT 185 22 = some (.iinc 2 1, 3, 0, 0, 0, 0) := by decide +kernel
theorem t185_25 : zT 185 25 = some (.goto (-23), 3, 2, 0, 0, 0) := by decide +kernel
theorem t185_28 : zT 185 28 = some (.iconst 0, 1, 0, 0, 0, 0) := by decide +kernel
theorem t185_29 : zT 185 29 = some (.ireturn, 1, 0, 0, 0, 0) := by decide +kernel
theorem t211_14 : zT 211 14 = some (.aload_n 0, 1, 0, 0, 0, 0) := by decide +kernel
theorem t211_15 : zT 211 15 = some (.getfield 19, 3, 6, 2, 0, 161) := by decide +kernel
theorem t211_18 : zT 211 18 = some (.aload_n 0, 1, 0, 0, 0, 0) := by decide +kernel
theorem t211_19 : zT 211 19 = some (.getfield 26, 3, 6, 4, 0, 168) := by decide +kernel
theorem t211_22 : zT 211 22 = some (.iload 4, 2, 0, 0, 0, 0) := by decide +kernel
theorem t211_24 : zT 211 24 = some (.iaload, 1, 0, 0, 0, 0) := by decide +kernel
theorem t211_25 : zT 211 25 = some (.baload, 1, 0, 0, 0, 0) := by decide +kernel
theorem t211_26 : zT 211 26 = some (.ifCond .eq 21, 3, 47, 0, 0, 0) := by decide +kernel
theorem t211_29 : zT 211 29 = some (.aload_n 0, 1, 0, 0, 0, 0) := by decide +kernel
theorem t211_30 : zT 211 30 = some (.getfield 32, 3, 6, 6, 0, 175) := by decide +kernel
theorem t211_33 : zT 211 33 = some (.iload 4, 2, 0, 0, 0, 0) := by decide +kernel
theorem t211_35 : zT 211 35 = some (.iaload, 1, 0, 0, 0, 0) := by decide +kernel
theorem t211_36 : zT 211 36 = some (.iload_n 1, 1, 1, 0, 0, 0) := by decide +kernel
theorem t211_37 : zT 211 37 = some (.iload_n 2, 1, 2, 0, 0, 0) := by decide +kernel
theorem t211_38 : zT 211 38 = some (.invokestatic 91, 3, 39, 2, 0, 792) := by decide +kernel
theorem t211_41 : zT 211 41 = some (.ifCond .eq 6, 3, 47, 0, 0, 0) := by decide +kernel
theorem t211_44 : zT 211 44 = some (.iinc 3 1, 3, 0, 0, 0, 0) := by decide +kernel
theorem t211_47 : zT 211 47 = some (.iinc 4 1, 3, 0, 0, 0, 0) := by decide +kernel
theorem t211_50 : zT 211 50 = some (.goto (-45), 3, 5, 0, 0, 0) := by decide +kernel
theorem fk_zMc_10 : zK zMc 10 = (20, 60) := by decide +kernel
theorem fk_zMc_12 : zK zMc 12 = (20, 60) := by decide +kernel
theorem fk_zMc_13 : zK zMc 13 = (20, 60) := by decide +kernel
theorem fk_zMc_156 : zK zMc 156 = (21, 500) := by decide +kernel
theorem fk_zMc_18 : zK zMc 18 = (21, 500) := by decide +kernel
theorem fk_zMc_19 : zK zMc 19 = (6, 0) := by decide +kernel
theorem fk_zMc_21 : zK zMc 21 = (22, 8) := by decide +kernel
theorem fk_zMc_22 : zK zMc 22 = (20, 60) := by decide +kernel
theorem fk_zMc_24 : zK zMc 24 = (20, 60) := by decide +kernel
theorem fk_zMc_25 : zK zMc 25 = (20, 60) := by decide +kernel
theorem fk_zMc_29 : zK zMc 29 = (20, 9) := by decide +kernel
theorem fk_zMc_9 : zK zMc 9 = (22, 8) := by decide +kernel
theorem fv_zMc_155_0 : zfv zMc 155 (cY 7 0) 0 = .ref 156 := by decide +kernel
theorem fv_zMc_19_12 : zfv zMc 19 (cY 6 12) 12 = .ref 29 := by decide +kernel
theorem fv_zMc_19_2 : zfv zMc 19 (cY 6 2) 2 = .ref 21 := by decide +kernel
theorem fv_zMc_19_4 : zfv zMc 19 (cY 6 4) 4 = .ref 22 := by decide +kernel
theorem fv_zMc_19_6 : zfv zMc 19 (cY 6 6) 6 = .ref 24 := by decide +kernel
theorem fv_zMc_19_7 : zfv zMc 19 (cY 6 7) 7 = .ref 25 := by decide +kernel
theorem fv_zMc_7_14 : zfv zMc 7 (cY 6 14) 14 = .ref 18 := by decide +kernel
theorem fv_zMc_7_2 : zfv zMc 7 (cY 6 2) 2 = .ref 9 := by decide +kernel
theorem fv_zMc_7_4 : zfv zMc 7 (cY 6 4) 4 = .ref 10 := by decide +kernel
theorem fv_zMc_7_6 : zfv zMc 7 (cY 6 6) 6 = .ref 12 := by decide +kernel
theorem fv_zMc_7_7 : zfv zMc 7 (cY 6 7) 7 = .ref 13 := by decide +kernel
theorem ib10 {M : zM} (h : zIv cLo cHi M) (j : Nat) : 0 ≤ (zI M 10 j).toInt ∧ (zI M 10 j).toInt ≤ 7 := h 10 j
theorem ib12 {M : zM} (h : zIv cLo cHi M) (j : Nat) : (-2147483648) ≤ (zI M 12 j).toInt ∧ (zI M 12 j).toInt ≤ 2147483647 := h 12 j
theorem ib13 {M : zM} (h : zIv cLo cHi M) (j : Nat) : (-2147483648) ≤ (zI M 13 j).toInt ∧ (zI M 13 j).toInt ≤ 2147483647 := h 13 j
theorem ib155_1 {M : zM} (h : zIv cLo cHi M) : 0 ≤ (zI M 155 1).toInt ∧ (zI M 155 1).toInt ≤ 500 := h 155 1
theorem ib17 {M : zM} (h : zIv cLo cHi M) (j : Nat) : (-2147483648) ≤ (zI M 17 j).toInt ∧ (zI M 17 j).toInt ≤ 2147483647 := h 17 j
theorem ib18 {M : zM} (h : zIv cLo cHi M) (j : Nat) : (-128) ≤ (zI M 18 j).toInt ∧ (zI M 18 j).toInt ≤ 127 := h 18 j
theorem ib19_0 {M : zM} (h : zIv cLo cHi M) : 0 ≤ (zI M 19 0).toInt ∧ (zI M 19 0).toInt ≤ 8 := h 19 0
theorem ib19_3 {M : zM} (h : zIv cLo cHi M) : 0 ≤ (zI M 19 3).toInt ∧ (zI M 19 3).toInt ≤ 60 := h 19 3
theorem ib21 {M : zM} (h : zIv cLo cHi M) (j : Nat) : 0 ≤ (zI M 21 j).toInt ∧ (zI M 21 j).toInt ≤ 1 := h 21 j
theorem ib22 {M : zM} (h : zIv cLo cHi M) (j : Nat) : 0 ≤ (zI M 22 j).toInt ∧ (zI M 22 j).toInt ≤ 7 := h 22 j
theorem ib24 {M : zM} (h : zIv cLo cHi M) (j : Nat) : (-2147483648) ≤ (zI M 24 j).toInt ∧ (zI M 24 j).toInt ≤ 2147483647 := h 24 j
theorem ib25 {M : zM} (h : zIv cLo cHi M) (j : Nat) : (-2147483648) ≤ (zI M 25 j).toInt ∧ (zI M 25 j).toInt ≤ 2147483647 := h 25 j
theorem ib29 {M : zM} (h : zIv cLo cHi M) (j : Nat) : (-2147483648) ≤ (zI M 29 j).toInt ∧ (zI M 29 j).toInt ≤ 2147483647 := h 29 j
theorem ib7_0 {M : zM} (h : zIv cLo cHi M) : 0 ≤ (zI M 7 0).toInt ∧ (zI M 7 0).toInt ≤ 8 := h 7 0
theorem ib7_13 {M : zM} (h : zIv cLo cHi M) : 0 ≤ (zI M 7 13).toInt ∧ (zI M 7 13).toInt ≤ 500 := h 7 13
theorem ib7_3 {M : zM} (h : zIv cLo cHi M) : 0 ≤ (zI M 7 3).toInt ∧ (zI M 7 3).toInt ≤ 60 := h 7 3
theorem ib9 {M : zM} (h : zIv cLo cHi M) (j : Nat) : 0 ≤ (zI M 9 j).toInt ∧ (zI M 9 j).toInt ≤ 1 := h 9 j
theorem C92_7 {X : zX} {l : Launch} {M : zM} {Q : Option Value → zM → Prop} (hs : zSk zMc M) (hI : zIv cLo cHi M) (hQ : ∀ v : Int32, (-2147483648) ≤ v.toInt → v.toInt ≤ 2147483647 → Q (some (.int v)) M) : zCall X l 2 0 0 92 [.ref 7] M Q := by
  refine zs_in (by decide) mf92 (Nat.le_of_ble_eq_true rfl) ?_
  show zGo X l 2 0 0 92 0 [(0, .ref 7)] [] M _
  refine zs_iconst (pc := 0) t92_0 (v := 0) (by decide) ?_
  refine zs_istore_n (pc := 1) t92_1 (ls' := [(1, .int (0 : Int32)), (0, .ref 7)]) (zml mf92 (by decide)) rfl ?_
  refine zs_iconst (pc := 2) t92_2 (v := 0) (by decide) ?_
  refine zs_istore_n (pc := 3) t92_3 (ls' := [(2, .int (0 : Int32)), (1, .int (0 : Int32)), (0, .ref 7)]) (zml mf92 (by decide)) rfl ?_
  have w1L : ∀ (m : Nat) (w1x1 : Int32) (w1x2 : Int32), (0 ≤ w1x2.toInt ∧ w1x2.toInt ≤ 60) → 60 - w1x2.toInt ≤ (m : Int) → zGo X l 2 0 0 92 4 [(0, .ref 7), (1, .int w1x1), (2, .int w1x2)] [] M Q := by
    intro m
    induction m using Nat.strongRecOn with
    | ind w1m w1ih =>
      intro w1x1 w1x2 w1b2 w1q
      have w1g1 := zrg w1x1
      refine zs_iload_n (pc := 4) t92_4 rfl ?_
      refine zs_aload_n (pc := 5) t92_5 rfl ?_
      have w2 := ib7_3 hI
      refine zs_get (pc := 6) t92_6 (by decide) (zk1 (hs.k fk_zMc_7)) (zfvi rfl rfl) ?_
      by_cases w3 : (zI M 7 3).toInt ≤ w1x2.toInt
      · refine zs_icmp_geT (pc := 9) t92_9 rfl rfl (by omega) ?_
        refine zs_iload_n (pc := 29) t92_29 rfl ?_
        exact zs_iret (pc := 30) t92_30 mr92 rfl (hQ _ (by omega) (by omega))
      · refine zs_icmp_geF (pc := 9) t92_9 rfl rfl (by omega) ?_
        refine zs_aload_n (pc := 12) t92_12 rfl ?_
        refine zs_iload_n (pc := 13) t92_13 rfl ?_
        refine zs_invV (pc := 14) (k := 7) (as' := [.int w1x2]) (st := []) t92_14 mf93 rfl rfl (Or.inl ⟨by decide, (zk1 (hs.k fk_zMc_7))⟩) ⟨by decide, by decide, Nat.le_of_ble_eq_true rfl, Nat.le_of_ble_eq_true rfl⟩ (zs_in (by decide) mf93 (Nat.le_of_ble_eq_true rfl) ?_) (fun _ _ q => q)
        show zGo X l 1 0 0 93 0 [(0, .ref 7), (1, .int w1x2)] [] M _
        refine zs_aload_n (pc := 0) t93_0 rfl ?_
        refine zs_iload_n (pc := 1) t93_1 rfl ?_
        refine zs_invV (pc := 2) (k := 7) (as' := [.int w1x2]) (st := []) t93_2 mf91 rfl rfl (Or.inl ⟨by decide, (zk1 (hs.k fk_zMc_7))⟩) ⟨by decide, by decide, Nat.le_of_ble_eq_true rfl, Nat.le_of_ble_eq_true rfl⟩ (zs_in (by decide) mf91 (Nat.le_of_ble_eq_true rfl) ?_) (fun _ _ q => q)
        show zGo X l 0 0 0 91 0 [(0, .ref 7), (1, .int w1x2)] [] M _
        refine zs_iload_n (pc := 0) t91_0 rfl ?_
        refine zs_if_ltF (pc := 1) t91_1 rfl (by omega) ?_
        refine zs_iload_n (pc := 4) t91_4 rfl ?_
        refine zs_aload_n (pc := 5) t91_5 rfl ?_
        refine zs_get (pc := 6) t91_6 (by decide) (zk1 (hs.k fk_zMc_7)) (zfvi rfl rfl) ?_
        by_cases w4 : (zI M 7 3).toInt ≤ w1x2.toInt
        · refine zs_icmp_geT (pc := 9) t91_9 rfl rfl (by omega) ?_
          refine zs_iconst (pc := 16) t91_16 (v := 0) (by decide) ?_
          refine zs_iret (pc := 17) t91_17 mr91 (by decide) ?_
          show zGo X l 1 0 0 93 5 [(0, .ref 7), (1, .int w1x2)] [.int (0 : Int32)] M _
          refine zs_if_eqT (pc := 5) t93_5 li0 (by decide) ?_
          refine zs_iconst (pc := 51) t93_51 (v := 0) (by decide) ?_
          refine zs_iret (pc := 52) t93_52 mr93 (by decide) ?_
          show zGo X l 2 0 0 92 17 [(0, .ref 7), (1, .int w1x1), (2, .int w1x2)] [.int (0 : Int32)] M _
          refine zs_if_eqT (pc := 17) t92_17 li0 (by decide) ?_
          obtain ⟨w5v, w5e, w5⟩ := ziadd (a := w1x2) (b := Int32.ofInt 1) rfl (show (Int32.ofInt 1).toInt = 1 by decide) (by omega) (by omega)
          refine zs_iinc (pc := 23) t92_23 (ls' := [(2, .int w5v), (0, .ref 7), (1, .int w1x1)]) (zml mf92 (by decide)) rfl (c := w5v) w5e rfl ?_
          refine zs_goto (pc := 26) t92_26 ?_
          refine zGo.locals (ls' := [(0, .ref 7), (1, .int w1x1), (2, .int w5v)]) (by simp) ?_
          exact w1ih (w1m - 1) (by omega) w1x1 w5v ⟨by omega, by omega⟩ (by omega)
        · refine zs_icmp_geF (pc := 9) t91_9 rfl rfl (by omega) ?_
          refine zs_iconst (pc := 12) t91_12 (v := 1) (by decide) ?_
          refine zs_goto (pc := 13) t91_13 ?_
          refine zs_iret (pc := 17) t91_17 mr91 (by decide) ?_
          show zGo X l 1 0 0 93 5 [(0, .ref 7), (1, .int w1x2)] [.int (1 : Int32)] M _
          refine zs_if_eqF (pc := 5) t93_5 li1 (by decide) ?_
          refine zs_aload_n (pc := 8) t93_8 rfl ?_
          refine zs_get (pc := 9) t93_9 (by decide) (zk1 (hs.k fk_zMc_7)) (hs.p rfl fv_zMc_7_2) ?_
          refine zs_aload_n (pc := 12) t93_12 rfl ?_
          refine zs_get (pc := 13) t93_13 (by decide) (zk1 (hs.k fk_zMc_7)) (hs.p rfl fv_zMc_7_4) ?_
          refine zs_iload_n (pc := 16) t93_16 rfl ?_
          obtain ⟨w6n, w6⟩ : ∃ n : Nat, w1x2.toInt = (n : Int) := ⟨w1x2.toInt.toNat, by omega⟩
          have w7 := ib10 hI w6n
          refine zs_iald (pc := 17) t93_17 (j := w6n) (by decide) (zk1 (hs.k fk_zMc_10)) w6 (zk2 (hs.k fk_zMc_10) (by omega)) rfl ?_
          obtain ⟨w8n, w8⟩ : ∃ n : Nat, (zI M 10 w6n).toInt = (n : Int) := ⟨(zI M 10 w6n).toInt.toNat, by omega⟩
          have w9 := ib9 hI w8n
          refine zs_bald (pc := 18) t93_18 (j := w8n) (Or.inr (zk1 (hs.k fk_zMc_9))) w8 (zk2 (hs.k fk_zMc_9) (by omega)) rfl ?_
          by_cases w10 : (zI M 9 w8n).toInt = 0
          · refine zs_if_eqT (pc := 19) t93_19 rfl (by omega) ?_
            refine zs_iconst (pc := 51) t93_51 (v := 0) (by decide) ?_
            refine zs_iret (pc := 52) t93_52 mr93 (by decide) ?_
            show zGo X l 2 0 0 92 17 [(0, .ref 7), (1, .int w1x1), (2, .int w1x2)] [.int (0 : Int32)] M _
            refine zs_if_eqT (pc := 17) t92_17 li0 (by decide) ?_
            obtain ⟨w11v, w11e, w11⟩ := ziadd (a := w1x2) (b := Int32.ofInt 1) rfl (show (Int32.ofInt 1).toInt = 1 by decide) (by omega) (by omega)
            refine zs_iinc (pc := 23) t92_23 (ls' := [(2, .int w11v), (0, .ref 7), (1, .int w1x1)]) (zml mf92 (by decide)) rfl (c := w11v) w11e rfl ?_
            refine zs_goto (pc := 26) t92_26 ?_
            refine zGo.locals (ls' := [(0, .ref 7), (1, .int w1x1), (2, .int w11v)]) (by simp) ?_
            exact w1ih (w1m - 1) (by omega) w1x1 w11v ⟨by omega, by omega⟩ (by omega)
          · refine zs_if_eqF (pc := 19) t93_19 rfl (by omega) ?_
            refine zs_aload_n (pc := 22) t93_22 rfl ?_
            refine zs_get (pc := 23) t93_23 (by decide) (zk1 (hs.k fk_zMc_7)) (hs.p rfl fv_zMc_7_6) ?_
            refine zs_iload_n (pc := 26) t93_26 rfl ?_
            obtain ⟨w12n, w12⟩ : ∃ n : Nat, w1x2.toInt = (n : Int) := ⟨w1x2.toInt.toNat, by omega⟩
            have w13 := ib12 hI w12n
            refine zs_iald (pc := 27) t93_27 (j := w12n) (by decide) (zk1 (hs.k fk_zMc_12)) w12 (zk2 (hs.k fk_zMc_12) (by omega)) rfl ?_
            refine zs_aload_n (pc := 28) t93_28 rfl ?_
            refine zs_get (pc := 29) t93_29 (by decide) (zk1 (hs.k fk_zMc_7)) (hs.p rfl fv_zMc_7_12) ?_
            refine zs_iconst (pc := 32) t93_32 (v := 5) (by decide) ?_
            have w14 := ib17 hI 5
            refine zs_iald (pc := 33) t93_33 (j := 5) (by decide) (zk1 (hs.k fk_zMc_17)) li5 (zk2 (hs.k fk_zMc_17) (by decide)) rfl ?_
            refine zs_aload_n (pc := 34) t93_34 rfl ?_
            refine zs_get (pc := 35) t93_35 (by decide) (zk1 (hs.k fk_zMc_7)) (hs.p rfl fv_zMc_7_12) ?_
            refine zs_bipush (pc := 38) t93_38 (v := 6) (by decide) ?_
            have w15 := ib17 hI 6
            refine zs_iald (pc := 40) t93_40 (j := 6) (by decide) (zk1 (hs.k fk_zMc_17)) li6 (zk2 (hs.k fk_zMc_17) (by decide)) rfl ?_
            refine zs_invS (pc := 41) (as := [.int (zI M 12 w12n), .int (zI M 17 5), .int (zI M 17 6)]) (st := []) t93_41 (by decide) mf39 rfl rfl ⟨by decide, by decide, Nat.le_of_ble_eq_true rfl, Nat.le_of_ble_eq_true rfl⟩ (zs_in (by decide) mf39 (Nat.le_of_ble_eq_true rfl) ?_) (fun _ _ q => q)
            show zGo X l 0 0 0 39 0 [(0, .int (zI M 12 w12n)), (1, .int (zI M 17 5)), (2, .int (zI M 17 6))] [] M _
            refine zs_iload_n (pc := 0) t39_0 rfl ?_
            refine zs_iload_n (pc := 1) t39_1 rfl ?_
            by_cases w16 : (zI M 12 w12n).toInt < (zI M 17 5).toInt
            · refine zs_icmp_ltT (pc := 2) t39_2 rfl rfl (by omega) ?_
              refine zs_iconst (pc := 14) t39_14 (v := 0) (by decide) ?_
              refine zs_iret (pc := 15) t39_15 mr39 (by decide) ?_
              show zGo X l 1 0 0 93 44 [(0, .ref 7), (1, .int w1x2)] [.int (0 : Int32)] M _
              refine zs_if_eqT (pc := 44) t93_44 li0 (by decide) ?_
              refine zs_iconst (pc := 51) t93_51 (v := 0) (by decide) ?_
              refine zs_iret (pc := 52) t93_52 mr93 (by decide) ?_
              show zGo X l 2 0 0 92 17 [(0, .ref 7), (1, .int w1x1), (2, .int w1x2)] [.int (0 : Int32)] M _
              refine zs_if_eqT (pc := 17) t92_17 li0 (by decide) ?_
              obtain ⟨w17v, w17e, w17⟩ := ziadd (a := w1x2) (b := Int32.ofInt 1) rfl (show (Int32.ofInt 1).toInt = 1 by decide) (by omega) (by omega)
              refine zs_iinc (pc := 23) t92_23 (ls' := [(2, .int w17v), (0, .ref 7), (1, .int w1x1)]) (zml mf92 (by decide)) rfl (c := w17v) w17e rfl ?_
              refine zs_goto (pc := 26) t92_26 ?_
              refine zGo.locals (ls' := [(0, .ref 7), (1, .int w1x1), (2, .int w17v)]) (by simp) ?_
              exact w1ih (w1m - 1) (by omega) w1x1 w17v ⟨by omega, by omega⟩ (by omega)
            · refine zs_icmp_ltF (pc := 2) t39_2 rfl rfl (by omega) ?_
              refine zs_iload_n (pc := 5) t39_5 rfl ?_
              refine zs_iload_n (pc := 6) t39_6 rfl ?_
              by_cases w18 : (zI M 17 6).toInt < (zI M 12 w12n).toInt
              · refine zs_icmp_gtT (pc := 7) t39_7 rfl rfl (by omega) ?_
                refine zs_iconst (pc := 14) t39_14 (v := 0) (by decide) ?_
                refine zs_iret (pc := 15) t39_15 mr39 (by decide) ?_
                show zGo X l 1 0 0 93 44 [(0, .ref 7), (1, .int w1x2)] [.int (0 : Int32)] M _
                refine zs_if_eqT (pc := 44) t93_44 li0 (by decide) ?_
                refine zs_iconst (pc := 51) t93_51 (v := 0) (by decide) ?_
                refine zs_iret (pc := 52) t93_52 mr93 (by decide) ?_
                show zGo X l 2 0 0 92 17 [(0, .ref 7), (1, .int w1x1), (2, .int w1x2)] [.int (0 : Int32)] M _
                refine zs_if_eqT (pc := 17) t92_17 li0 (by decide) ?_
                obtain ⟨w19v, w19e, w19⟩ := ziadd (a := w1x2) (b := Int32.ofInt 1) rfl (show (Int32.ofInt 1).toInt = 1 by decide) (by omega) (by omega)
                refine zs_iinc (pc := 23) t92_23 (ls' := [(2, .int w19v), (0, .ref 7), (1, .int w1x1)]) (zml mf92 (by decide)) rfl (c := w19v) w19e rfl ?_
                refine zs_goto (pc := 26) t92_26 ?_
                refine zGo.locals (ls' := [(0, .ref 7), (1, .int w1x1), (2, .int w19v)]) (by simp) ?_
                exact w1ih (w1m - 1) (by omega) w1x1 w19v ⟨by omega, by omega⟩ (by omega)
              · refine zs_icmp_gtF (pc := 7) t39_7 rfl rfl (by omega) ?_
                refine zs_iconst (pc := 10) t39_10 (v := 1) (by decide) ?_
                refine zs_goto (pc := 11) t39_11 ?_
                refine zs_iret (pc := 15) t39_15 mr39 (by decide) ?_
                show zGo X l 1 0 0 93 44 [(0, .ref 7), (1, .int w1x2)] [.int (1 : Int32)] M _
                refine zs_if_eqF (pc := 44) t93_44 li1 (by decide) ?_
                refine zs_iconst (pc := 47) t93_47 (v := 1) (by decide) ?_
                refine zs_goto (pc := 48) t93_48 ?_
                refine zs_iret (pc := 52) t93_52 mr93 (by decide) ?_
                show zGo X l 2 0 0 92 17 [(0, .ref 7), (1, .int w1x1), (2, .int w1x2)] [.int (1 : Int32)] M _
                refine zs_if_eqF (pc := 17) t92_17 li1 (by decide) ?_
                obtain ⟨w20v, w20e⟩ : ∃ v, w1x1 + Int32.ofInt 1 = v := ⟨_, rfl⟩
                have w20 := zrg w20v
                refine zs_iinc (pc := 20) t92_20 (ls' := [(1, .int w20v), (0, .ref 7), (2, .int w1x2)]) (zml mf92 (by decide)) rfl (c := w20v) w20e rfl ?_
                obtain ⟨w21v, w21e, w21⟩ := ziadd (a := w1x2) (b := Int32.ofInt 1) rfl (show (Int32.ofInt 1).toInt = 1 by decide) (by omega) (by omega)
                refine zs_iinc (pc := 23) t92_23 (ls' := [(2, .int w21v), (1, .int w20v), (0, .ref 7)]) (zml mf92 (by decide)) rfl (c := w21v) w21e rfl ?_
                refine zs_goto (pc := 26) t92_26 ?_
                refine zGo.locals (ls' := [(0, .ref 7), (1, .int w20v), (2, .int w21v)]) (by simp) ?_
                exact w1ih (w1m - 1) (by omega) w20v w21v ⟨by omega, by omega⟩ (by omega)
  refine zGo.locals (ls' := [(0, .ref 7), (1, .int (0 : Int32)), (2, .int (0 : Int32))]) (by simp) ?_
  exact w1L ((60 - 0 : Int).toNat) (0 : Int32) (0 : Int32) ⟨by decide, by decide⟩ (by omega)
theorem C100_7 {X : zX} {l : Launch} {M : zM} {Q : Option Value → zM → Prop} (hs : zSk zMc M) (hI : zIv cLo cHi M) (hQ : ∀ v : Int32, (-2147483648) ≤ v.toInt → v.toInt ≤ 2147483647 → Q (some (.int v)) M) : zCall X l 0 0 0 100 [.ref 7] M Q := by
  refine zs_in (by decide) mf100 (Nat.le_of_ble_eq_true rfl) ?_
  show zGo X l 0 0 0 100 0 [(0, .ref 7)] [] M _
  refine zs_iconst (pc := 0) t100_0 (v := 0) (by decide) ?_
  refine zs_istore_n (pc := 1) t100_1 (ls' := [(1, .int (0 : Int32)), (0, .ref 7)]) (zml mf100 (by decide)) rfl ?_
  refine zs_iconst (pc := 2) t100_2 (v := 0) (by decide) ?_
  refine zs_istore_n (pc := 3) t100_3 (ls' := [(2, .int (0 : Int32)), (1, .int (0 : Int32)), (0, .ref 7)]) (zml mf100 (by decide)) rfl ?_
  have w1L : ∀ (m : Nat) (w1x1 : Int32) (w1x2 : Int32), (0 ≤ w1x2.toInt ∧ w1x2.toInt ≤ 8) → 8 - w1x2.toInt ≤ (m : Int) → zGo X l 0 0 0 100 4 [(0, .ref 7), (1, .int w1x1), (2, .int w1x2)] [] M Q := by
    intro m
    induction m using Nat.strongRecOn with
    | ind w1m w1ih =>
      intro w1x1 w1x2 w1b2 w1q
      have w1g1 := zrg w1x1
      refine zs_iload_n (pc := 4) t100_4 rfl ?_
      refine zs_aload_n (pc := 5) t100_5 rfl ?_
      have w2 := ib7_0 hI
      refine zs_get (pc := 6) t100_6 (by decide) (zk1 (hs.k fk_zMc_7)) (zfvi rfl rfl) ?_
      by_cases w3 : (zI M 7 0).toInt ≤ w1x2.toInt
      · refine zs_icmp_geT (pc := 9) t100_9 rfl rfl (by omega) ?_
        refine zs_iload_n (pc := 30) t100_30 rfl ?_
        exact zs_iret (pc := 31) t100_31 mr100 rfl (hQ _ (by omega) (by omega))
      · refine zs_icmp_geF (pc := 9) t100_9 rfl rfl (by omega) ?_
        refine zs_aload_n (pc := 12) t100_12 rfl ?_
        refine zs_get (pc := 13) t100_13 (by decide) (zk1 (hs.k fk_zMc_7)) (hs.p rfl fv_zMc_7_2) ?_
        refine zs_iload_n (pc := 16) t100_16 rfl ?_
        obtain ⟨w4n, w4⟩ : ∃ n : Nat, w1x2.toInt = (n : Int) := ⟨w1x2.toInt.toNat, by omega⟩
        have w5 := ib9 hI w4n
        refine zs_bald (pc := 17) t100_17 (j := w4n) (Or.inr (zk1 (hs.k fk_zMc_9))) w4 (zk2 (hs.k fk_zMc_9) (by omega)) rfl ?_
        by_cases w6 : (zI M 9 w4n).toInt = 0
        · refine zs_if_eqT (pc := 18) t100_18 rfl (by omega) ?_
          obtain ⟨w7v, w7e, w7⟩ := ziadd (a := w1x2) (b := Int32.ofInt 1) rfl (show (Int32.ofInt 1).toInt = 1 by decide) (by omega) (by omega)
          refine zs_iinc (pc := 24) t100_24 (ls' := [(2, .int w7v), (0, .ref 7), (1, .int w1x1)]) (zml mf100 (by decide)) rfl (c := w7v) w7e rfl ?_
          refine zs_goto (pc := 27) t100_27 ?_
          refine zGo.locals (ls' := [(0, .ref 7), (1, .int w1x1), (2, .int w7v)]) (by simp) ?_
          exact w1ih (w1m - 1) (by omega) w1x1 w7v ⟨by omega, by omega⟩ (by omega)
        · refine zs_if_eqF (pc := 18) t100_18 rfl (by omega) ?_
          obtain ⟨w8v, w8e⟩ : ∃ v, w1x1 + Int32.ofInt 1 = v := ⟨_, rfl⟩
          have w8 := zrg w8v
          refine zs_iinc (pc := 21) t100_21 (ls' := [(1, .int w8v), (0, .ref 7), (2, .int w1x2)]) (zml mf100 (by decide)) rfl (c := w8v) w8e rfl ?_
          obtain ⟨w9v, w9e, w9⟩ := ziadd (a := w1x2) (b := Int32.ofInt 1) rfl (show (Int32.ofInt 1).toInt = 1 by decide) (by omega) (by omega)
          refine zs_iinc (pc := 24) t100_24 (ls' := [(2, .int w9v), (1, .int w8v), (0, .ref 7)]) (zml mf100 (by decide)) rfl (c := w9v) w9e rfl ?_
          refine zs_goto (pc := 27) t100_27 ?_
          refine zGo.locals (ls' := [(0, .ref 7), (1, .int w8v), (2, .int w9v)]) (by simp) ?_
          exact w1ih (w1m - 1) (by omega) w8v w9v ⟨by omega, by omega⟩ (by omega)
  refine zGo.locals (ls' := [(0, .ref 7), (1, .int (0 : Int32)), (2, .int (0 : Int32))]) (by simp) ?_
  exact w1L ((8 - 0 : Int).toNat) (0 : Int32) (0 : Int32) ⟨by decide, by decide⟩ (by omega)
theorem C103_7 {X : zX} {l : Launch} {M : zM} {Q : Option Value → zM → Prop} {a : Int32} (hs : zSk zMc M) (hI : zIv cLo cHi M) (hQ : ∀ v : Int32, (-2147483648) ≤ v.toInt → v.toInt ≤ 2147483647 → Q (some (.int v)) M) : zCall X l 2 0 0 103 [.ref 7, .int a] M Q := by
  have ga := zrg a
  refine zs_in (by decide) mf103 (Nat.le_of_ble_eq_true rfl) ?_
  show zGo X l 2 0 0 103 0 [(0, .ref 7), (1, .int a)] [] M _
  refine zs_iconst (pc := 0) t103_0 (v := 0) (by decide) ?_
  refine zs_istore_n (pc := 1) t103_1 (ls' := [(2, .int (0 : Int32)), (0, .ref 7), (1, .int a)]) (zml mf103 (by decide)) rfl ?_
  refine zs_iconst (pc := 2) t103_2 (v := 0) (by decide) ?_
  refine zs_istore_n (pc := 3) t103_3 (ls' := [(3, .int (0 : Int32)), (2, .int (0 : Int32)), (0, .ref 7), (1, .int a)]) (zml mf103 (by decide)) rfl ?_
  have w1L : ∀ (m : Nat) (w1x2 : Int32) (w1x3 : Int32), (0 ≤ w1x3.toInt ∧ w1x3.toInt ≤ 60) → 60 - w1x3.toInt ≤ (m : Int) → zGo X l 2 0 0 103 4 [(0, .ref 7), (1, .int a), (2, .int w1x2), (3, .int w1x3)] [] M Q := by
    intro m
    induction m using Nat.strongRecOn with
    | ind w1m w1ih =>
      intro w1x2 w1x3 w1b3 w1q
      have w1g2 := zrg w1x2
      refine zs_iload_n (pc := 4) t103_4 rfl ?_
      refine zs_aload_n (pc := 5) t103_5 rfl ?_
      have w2 := ib7_3 hI
      refine zs_get (pc := 6) t103_6 (by decide) (zk1 (hs.k fk_zMc_7)) (zfvi rfl rfl) ?_
      by_cases w3 : (zI M 7 3).toInt ≤ w1x3.toInt
      · refine zs_icmp_geT (pc := 9) t103_9 rfl rfl (by omega) ?_
        refine zs_iload_n (pc := 39) t103_39 rfl ?_
        exact zs_iret (pc := 40) t103_40 mr103 rfl (hQ _ (by omega) (by omega))
      · refine zs_icmp_geF (pc := 9) t103_9 rfl rfl (by omega) ?_
        refine zs_aload_n (pc := 12) t103_12 rfl ?_
        refine zs_get (pc := 13) t103_13 (by decide) (zk1 (hs.k fk_zMc_7)) (hs.p rfl fv_zMc_7_4) ?_
        refine zs_iload_n (pc := 16) t103_16 rfl ?_
        obtain ⟨w4n, w4⟩ : ∃ n : Nat, w1x3.toInt = (n : Int) := ⟨w1x3.toInt.toNat, by omega⟩
        have w5 := ib10 hI w4n
        refine zs_iald (pc := 17) t103_17 (j := w4n) (by decide) (zk1 (hs.k fk_zMc_10)) w4 (zk2 (hs.k fk_zMc_10) (by omega)) rfl ?_
        refine zs_iload_n (pc := 18) t103_18 rfl ?_
        by_cases w6 : (zI M 10 w4n).toInt ≠ a.toInt
        · refine zs_icmp_neT (pc := 19) t103_19 rfl rfl (by omega) ?_
          obtain ⟨w7v, w7e, w7⟩ := ziadd (a := w1x3) (b := Int32.ofInt 1) rfl (show (Int32.ofInt 1).toInt = 1 by decide) (by omega) (by omega)
          refine zs_iinc (pc := 33) t103_33 (ls' := [(3, .int w7v), (0, .ref 7), (1, .int a), (2, .int w1x2)]) (zml mf103 (by decide)) rfl (c := w7v) w7e rfl ?_
          refine zs_goto (pc := 36) t103_36 ?_
          refine zGo.locals (ls' := [(0, .ref 7), (1, .int a), (2, .int w1x2), (3, .int w7v)]) (by simp) ?_
          exact w1ih (w1m - 1) (by omega) w1x2 w7v ⟨by omega, by omega⟩ (by omega)
        · refine zs_icmp_neF (pc := 19) t103_19 rfl rfl (by omega) ?_
          refine zs_aload_n (pc := 22) t103_22 rfl ?_
          refine zs_iload_n (pc := 23) t103_23 rfl ?_
          refine zs_invV (pc := 24) (k := 7) (as' := [.int w1x3]) (st := []) t103_24 mf93 rfl rfl (Or.inl ⟨by decide, (zk1 (hs.k fk_zMc_7))⟩) ⟨by decide, by decide, Nat.le_of_ble_eq_true rfl, Nat.le_of_ble_eq_true rfl⟩ (zs_in (by decide) mf93 (Nat.le_of_ble_eq_true rfl) ?_) (fun _ _ q => q)
          show zGo X l 1 0 0 93 0 [(0, .ref 7), (1, .int w1x3)] [] M _
          refine zs_aload_n (pc := 0) t93_0 rfl ?_
          refine zs_iload_n (pc := 1) t93_1 rfl ?_
          refine zs_invV (pc := 2) (k := 7) (as' := [.int w1x3]) (st := []) t93_2 mf91 rfl rfl (Or.inl ⟨by decide, (zk1 (hs.k fk_zMc_7))⟩) ⟨by decide, by decide, Nat.le_of_ble_eq_true rfl, Nat.le_of_ble_eq_true rfl⟩ (zs_in (by decide) mf91 (Nat.le_of_ble_eq_true rfl) ?_) (fun _ _ q => q)
          show zGo X l 0 0 0 91 0 [(0, .ref 7), (1, .int w1x3)] [] M _
          refine zs_iload_n (pc := 0) t91_0 rfl ?_
          refine zs_if_ltF (pc := 1) t91_1 rfl (by omega) ?_
          refine zs_iload_n (pc := 4) t91_4 rfl ?_
          refine zs_aload_n (pc := 5) t91_5 rfl ?_
          refine zs_get (pc := 6) t91_6 (by decide) (zk1 (hs.k fk_zMc_7)) (zfvi rfl rfl) ?_
          by_cases w8 : (zI M 7 3).toInt ≤ w1x3.toInt
          · refine zs_icmp_geT (pc := 9) t91_9 rfl rfl (by omega) ?_
            refine zs_iconst (pc := 16) t91_16 (v := 0) (by decide) ?_
            refine zs_iret (pc := 17) t91_17 mr91 (by decide) ?_
            show zGo X l 1 0 0 93 5 [(0, .ref 7), (1, .int w1x3)] [.int (0 : Int32)] M _
            refine zs_if_eqT (pc := 5) t93_5 li0 (by decide) ?_
            refine zs_iconst (pc := 51) t93_51 (v := 0) (by decide) ?_
            refine zs_iret (pc := 52) t93_52 mr93 (by decide) ?_
            show zGo X l 2 0 0 103 27 [(0, .ref 7), (1, .int a), (2, .int w1x2), (3, .int w1x3)] [.int (0 : Int32)] M _
            refine zs_if_eqT (pc := 27) t103_27 li0 (by decide) ?_
            obtain ⟨w9v, w9e, w9⟩ := ziadd (a := w1x3) (b := Int32.ofInt 1) rfl (show (Int32.ofInt 1).toInt = 1 by decide) (by omega) (by omega)
            refine zs_iinc (pc := 33) t103_33 (ls' := [(3, .int w9v), (0, .ref 7), (1, .int a), (2, .int w1x2)]) (zml mf103 (by decide)) rfl (c := w9v) w9e rfl ?_
            refine zs_goto (pc := 36) t103_36 ?_
            refine zGo.locals (ls' := [(0, .ref 7), (1, .int a), (2, .int w1x2), (3, .int w9v)]) (by simp) ?_
            exact w1ih (w1m - 1) (by omega) w1x2 w9v ⟨by omega, by omega⟩ (by omega)
          · refine zs_icmp_geF (pc := 9) t91_9 rfl rfl (by omega) ?_
            refine zs_iconst (pc := 12) t91_12 (v := 1) (by decide) ?_
            refine zs_goto (pc := 13) t91_13 ?_
            refine zs_iret (pc := 17) t91_17 mr91 (by decide) ?_
            show zGo X l 1 0 0 93 5 [(0, .ref 7), (1, .int w1x3)] [.int (1 : Int32)] M _
            refine zs_if_eqF (pc := 5) t93_5 li1 (by decide) ?_
            refine zs_aload_n (pc := 8) t93_8 rfl ?_
            refine zs_get (pc := 9) t93_9 (by decide) (zk1 (hs.k fk_zMc_7)) (hs.p rfl fv_zMc_7_2) ?_
            refine zs_aload_n (pc := 12) t93_12 rfl ?_
            refine zs_get (pc := 13) t93_13 (by decide) (zk1 (hs.k fk_zMc_7)) (hs.p rfl fv_zMc_7_4) ?_
            refine zs_iload_n (pc := 16) t93_16 rfl ?_
            obtain ⟨w10n, w10⟩ : ∃ n : Nat, w1x3.toInt = (n : Int) := ⟨w1x3.toInt.toNat, by omega⟩
            have w11 := ib10 hI w10n
            refine zs_iald (pc := 17) t93_17 (j := w10n) (by decide) (zk1 (hs.k fk_zMc_10)) w10 (zk2 (hs.k fk_zMc_10) (by omega)) rfl ?_
            obtain ⟨w12n, w12⟩ : ∃ n : Nat, (zI M 10 w10n).toInt = (n : Int) := ⟨(zI M 10 w10n).toInt.toNat, by omega⟩
            have w13 := ib9 hI w12n
            refine zs_bald (pc := 18) t93_18 (j := w12n) (Or.inr (zk1 (hs.k fk_zMc_9))) w12 (zk2 (hs.k fk_zMc_9) (by omega)) rfl ?_
            by_cases w14 : (zI M 9 w12n).toInt = 0
            · refine zs_if_eqT (pc := 19) t93_19 rfl (by omega) ?_
              refine zs_iconst (pc := 51) t93_51 (v := 0) (by decide) ?_
              refine zs_iret (pc := 52) t93_52 mr93 (by decide) ?_
              show zGo X l 2 0 0 103 27 [(0, .ref 7), (1, .int a), (2, .int w1x2), (3, .int w1x3)] [.int (0 : Int32)] M _
              refine zs_if_eqT (pc := 27) t103_27 li0 (by decide) ?_
              obtain ⟨w15v, w15e, w15⟩ := ziadd (a := w1x3) (b := Int32.ofInt 1) rfl (show (Int32.ofInt 1).toInt = 1 by decide) (by omega) (by omega)
              refine zs_iinc (pc := 33) t103_33 (ls' := [(3, .int w15v), (0, .ref 7), (1, .int a), (2, .int w1x2)]) (zml mf103 (by decide)) rfl (c := w15v) w15e rfl ?_
              refine zs_goto (pc := 36) t103_36 ?_
              refine zGo.locals (ls' := [(0, .ref 7), (1, .int a), (2, .int w1x2), (3, .int w15v)]) (by simp) ?_
              exact w1ih (w1m - 1) (by omega) w1x2 w15v ⟨by omega, by omega⟩ (by omega)
            · refine zs_if_eqF (pc := 19) t93_19 rfl (by omega) ?_
              refine zs_aload_n (pc := 22) t93_22 rfl ?_
              refine zs_get (pc := 23) t93_23 (by decide) (zk1 (hs.k fk_zMc_7)) (hs.p rfl fv_zMc_7_6) ?_
              refine zs_iload_n (pc := 26) t93_26 rfl ?_
              obtain ⟨w16n, w16⟩ : ∃ n : Nat, w1x3.toInt = (n : Int) := ⟨w1x3.toInt.toNat, by omega⟩
              have w17 := ib12 hI w16n
              refine zs_iald (pc := 27) t93_27 (j := w16n) (by decide) (zk1 (hs.k fk_zMc_12)) w16 (zk2 (hs.k fk_zMc_12) (by omega)) rfl ?_
              refine zs_aload_n (pc := 28) t93_28 rfl ?_
              refine zs_get (pc := 29) t93_29 (by decide) (zk1 (hs.k fk_zMc_7)) (hs.p rfl fv_zMc_7_12) ?_
              refine zs_iconst (pc := 32) t93_32 (v := 5) (by decide) ?_
              have w18 := ib17 hI 5
              refine zs_iald (pc := 33) t93_33 (j := 5) (by decide) (zk1 (hs.k fk_zMc_17)) li5 (zk2 (hs.k fk_zMc_17) (by decide)) rfl ?_
              refine zs_aload_n (pc := 34) t93_34 rfl ?_
              refine zs_get (pc := 35) t93_35 (by decide) (zk1 (hs.k fk_zMc_7)) (hs.p rfl fv_zMc_7_12) ?_
              refine zs_bipush (pc := 38) t93_38 (v := 6) (by decide) ?_
              have w19 := ib17 hI 6
              refine zs_iald (pc := 40) t93_40 (j := 6) (by decide) (zk1 (hs.k fk_zMc_17)) li6 (zk2 (hs.k fk_zMc_17) (by decide)) rfl ?_
              refine zs_invS (pc := 41) (as := [.int (zI M 12 w16n), .int (zI M 17 5), .int (zI M 17 6)]) (st := []) t93_41 (by decide) mf39 rfl rfl ⟨by decide, by decide, Nat.le_of_ble_eq_true rfl, Nat.le_of_ble_eq_true rfl⟩ (zs_in (by decide) mf39 (Nat.le_of_ble_eq_true rfl) ?_) (fun _ _ q => q)
              show zGo X l 0 0 0 39 0 [(0, .int (zI M 12 w16n)), (1, .int (zI M 17 5)), (2, .int (zI M 17 6))] [] M _
              refine zs_iload_n (pc := 0) t39_0 rfl ?_
              refine zs_iload_n (pc := 1) t39_1 rfl ?_
              by_cases w20 : (zI M 12 w16n).toInt < (zI M 17 5).toInt
              · refine zs_icmp_ltT (pc := 2) t39_2 rfl rfl (by omega) ?_
                refine zs_iconst (pc := 14) t39_14 (v := 0) (by decide) ?_
                refine zs_iret (pc := 15) t39_15 mr39 (by decide) ?_
                show zGo X l 1 0 0 93 44 [(0, .ref 7), (1, .int w1x3)] [.int (0 : Int32)] M _
                refine zs_if_eqT (pc := 44) t93_44 li0 (by decide) ?_
                refine zs_iconst (pc := 51) t93_51 (v := 0) (by decide) ?_
                refine zs_iret (pc := 52) t93_52 mr93 (by decide) ?_
                show zGo X l 2 0 0 103 27 [(0, .ref 7), (1, .int a), (2, .int w1x2), (3, .int w1x3)] [.int (0 : Int32)] M _
                refine zs_if_eqT (pc := 27) t103_27 li0 (by decide) ?_
                obtain ⟨w21v, w21e, w21⟩ := ziadd (a := w1x3) (b := Int32.ofInt 1) rfl (show (Int32.ofInt 1).toInt = 1 by decide) (by omega) (by omega)
                refine zs_iinc (pc := 33) t103_33 (ls' := [(3, .int w21v), (0, .ref 7), (1, .int a), (2, .int w1x2)]) (zml mf103 (by decide)) rfl (c := w21v) w21e rfl ?_
                refine zs_goto (pc := 36) t103_36 ?_
                refine zGo.locals (ls' := [(0, .ref 7), (1, .int a), (2, .int w1x2), (3, .int w21v)]) (by simp) ?_
                exact w1ih (w1m - 1) (by omega) w1x2 w21v ⟨by omega, by omega⟩ (by omega)
              · refine zs_icmp_ltF (pc := 2) t39_2 rfl rfl (by omega) ?_
                refine zs_iload_n (pc := 5) t39_5 rfl ?_
                refine zs_iload_n (pc := 6) t39_6 rfl ?_
                by_cases w22 : (zI M 17 6).toInt < (zI M 12 w16n).toInt
                · refine zs_icmp_gtT (pc := 7) t39_7 rfl rfl (by omega) ?_
                  refine zs_iconst (pc := 14) t39_14 (v := 0) (by decide) ?_
                  refine zs_iret (pc := 15) t39_15 mr39 (by decide) ?_
                  show zGo X l 1 0 0 93 44 [(0, .ref 7), (1, .int w1x3)] [.int (0 : Int32)] M _
                  refine zs_if_eqT (pc := 44) t93_44 li0 (by decide) ?_
                  refine zs_iconst (pc := 51) t93_51 (v := 0) (by decide) ?_
                  refine zs_iret (pc := 52) t93_52 mr93 (by decide) ?_
                  show zGo X l 2 0 0 103 27 [(0, .ref 7), (1, .int a), (2, .int w1x2), (3, .int w1x3)] [.int (0 : Int32)] M _
                  refine zs_if_eqT (pc := 27) t103_27 li0 (by decide) ?_
                  obtain ⟨w23v, w23e, w23⟩ := ziadd (a := w1x3) (b := Int32.ofInt 1) rfl (show (Int32.ofInt 1).toInt = 1 by decide) (by omega) (by omega)
                  refine zs_iinc (pc := 33) t103_33 (ls' := [(3, .int w23v), (0, .ref 7), (1, .int a), (2, .int w1x2)]) (zml mf103 (by decide)) rfl (c := w23v) w23e rfl ?_
                  refine zs_goto (pc := 36) t103_36 ?_
                  refine zGo.locals (ls' := [(0, .ref 7), (1, .int a), (2, .int w1x2), (3, .int w23v)]) (by simp) ?_
                  exact w1ih (w1m - 1) (by omega) w1x2 w23v ⟨by omega, by omega⟩ (by omega)
                · refine zs_icmp_gtF (pc := 7) t39_7 rfl rfl (by omega) ?_
                  refine zs_iconst (pc := 10) t39_10 (v := 1) (by decide) ?_
                  refine zs_goto (pc := 11) t39_11 ?_
                  refine zs_iret (pc := 15) t39_15 mr39 (by decide) ?_
                  show zGo X l 1 0 0 93 44 [(0, .ref 7), (1, .int w1x3)] [.int (1 : Int32)] M _
                  refine zs_if_eqF (pc := 44) t93_44 li1 (by decide) ?_
                  refine zs_iconst (pc := 47) t93_47 (v := 1) (by decide) ?_
                  refine zs_goto (pc := 48) t93_48 ?_
                  refine zs_iret (pc := 52) t93_52 mr93 (by decide) ?_
                  show zGo X l 2 0 0 103 27 [(0, .ref 7), (1, .int a), (2, .int w1x2), (3, .int w1x3)] [.int (1 : Int32)] M _
                  refine zs_if_eqF (pc := 27) t103_27 li1 (by decide) ?_
                  obtain ⟨w24v, w24e⟩ : ∃ v, w1x2 + Int32.ofInt 1 = v := ⟨_, rfl⟩
                  have w24 := zrg w24v
                  refine zs_iinc (pc := 30) t103_30 (ls' := [(2, .int w24v), (0, .ref 7), (1, .int a), (3, .int w1x3)]) (zml mf103 (by decide)) rfl (c := w24v) w24e rfl ?_
                  obtain ⟨w25v, w25e, w25⟩ := ziadd (a := w1x3) (b := Int32.ofInt 1) rfl (show (Int32.ofInt 1).toInt = 1 by decide) (by omega) (by omega)
                  refine zs_iinc (pc := 33) t103_33 (ls' := [(3, .int w25v), (2, .int w24v), (0, .ref 7), (1, .int a)]) (zml mf103 (by decide)) rfl (c := w25v) w25e rfl ?_
                  refine zs_goto (pc := 36) t103_36 ?_
                  refine zGo.locals (ls' := [(0, .ref 7), (1, .int a), (2, .int w24v), (3, .int w25v)]) (by simp) ?_
                  exact w1ih (w1m - 1) (by omega) w24v w25v ⟨by omega, by omega⟩ (by omega)
  refine zGo.locals (ls' := [(0, .ref 7), (1, .int a), (2, .int (0 : Int32)), (3, .int (0 : Int32))]) (by simp) ?_
  exact w1L ((60 - 0 : Int).toNat) (0 : Int32) (0 : Int32) ⟨by decide, by decide⟩ (by omega)
theorem C128_7 {X : zX} {l : Launch} {M : zM} {Q : Option Value → zM → Prop} {a : Int32} (hs : zSk zMc M) (hI : zIv cLo cHi M) (hQ : ∀ v : Int32, (-2147483648) ≤ v.toInt → v.toInt ≤ 2147483647 → Q (some (.int v)) M) : zCall X l 2 0 0 128 [.ref 7, .int a] M Q := by
  have ga := zrg a
  refine zs_in (by decide) mf128 (Nat.le_of_ble_eq_true rfl) ?_
  show zGo X l 2 0 0 128 0 [(0, .ref 7), (1, .int a)] [] M _
  refine zs_iconst (pc := 0) t128_0 (v := 0) (by decide) ?_
  refine zs_istore_n (pc := 1) t128_1 (ls' := [(2, .int (0 : Int32)), (0, .ref 7), (1, .int a)]) (zml mf128 (by decide)) rfl ?_
  refine zs_iconst (pc := 2) t128_2 (v := 0) (by decide) ?_
  refine zs_istore_n (pc := 3) t128_3 (ls' := [(3, .int (0 : Int32)), (2, .int (0 : Int32)), (0, .ref 7), (1, .int a)]) (zml mf128 (by decide)) rfl ?_
  have w1L : ∀ (m : Nat) (w1x2 : Int32) (w1x3 : Int32), (0 ≤ w1x3.toInt ∧ w1x3.toInt ≤ 60) → 60 - w1x3.toInt ≤ (m : Int) → zGo X l 2 0 0 128 4 [(0, .ref 7), (1, .int a), (2, .int w1x2), (3, .int w1x3)] [] M Q := by
    intro m
    induction m using Nat.strongRecOn with
    | ind w1m w1ih =>
      intro w1x2 w1x3 w1b3 w1q
      have w1g2 := zrg w1x2
      refine zs_iload_n (pc := 4) t128_4 rfl ?_
      refine zs_aload_n (pc := 5) t128_5 rfl ?_
      have w2 := ib7_3 hI
      refine zs_get (pc := 6) t128_6 (by decide) (zk1 (hs.k fk_zMc_7)) (zfvi rfl rfl) ?_
      by_cases w3 : (zI M 7 3).toInt ≤ w1x3.toInt
      · refine zs_icmp_geT (pc := 9) t128_9 rfl rfl (by omega) ?_
        refine zs_iload_n (pc := 39) t128_39 rfl ?_
        exact zs_iret (pc := 40) t128_40 mr128 rfl (hQ _ (by omega) (by omega))
      · refine zs_icmp_geF (pc := 9) t128_9 rfl rfl (by omega) ?_
        refine zs_aload_n (pc := 12) t128_12 rfl ?_
        refine zs_get (pc := 13) t128_13 (by decide) (zk1 (hs.k fk_zMc_7)) (hs.p rfl fv_zMc_7_7) ?_
        refine zs_iload_n (pc := 16) t128_16 rfl ?_
        obtain ⟨w4n, w4⟩ : ∃ n : Nat, w1x3.toInt = (n : Int) := ⟨w1x3.toInt.toNat, by omega⟩
        have w5 := ib13 hI w4n
        refine zs_iald (pc := 17) t128_17 (j := w4n) (by decide) (zk1 (hs.k fk_zMc_13)) w4 (zk2 (hs.k fk_zMc_13) (by omega)) rfl ?_
        refine zs_iload_n (pc := 18) t128_18 rfl ?_
        by_cases w6 : (zI M 13 w4n).toInt ≠ a.toInt
        · refine zs_icmp_neT (pc := 19) t128_19 rfl rfl (by omega) ?_
          obtain ⟨w7v, w7e, w7⟩ := ziadd (a := w1x3) (b := Int32.ofInt 1) rfl (show (Int32.ofInt 1).toInt = 1 by decide) (by omega) (by omega)
          refine zs_iinc (pc := 33) t128_33 (ls' := [(3, .int w7v), (0, .ref 7), (1, .int a), (2, .int w1x2)]) (zml mf128 (by decide)) rfl (c := w7v) w7e rfl ?_
          refine zs_goto (pc := 36) t128_36 ?_
          refine zGo.locals (ls' := [(0, .ref 7), (1, .int a), (2, .int w1x2), (3, .int w7v)]) (by simp) ?_
          exact w1ih (w1m - 1) (by omega) w1x2 w7v ⟨by omega, by omega⟩ (by omega)
        · refine zs_icmp_neF (pc := 19) t128_19 rfl rfl (by omega) ?_
          refine zs_aload_n (pc := 22) t128_22 rfl ?_
          refine zs_iload_n (pc := 23) t128_23 rfl ?_
          refine zs_invV (pc := 24) (k := 7) (as' := [.int w1x3]) (st := []) t128_24 mf93 rfl rfl (Or.inl ⟨by decide, (zk1 (hs.k fk_zMc_7))⟩) ⟨by decide, by decide, Nat.le_of_ble_eq_true rfl, Nat.le_of_ble_eq_true rfl⟩ (zs_in (by decide) mf93 (Nat.le_of_ble_eq_true rfl) ?_) (fun _ _ q => q)
          show zGo X l 1 0 0 93 0 [(0, .ref 7), (1, .int w1x3)] [] M _
          refine zs_aload_n (pc := 0) t93_0 rfl ?_
          refine zs_iload_n (pc := 1) t93_1 rfl ?_
          refine zs_invV (pc := 2) (k := 7) (as' := [.int w1x3]) (st := []) t93_2 mf91 rfl rfl (Or.inl ⟨by decide, (zk1 (hs.k fk_zMc_7))⟩) ⟨by decide, by decide, Nat.le_of_ble_eq_true rfl, Nat.le_of_ble_eq_true rfl⟩ (zs_in (by decide) mf91 (Nat.le_of_ble_eq_true rfl) ?_) (fun _ _ q => q)
          show zGo X l 0 0 0 91 0 [(0, .ref 7), (1, .int w1x3)] [] M _
          refine zs_iload_n (pc := 0) t91_0 rfl ?_
          refine zs_if_ltF (pc := 1) t91_1 rfl (by omega) ?_
          refine zs_iload_n (pc := 4) t91_4 rfl ?_
          refine zs_aload_n (pc := 5) t91_5 rfl ?_
          refine zs_get (pc := 6) t91_6 (by decide) (zk1 (hs.k fk_zMc_7)) (zfvi rfl rfl) ?_
          by_cases w8 : (zI M 7 3).toInt ≤ w1x3.toInt
          · refine zs_icmp_geT (pc := 9) t91_9 rfl rfl (by omega) ?_
            refine zs_iconst (pc := 16) t91_16 (v := 0) (by decide) ?_
            refine zs_iret (pc := 17) t91_17 mr91 (by decide) ?_
            show zGo X l 1 0 0 93 5 [(0, .ref 7), (1, .int w1x3)] [.int (0 : Int32)] M _
            refine zs_if_eqT (pc := 5) t93_5 li0 (by decide) ?_
            refine zs_iconst (pc := 51) t93_51 (v := 0) (by decide) ?_
            refine zs_iret (pc := 52) t93_52 mr93 (by decide) ?_
            show zGo X l 2 0 0 128 27 [(0, .ref 7), (1, .int a), (2, .int w1x2), (3, .int w1x3)] [.int (0 : Int32)] M _
            refine zs_if_eqT (pc := 27) t128_27 li0 (by decide) ?_
            obtain ⟨w9v, w9e, w9⟩ := ziadd (a := w1x3) (b := Int32.ofInt 1) rfl (show (Int32.ofInt 1).toInt = 1 by decide) (by omega) (by omega)
            refine zs_iinc (pc := 33) t128_33 (ls' := [(3, .int w9v), (0, .ref 7), (1, .int a), (2, .int w1x2)]) (zml mf128 (by decide)) rfl (c := w9v) w9e rfl ?_
            refine zs_goto (pc := 36) t128_36 ?_
            refine zGo.locals (ls' := [(0, .ref 7), (1, .int a), (2, .int w1x2), (3, .int w9v)]) (by simp) ?_
            exact w1ih (w1m - 1) (by omega) w1x2 w9v ⟨by omega, by omega⟩ (by omega)
          · refine zs_icmp_geF (pc := 9) t91_9 rfl rfl (by omega) ?_
            refine zs_iconst (pc := 12) t91_12 (v := 1) (by decide) ?_
            refine zs_goto (pc := 13) t91_13 ?_
            refine zs_iret (pc := 17) t91_17 mr91 (by decide) ?_
            show zGo X l 1 0 0 93 5 [(0, .ref 7), (1, .int w1x3)] [.int (1 : Int32)] M _
            refine zs_if_eqF (pc := 5) t93_5 li1 (by decide) ?_
            refine zs_aload_n (pc := 8) t93_8 rfl ?_
            refine zs_get (pc := 9) t93_9 (by decide) (zk1 (hs.k fk_zMc_7)) (hs.p rfl fv_zMc_7_2) ?_
            refine zs_aload_n (pc := 12) t93_12 rfl ?_
            refine zs_get (pc := 13) t93_13 (by decide) (zk1 (hs.k fk_zMc_7)) (hs.p rfl fv_zMc_7_4) ?_
            refine zs_iload_n (pc := 16) t93_16 rfl ?_
            obtain ⟨w10n, w10⟩ : ∃ n : Nat, w1x3.toInt = (n : Int) := ⟨w1x3.toInt.toNat, by omega⟩
            have w11 := ib10 hI w10n
            refine zs_iald (pc := 17) t93_17 (j := w10n) (by decide) (zk1 (hs.k fk_zMc_10)) w10 (zk2 (hs.k fk_zMc_10) (by omega)) rfl ?_
            obtain ⟨w12n, w12⟩ : ∃ n : Nat, (zI M 10 w10n).toInt = (n : Int) := ⟨(zI M 10 w10n).toInt.toNat, by omega⟩
            have w13 := ib9 hI w12n
            refine zs_bald (pc := 18) t93_18 (j := w12n) (Or.inr (zk1 (hs.k fk_zMc_9))) w12 (zk2 (hs.k fk_zMc_9) (by omega)) rfl ?_
            by_cases w14 : (zI M 9 w12n).toInt = 0
            · refine zs_if_eqT (pc := 19) t93_19 rfl (by omega) ?_
              refine zs_iconst (pc := 51) t93_51 (v := 0) (by decide) ?_
              refine zs_iret (pc := 52) t93_52 mr93 (by decide) ?_
              show zGo X l 2 0 0 128 27 [(0, .ref 7), (1, .int a), (2, .int w1x2), (3, .int w1x3)] [.int (0 : Int32)] M _
              refine zs_if_eqT (pc := 27) t128_27 li0 (by decide) ?_
              obtain ⟨w15v, w15e, w15⟩ := ziadd (a := w1x3) (b := Int32.ofInt 1) rfl (show (Int32.ofInt 1).toInt = 1 by decide) (by omega) (by omega)
              refine zs_iinc (pc := 33) t128_33 (ls' := [(3, .int w15v), (0, .ref 7), (1, .int a), (2, .int w1x2)]) (zml mf128 (by decide)) rfl (c := w15v) w15e rfl ?_
              refine zs_goto (pc := 36) t128_36 ?_
              refine zGo.locals (ls' := [(0, .ref 7), (1, .int a), (2, .int w1x2), (3, .int w15v)]) (by simp) ?_
              exact w1ih (w1m - 1) (by omega) w1x2 w15v ⟨by omega, by omega⟩ (by omega)
            · refine zs_if_eqF (pc := 19) t93_19 rfl (by omega) ?_
              refine zs_aload_n (pc := 22) t93_22 rfl ?_
              refine zs_get (pc := 23) t93_23 (by decide) (zk1 (hs.k fk_zMc_7)) (hs.p rfl fv_zMc_7_6) ?_
              refine zs_iload_n (pc := 26) t93_26 rfl ?_
              obtain ⟨w16n, w16⟩ : ∃ n : Nat, w1x3.toInt = (n : Int) := ⟨w1x3.toInt.toNat, by omega⟩
              have w17 := ib12 hI w16n
              refine zs_iald (pc := 27) t93_27 (j := w16n) (by decide) (zk1 (hs.k fk_zMc_12)) w16 (zk2 (hs.k fk_zMc_12) (by omega)) rfl ?_
              refine zs_aload_n (pc := 28) t93_28 rfl ?_
              refine zs_get (pc := 29) t93_29 (by decide) (zk1 (hs.k fk_zMc_7)) (hs.p rfl fv_zMc_7_12) ?_
              refine zs_iconst (pc := 32) t93_32 (v := 5) (by decide) ?_
              have w18 := ib17 hI 5
              refine zs_iald (pc := 33) t93_33 (j := 5) (by decide) (zk1 (hs.k fk_zMc_17)) li5 (zk2 (hs.k fk_zMc_17) (by decide)) rfl ?_
              refine zs_aload_n (pc := 34) t93_34 rfl ?_
              refine zs_get (pc := 35) t93_35 (by decide) (zk1 (hs.k fk_zMc_7)) (hs.p rfl fv_zMc_7_12) ?_
              refine zs_bipush (pc := 38) t93_38 (v := 6) (by decide) ?_
              have w19 := ib17 hI 6
              refine zs_iald (pc := 40) t93_40 (j := 6) (by decide) (zk1 (hs.k fk_zMc_17)) li6 (zk2 (hs.k fk_zMc_17) (by decide)) rfl ?_
              refine zs_invS (pc := 41) (as := [.int (zI M 12 w16n), .int (zI M 17 5), .int (zI M 17 6)]) (st := []) t93_41 (by decide) mf39 rfl rfl ⟨by decide, by decide, Nat.le_of_ble_eq_true rfl, Nat.le_of_ble_eq_true rfl⟩ (zs_in (by decide) mf39 (Nat.le_of_ble_eq_true rfl) ?_) (fun _ _ q => q)
              show zGo X l 0 0 0 39 0 [(0, .int (zI M 12 w16n)), (1, .int (zI M 17 5)), (2, .int (zI M 17 6))] [] M _
              refine zs_iload_n (pc := 0) t39_0 rfl ?_
              refine zs_iload_n (pc := 1) t39_1 rfl ?_
              by_cases w20 : (zI M 12 w16n).toInt < (zI M 17 5).toInt
              · refine zs_icmp_ltT (pc := 2) t39_2 rfl rfl (by omega) ?_
                refine zs_iconst (pc := 14) t39_14 (v := 0) (by decide) ?_
                refine zs_iret (pc := 15) t39_15 mr39 (by decide) ?_
                show zGo X l 1 0 0 93 44 [(0, .ref 7), (1, .int w1x3)] [.int (0 : Int32)] M _
                refine zs_if_eqT (pc := 44) t93_44 li0 (by decide) ?_
                refine zs_iconst (pc := 51) t93_51 (v := 0) (by decide) ?_
                refine zs_iret (pc := 52) t93_52 mr93 (by decide) ?_
                show zGo X l 2 0 0 128 27 [(0, .ref 7), (1, .int a), (2, .int w1x2), (3, .int w1x3)] [.int (0 : Int32)] M _
                refine zs_if_eqT (pc := 27) t128_27 li0 (by decide) ?_
                obtain ⟨w21v, w21e, w21⟩ := ziadd (a := w1x3) (b := Int32.ofInt 1) rfl (show (Int32.ofInt 1).toInt = 1 by decide) (by omega) (by omega)
                refine zs_iinc (pc := 33) t128_33 (ls' := [(3, .int w21v), (0, .ref 7), (1, .int a), (2, .int w1x2)]) (zml mf128 (by decide)) rfl (c := w21v) w21e rfl ?_
                refine zs_goto (pc := 36) t128_36 ?_
                refine zGo.locals (ls' := [(0, .ref 7), (1, .int a), (2, .int w1x2), (3, .int w21v)]) (by simp) ?_
                exact w1ih (w1m - 1) (by omega) w1x2 w21v ⟨by omega, by omega⟩ (by omega)
              · refine zs_icmp_ltF (pc := 2) t39_2 rfl rfl (by omega) ?_
                refine zs_iload_n (pc := 5) t39_5 rfl ?_
                refine zs_iload_n (pc := 6) t39_6 rfl ?_
                by_cases w22 : (zI M 17 6).toInt < (zI M 12 w16n).toInt
                · refine zs_icmp_gtT (pc := 7) t39_7 rfl rfl (by omega) ?_
                  refine zs_iconst (pc := 14) t39_14 (v := 0) (by decide) ?_
                  refine zs_iret (pc := 15) t39_15 mr39 (by decide) ?_
                  show zGo X l 1 0 0 93 44 [(0, .ref 7), (1, .int w1x3)] [.int (0 : Int32)] M _
                  refine zs_if_eqT (pc := 44) t93_44 li0 (by decide) ?_
                  refine zs_iconst (pc := 51) t93_51 (v := 0) (by decide) ?_
                  refine zs_iret (pc := 52) t93_52 mr93 (by decide) ?_
                  show zGo X l 2 0 0 128 27 [(0, .ref 7), (1, .int a), (2, .int w1x2), (3, .int w1x3)] [.int (0 : Int32)] M _
                  refine zs_if_eqT (pc := 27) t128_27 li0 (by decide) ?_
                  obtain ⟨w23v, w23e, w23⟩ := ziadd (a := w1x3) (b := Int32.ofInt 1) rfl (show (Int32.ofInt 1).toInt = 1 by decide) (by omega) (by omega)
                  refine zs_iinc (pc := 33) t128_33 (ls' := [(3, .int w23v), (0, .ref 7), (1, .int a), (2, .int w1x2)]) (zml mf128 (by decide)) rfl (c := w23v) w23e rfl ?_
                  refine zs_goto (pc := 36) t128_36 ?_
                  refine zGo.locals (ls' := [(0, .ref 7), (1, .int a), (2, .int w1x2), (3, .int w23v)]) (by simp) ?_
                  exact w1ih (w1m - 1) (by omega) w1x2 w23v ⟨by omega, by omega⟩ (by omega)
                · refine zs_icmp_gtF (pc := 7) t39_7 rfl rfl (by omega) ?_
                  refine zs_iconst (pc := 10) t39_10 (v := 1) (by decide) ?_
                  refine zs_goto (pc := 11) t39_11 ?_
                  refine zs_iret (pc := 15) t39_15 mr39 (by decide) ?_
                  show zGo X l 1 0 0 93 44 [(0, .ref 7), (1, .int w1x3)] [.int (1 : Int32)] M _
                  refine zs_if_eqF (pc := 44) t93_44 li1 (by decide) ?_
                  refine zs_iconst (pc := 47) t93_47 (v := 1) (by decide) ?_
                  refine zs_goto (pc := 48) t93_48 ?_
                  refine zs_iret (pc := 52) t93_52 mr93 (by decide) ?_
                  show zGo X l 2 0 0 128 27 [(0, .ref 7), (1, .int a), (2, .int w1x2), (3, .int w1x3)] [.int (1 : Int32)] M _
                  refine zs_if_eqF (pc := 27) t128_27 li1 (by decide) ?_
                  obtain ⟨w24v, w24e⟩ : ∃ v, w1x2 + Int32.ofInt 1 = v := ⟨_, rfl⟩
                  have w24 := zrg w24v
                  refine zs_iinc (pc := 30) t128_30 (ls' := [(2, .int w24v), (0, .ref 7), (1, .int a), (3, .int w1x3)]) (zml mf128 (by decide)) rfl (c := w24v) w24e rfl ?_
                  obtain ⟨w25v, w25e, w25⟩ := ziadd (a := w1x3) (b := Int32.ofInt 1) rfl (show (Int32.ofInt 1).toInt = 1 by decide) (by omega) (by omega)
                  refine zs_iinc (pc := 33) t128_33 (ls' := [(3, .int w25v), (2, .int w24v), (0, .ref 7), (1, .int a)]) (zml mf128 (by decide)) rfl (c := w25v) w25e rfl ?_
                  refine zs_goto (pc := 36) t128_36 ?_
                  refine zGo.locals (ls' := [(0, .ref 7), (1, .int a), (2, .int w24v), (3, .int w25v)]) (by simp) ?_
                  exact w1ih (w1m - 1) (by omega) w24v w25v ⟨by omega, by omega⟩ (by omega)
  refine zGo.locals (ls' := [(0, .ref 7), (1, .int a), (2, .int (0 : Int32)), (3, .int (0 : Int32))]) (by simp) ?_
  exact w1L ((60 - 0 : Int).toNat) (0 : Int32) (0 : Int32) ⟨by decide, by decide⟩ (by omega)
theorem C211_7 {X : zX} {l : Launch} {M : zM} {Q : Option Value → zM → Prop} {a b : Int32} (hs : zSk zMc M) (hI : zIv cLo cHi M) (hQ : ∀ v : Int32, (-2147483648) ≤ v.toInt → v.toInt ≤ 2147483647 → Q (some (.int v)) M) : zCall X l 1 0 0 211 [.ref 7, .int a, .int b] M Q := by
  have ga := zrg a
  have gb := zrg b
  refine zs_in (by decide) mf211 (Nat.le_of_ble_eq_true rfl) ?_
  show zGo X l 1 0 0 211 0 [(0, .ref 7), (1, .int a), (2, .int b)] [] M _
  refine zs_iconst (pc := 0) t211_0 (v := 0) (by decide) ?_
  refine zs_istore_n (pc := 1) t211_1 (ls' := [(3, .int (0 : Int32)), (0, .ref 7), (1, .int a), (2, .int b)]) (zml mf211 (by decide)) rfl ?_
  refine zs_iconst (pc := 2) t211_2 (v := 0) (by decide) ?_
  refine zs_istore (pc := 3) t211_3 (ls' := [(4, .int (0 : Int32)), (3, .int (0 : Int32)), (0, .ref 7), (1, .int a), (2, .int b)]) (zml mf211 (by decide)) rfl ?_
  have w1L : ∀ (m : Nat) (w1x3 : Int32) (w1x4 : Int32), (0 ≤ w1x4.toInt ∧ w1x4.toInt ≤ 60) → 60 - w1x4.toInt ≤ (m : Int) → zGo X l 1 0 0 211 5 [(0, .ref 7), (1, .int a), (2, .int b), (3, .int w1x3), (4, .int w1x4)] [] M Q := by
    intro m
    induction m using Nat.strongRecOn with
    | ind w1m w1ih =>
      intro w1x3 w1x4 w1b4 w1q
      have w1g3 := zrg w1x3
      refine zs_iload (pc := 5) t211_5 rfl ?_
      refine zs_aload_n (pc := 7) t211_7 rfl ?_
      have w2 := ib7_3 hI
      refine zs_get (pc := 8) t211_8 (by decide) (zk1 (hs.k fk_zMc_7)) (zfvi rfl rfl) ?_
      by_cases w3 : (zI M 7 3).toInt ≤ w1x4.toInt
      · refine zs_icmp_geT (pc := 11) t211_11 rfl rfl (by omega) ?_
        refine zs_iload_n (pc := 53) t211_53 rfl ?_
        exact zs_iret (pc := 54) t211_54 mr211 rfl (hQ _ (by omega) (by omega))
      · refine zs_icmp_geF (pc := 11) t211_11 rfl rfl (by omega) ?_
        refine zs_aload_n (pc := 14) t211_14 rfl ?_
        refine zs_get (pc := 15) t211_15 (by decide) (zk1 (hs.k fk_zMc_7)) (hs.p rfl fv_zMc_7_2) ?_
        refine zs_aload_n (pc := 18) t211_18 rfl ?_
        refine zs_get (pc := 19) t211_19 (by decide) (zk1 (hs.k fk_zMc_7)) (hs.p rfl fv_zMc_7_4) ?_
        refine zs_iload (pc := 22) t211_22 rfl ?_
        obtain ⟨w4n, w4⟩ : ∃ n : Nat, w1x4.toInt = (n : Int) := ⟨w1x4.toInt.toNat, by omega⟩
        have w5 := ib10 hI w4n
        refine zs_iald (pc := 24) t211_24 (j := w4n) (by decide) (zk1 (hs.k fk_zMc_10)) w4 (zk2 (hs.k fk_zMc_10) (by omega)) rfl ?_
        obtain ⟨w6n, w6⟩ : ∃ n : Nat, (zI M 10 w4n).toInt = (n : Int) := ⟨(zI M 10 w4n).toInt.toNat, by omega⟩
        have w7 := ib9 hI w6n
        refine zs_bald (pc := 25) t211_25 (j := w6n) (Or.inr (zk1 (hs.k fk_zMc_9))) w6 (zk2 (hs.k fk_zMc_9) (by omega)) rfl ?_
        by_cases w8 : (zI M 9 w6n).toInt = 0
        · refine zs_if_eqT (pc := 26) t211_26 rfl (by omega) ?_
          obtain ⟨w9v, w9e, w9⟩ := ziadd (a := w1x4) (b := Int32.ofInt 1) rfl (show (Int32.ofInt 1).toInt = 1 by decide) (by omega) (by omega)
          refine zs_iinc (pc := 47) t211_47 (ls' := [(4, .int w9v), (0, .ref 7), (1, .int a), (2, .int b), (3, .int w1x3)]) (zml mf211 (by decide)) rfl (c := w9v) w9e rfl ?_
          refine zs_goto (pc := 50) t211_50 ?_
          refine zGo.locals (ls' := [(0, .ref 7), (1, .int a), (2, .int b), (3, .int w1x3), (4, .int w9v)]) (by simp) ?_
          exact w1ih (w1m - 1) (by omega) w1x3 w9v ⟨by omega, by omega⟩ (by omega)
        · refine zs_if_eqF (pc := 26) t211_26 rfl (by omega) ?_
          refine zs_aload_n (pc := 29) t211_29 rfl ?_
          refine zs_get (pc := 30) t211_30 (by decide) (zk1 (hs.k fk_zMc_7)) (hs.p rfl fv_zMc_7_6) ?_
          refine zs_iload (pc := 33) t211_33 rfl ?_
          obtain ⟨w10n, w10⟩ : ∃ n : Nat, w1x4.toInt = (n : Int) := ⟨w1x4.toInt.toNat, by omega⟩
          have w11 := ib12 hI w10n
          refine zs_iald (pc := 35) t211_35 (j := w10n) (by decide) (zk1 (hs.k fk_zMc_12)) w10 (zk2 (hs.k fk_zMc_12) (by omega)) rfl ?_
          refine zs_iload_n (pc := 36) t211_36 rfl ?_
          refine zs_iload_n (pc := 37) t211_37 rfl ?_
          refine zs_invS (pc := 38) (as := [.int (zI M 12 w10n), .int a, .int b]) (st := []) t211_38 (by decide) mf39 rfl rfl ⟨by decide, by decide, Nat.le_of_ble_eq_true rfl, Nat.le_of_ble_eq_true rfl⟩ (zs_in (by decide) mf39 (Nat.le_of_ble_eq_true rfl) ?_) (fun _ _ q => q)
          show zGo X l 0 0 0 39 0 [(0, .int (zI M 12 w10n)), (1, .int a), (2, .int b)] [] M _
          refine zs_iload_n (pc := 0) t39_0 rfl ?_
          refine zs_iload_n (pc := 1) t39_1 rfl ?_
          by_cases w12 : (zI M 12 w10n).toInt < a.toInt
          · refine zs_icmp_ltT (pc := 2) t39_2 rfl rfl (by omega) ?_
            refine zs_iconst (pc := 14) t39_14 (v := 0) (by decide) ?_
            refine zs_iret (pc := 15) t39_15 mr39 (by decide) ?_
            show zGo X l 1 0 0 211 41 [(0, .ref 7), (1, .int a), (2, .int b), (3, .int w1x3), (4, .int w1x4)] [.int (0 : Int32)] M _
            refine zs_if_eqT (pc := 41) t211_41 li0 (by decide) ?_
            obtain ⟨w13v, w13e, w13⟩ := ziadd (a := w1x4) (b := Int32.ofInt 1) rfl (show (Int32.ofInt 1).toInt = 1 by decide) (by omega) (by omega)
            refine zs_iinc (pc := 47) t211_47 (ls' := [(4, .int w13v), (0, .ref 7), (1, .int a), (2, .int b), (3, .int w1x3)]) (zml mf211 (by decide)) rfl (c := w13v) w13e rfl ?_
            refine zs_goto (pc := 50) t211_50 ?_
            refine zGo.locals (ls' := [(0, .ref 7), (1, .int a), (2, .int b), (3, .int w1x3), (4, .int w13v)]) (by simp) ?_
            exact w1ih (w1m - 1) (by omega) w1x3 w13v ⟨by omega, by omega⟩ (by omega)
          · refine zs_icmp_ltF (pc := 2) t39_2 rfl rfl (by omega) ?_
            refine zs_iload_n (pc := 5) t39_5 rfl ?_
            refine zs_iload_n (pc := 6) t39_6 rfl ?_
            by_cases w14 : b.toInt < (zI M 12 w10n).toInt
            · refine zs_icmp_gtT (pc := 7) t39_7 rfl rfl (by omega) ?_
              refine zs_iconst (pc := 14) t39_14 (v := 0) (by decide) ?_
              refine zs_iret (pc := 15) t39_15 mr39 (by decide) ?_
              show zGo X l 1 0 0 211 41 [(0, .ref 7), (1, .int a), (2, .int b), (3, .int w1x3), (4, .int w1x4)] [.int (0 : Int32)] M _
              refine zs_if_eqT (pc := 41) t211_41 li0 (by decide) ?_
              obtain ⟨w15v, w15e, w15⟩ := ziadd (a := w1x4) (b := Int32.ofInt 1) rfl (show (Int32.ofInt 1).toInt = 1 by decide) (by omega) (by omega)
              refine zs_iinc (pc := 47) t211_47 (ls' := [(4, .int w15v), (0, .ref 7), (1, .int a), (2, .int b), (3, .int w1x3)]) (zml mf211 (by decide)) rfl (c := w15v) w15e rfl ?_
              refine zs_goto (pc := 50) t211_50 ?_
              refine zGo.locals (ls' := [(0, .ref 7), (1, .int a), (2, .int b), (3, .int w1x3), (4, .int w15v)]) (by simp) ?_
              exact w1ih (w1m - 1) (by omega) w1x3 w15v ⟨by omega, by omega⟩ (by omega)
            · refine zs_icmp_gtF (pc := 7) t39_7 rfl rfl (by omega) ?_
              refine zs_iconst (pc := 10) t39_10 (v := 1) (by decide) ?_
              refine zs_goto (pc := 11) t39_11 ?_
              refine zs_iret (pc := 15) t39_15 mr39 (by decide) ?_
              show zGo X l 1 0 0 211 41 [(0, .ref 7), (1, .int a), (2, .int b), (3, .int w1x3), (4, .int w1x4)] [.int (1 : Int32)] M _
              refine zs_if_eqF (pc := 41) t211_41 li1 (by decide) ?_
              obtain ⟨w16v, w16e⟩ : ∃ v, w1x3 + Int32.ofInt 1 = v := ⟨_, rfl⟩
              have w16 := zrg w16v
              refine zs_iinc (pc := 44) t211_44 (ls' := [(3, .int w16v), (0, .ref 7), (1, .int a), (2, .int b), (4, .int w1x4)]) (zml mf211 (by decide)) rfl (c := w16v) w16e rfl ?_
              obtain ⟨w17v, w17e, w17⟩ := ziadd (a := w1x4) (b := Int32.ofInt 1) rfl (show (Int32.ofInt 1).toInt = 1 by decide) (by omega) (by omega)
              refine zs_iinc (pc := 47) t211_47 (ls' := [(4, .int w17v), (3, .int w16v), (0, .ref 7), (1, .int a), (2, .int b)]) (zml mf211 (by decide)) rfl (c := w17v) w17e rfl ?_
              refine zs_goto (pc := 50) t211_50 ?_
              refine zGo.locals (ls' := [(0, .ref 7), (1, .int a), (2, .int b), (3, .int w16v), (4, .int w17v)]) (by simp) ?_
              exact w1ih (w1m - 1) (by omega) w16v w17v ⟨by omega, by omega⟩ (by omega)
  refine zGo.locals (ls' := [(0, .ref 7), (1, .int a), (2, .int b), (3, .int (0 : Int32)), (4, .int (0 : Int32))]) (by simp) ?_
  exact w1L ((60 - 0 : Int).toNat) (0 : Int32) (0 : Int32) ⟨by decide, by decide⟩ (by omega)
theorem C92_19 {X : zX} {l : Launch} {M : zM} {Q : Option Value → zM → Prop} (hs : zSk zMc M) (hI : zIv cLo cHi M) (hQ : ∀ v : Int32, (-2147483648) ≤ v.toInt → v.toInt ≤ 2147483647 → Q (some (.int v)) M) : zCall X l 2 0 0 92 [.ref 19] M Q := by
  refine zs_in (by decide) mf92 (Nat.le_of_ble_eq_true rfl) ?_
  show zGo X l 2 0 0 92 0 [(0, .ref 19)] [] M _
  refine zs_iconst (pc := 0) t92_0 (v := 0) (by decide) ?_
  refine zs_istore_n (pc := 1) t92_1 (ls' := [(1, .int (0 : Int32)), (0, .ref 19)]) (zml mf92 (by decide)) rfl ?_
  refine zs_iconst (pc := 2) t92_2 (v := 0) (by decide) ?_
  refine zs_istore_n (pc := 3) t92_3 (ls' := [(2, .int (0 : Int32)), (1, .int (0 : Int32)), (0, .ref 19)]) (zml mf92 (by decide)) rfl ?_
  have w1L : ∀ (m : Nat) (w1x1 : Int32) (w1x2 : Int32), (0 ≤ w1x2.toInt ∧ w1x2.toInt ≤ 60) → 60 - w1x2.toInt ≤ (m : Int) → zGo X l 2 0 0 92 4 [(0, .ref 19), (1, .int w1x1), (2, .int w1x2)] [] M Q := by
    intro m
    induction m using Nat.strongRecOn with
    | ind w1m w1ih =>
      intro w1x1 w1x2 w1b2 w1q
      have w1g1 := zrg w1x1
      refine zs_iload_n (pc := 4) t92_4 rfl ?_
      refine zs_aload_n (pc := 5) t92_5 rfl ?_
      have w2 := ib19_3 hI
      refine zs_get (pc := 6) t92_6 (by decide) (zk1 (hs.k fk_zMc_19)) (zfvi rfl rfl) ?_
      by_cases w3 : (zI M 19 3).toInt ≤ w1x2.toInt
      · refine zs_icmp_geT (pc := 9) t92_9 rfl rfl (by omega) ?_
        refine zs_iload_n (pc := 29) t92_29 rfl ?_
        exact zs_iret (pc := 30) t92_30 mr92 rfl (hQ _ (by omega) (by omega))
      · refine zs_icmp_geF (pc := 9) t92_9 rfl rfl (by omega) ?_
        refine zs_aload_n (pc := 12) t92_12 rfl ?_
        refine zs_iload_n (pc := 13) t92_13 rfl ?_
        refine zs_invV (pc := 14) (k := 19) (as' := [.int w1x2]) (st := []) t92_14 mf93 rfl rfl (Or.inl ⟨by decide, (zk1 (hs.k fk_zMc_19))⟩) ⟨by decide, by decide, Nat.le_of_ble_eq_true rfl, Nat.le_of_ble_eq_true rfl⟩ (zs_in (by decide) mf93 (Nat.le_of_ble_eq_true rfl) ?_) (fun _ _ q => q)
        show zGo X l 1 0 0 93 0 [(0, .ref 19), (1, .int w1x2)] [] M _
        refine zs_aload_n (pc := 0) t93_0 rfl ?_
        refine zs_iload_n (pc := 1) t93_1 rfl ?_
        refine zs_invV (pc := 2) (k := 19) (as' := [.int w1x2]) (st := []) t93_2 mf91 rfl rfl (Or.inl ⟨by decide, (zk1 (hs.k fk_zMc_19))⟩) ⟨by decide, by decide, Nat.le_of_ble_eq_true rfl, Nat.le_of_ble_eq_true rfl⟩ (zs_in (by decide) mf91 (Nat.le_of_ble_eq_true rfl) ?_) (fun _ _ q => q)
        show zGo X l 0 0 0 91 0 [(0, .ref 19), (1, .int w1x2)] [] M _
        refine zs_iload_n (pc := 0) t91_0 rfl ?_
        refine zs_if_ltF (pc := 1) t91_1 rfl (by omega) ?_
        refine zs_iload_n (pc := 4) t91_4 rfl ?_
        refine zs_aload_n (pc := 5) t91_5 rfl ?_
        refine zs_get (pc := 6) t91_6 (by decide) (zk1 (hs.k fk_zMc_19)) (zfvi rfl rfl) ?_
        by_cases w4 : (zI M 19 3).toInt ≤ w1x2.toInt
        · refine zs_icmp_geT (pc := 9) t91_9 rfl rfl (by omega) ?_
          refine zs_iconst (pc := 16) t91_16 (v := 0) (by decide) ?_
          refine zs_iret (pc := 17) t91_17 mr91 (by decide) ?_
          show zGo X l 1 0 0 93 5 [(0, .ref 19), (1, .int w1x2)] [.int (0 : Int32)] M _
          refine zs_if_eqT (pc := 5) t93_5 li0 (by decide) ?_
          refine zs_iconst (pc := 51) t93_51 (v := 0) (by decide) ?_
          refine zs_iret (pc := 52) t93_52 mr93 (by decide) ?_
          show zGo X l 2 0 0 92 17 [(0, .ref 19), (1, .int w1x1), (2, .int w1x2)] [.int (0 : Int32)] M _
          refine zs_if_eqT (pc := 17) t92_17 li0 (by decide) ?_
          obtain ⟨w5v, w5e, w5⟩ := ziadd (a := w1x2) (b := Int32.ofInt 1) rfl (show (Int32.ofInt 1).toInt = 1 by decide) (by omega) (by omega)
          refine zs_iinc (pc := 23) t92_23 (ls' := [(2, .int w5v), (0, .ref 19), (1, .int w1x1)]) (zml mf92 (by decide)) rfl (c := w5v) w5e rfl ?_
          refine zs_goto (pc := 26) t92_26 ?_
          refine zGo.locals (ls' := [(0, .ref 19), (1, .int w1x1), (2, .int w5v)]) (by simp) ?_
          exact w1ih (w1m - 1) (by omega) w1x1 w5v ⟨by omega, by omega⟩ (by omega)
        · refine zs_icmp_geF (pc := 9) t91_9 rfl rfl (by omega) ?_
          refine zs_iconst (pc := 12) t91_12 (v := 1) (by decide) ?_
          refine zs_goto (pc := 13) t91_13 ?_
          refine zs_iret (pc := 17) t91_17 mr91 (by decide) ?_
          show zGo X l 1 0 0 93 5 [(0, .ref 19), (1, .int w1x2)] [.int (1 : Int32)] M _
          refine zs_if_eqF (pc := 5) t93_5 li1 (by decide) ?_
          refine zs_aload_n (pc := 8) t93_8 rfl ?_
          refine zs_get (pc := 9) t93_9 (by decide) (zk1 (hs.k fk_zMc_19)) (hs.p rfl fv_zMc_19_2) ?_
          refine zs_aload_n (pc := 12) t93_12 rfl ?_
          refine zs_get (pc := 13) t93_13 (by decide) (zk1 (hs.k fk_zMc_19)) (hs.p rfl fv_zMc_19_4) ?_
          refine zs_iload_n (pc := 16) t93_16 rfl ?_
          obtain ⟨w6n, w6⟩ : ∃ n : Nat, w1x2.toInt = (n : Int) := ⟨w1x2.toInt.toNat, by omega⟩
          have w7 := ib22 hI w6n
          refine zs_iald (pc := 17) t93_17 (j := w6n) (by decide) (zk1 (hs.k fk_zMc_22)) w6 (zk2 (hs.k fk_zMc_22) (by omega)) rfl ?_
          obtain ⟨w8n, w8⟩ : ∃ n : Nat, (zI M 22 w6n).toInt = (n : Int) := ⟨(zI M 22 w6n).toInt.toNat, by omega⟩
          have w9 := ib21 hI w8n
          refine zs_bald (pc := 18) t93_18 (j := w8n) (Or.inr (zk1 (hs.k fk_zMc_21))) w8 (zk2 (hs.k fk_zMc_21) (by omega)) rfl ?_
          by_cases w10 : (zI M 21 w8n).toInt = 0
          · refine zs_if_eqT (pc := 19) t93_19 rfl (by omega) ?_
            refine zs_iconst (pc := 51) t93_51 (v := 0) (by decide) ?_
            refine zs_iret (pc := 52) t93_52 mr93 (by decide) ?_
            show zGo X l 2 0 0 92 17 [(0, .ref 19), (1, .int w1x1), (2, .int w1x2)] [.int (0 : Int32)] M _
            refine zs_if_eqT (pc := 17) t92_17 li0 (by decide) ?_
            obtain ⟨w11v, w11e, w11⟩ := ziadd (a := w1x2) (b := Int32.ofInt 1) rfl (show (Int32.ofInt 1).toInt = 1 by decide) (by omega) (by omega)
            refine zs_iinc (pc := 23) t92_23 (ls' := [(2, .int w11v), (0, .ref 19), (1, .int w1x1)]) (zml mf92 (by decide)) rfl (c := w11v) w11e rfl ?_
            refine zs_goto (pc := 26) t92_26 ?_
            refine zGo.locals (ls' := [(0, .ref 19), (1, .int w1x1), (2, .int w11v)]) (by simp) ?_
            exact w1ih (w1m - 1) (by omega) w1x1 w11v ⟨by omega, by omega⟩ (by omega)
          · refine zs_if_eqF (pc := 19) t93_19 rfl (by omega) ?_
            refine zs_aload_n (pc := 22) t93_22 rfl ?_
            refine zs_get (pc := 23) t93_23 (by decide) (zk1 (hs.k fk_zMc_19)) (hs.p rfl fv_zMc_19_6) ?_
            refine zs_iload_n (pc := 26) t93_26 rfl ?_
            obtain ⟨w12n, w12⟩ : ∃ n : Nat, w1x2.toInt = (n : Int) := ⟨w1x2.toInt.toNat, by omega⟩
            have w13 := ib24 hI w12n
            refine zs_iald (pc := 27) t93_27 (j := w12n) (by decide) (zk1 (hs.k fk_zMc_24)) w12 (zk2 (hs.k fk_zMc_24) (by omega)) rfl ?_
            refine zs_aload_n (pc := 28) t93_28 rfl ?_
            refine zs_get (pc := 29) t93_29 (by decide) (zk1 (hs.k fk_zMc_19)) (hs.p rfl fv_zMc_19_12) ?_
            refine zs_iconst (pc := 32) t93_32 (v := 5) (by decide) ?_
            have w14 := ib29 hI 5
            refine zs_iald (pc := 33) t93_33 (j := 5) (by decide) (zk1 (hs.k fk_zMc_29)) li5 (zk2 (hs.k fk_zMc_29) (by decide)) rfl ?_
            refine zs_aload_n (pc := 34) t93_34 rfl ?_
            refine zs_get (pc := 35) t93_35 (by decide) (zk1 (hs.k fk_zMc_19)) (hs.p rfl fv_zMc_19_12) ?_
            refine zs_bipush (pc := 38) t93_38 (v := 6) (by decide) ?_
            have w15 := ib29 hI 6
            refine zs_iald (pc := 40) t93_40 (j := 6) (by decide) (zk1 (hs.k fk_zMc_29)) li6 (zk2 (hs.k fk_zMc_29) (by decide)) rfl ?_
            refine zs_invS (pc := 41) (as := [.int (zI M 24 w12n), .int (zI M 29 5), .int (zI M 29 6)]) (st := []) t93_41 (by decide) mf39 rfl rfl ⟨by decide, by decide, Nat.le_of_ble_eq_true rfl, Nat.le_of_ble_eq_true rfl⟩ (zs_in (by decide) mf39 (Nat.le_of_ble_eq_true rfl) ?_) (fun _ _ q => q)
            show zGo X l 0 0 0 39 0 [(0, .int (zI M 24 w12n)), (1, .int (zI M 29 5)), (2, .int (zI M 29 6))] [] M _
            refine zs_iload_n (pc := 0) t39_0 rfl ?_
            refine zs_iload_n (pc := 1) t39_1 rfl ?_
            by_cases w16 : (zI M 24 w12n).toInt < (zI M 29 5).toInt
            · refine zs_icmp_ltT (pc := 2) t39_2 rfl rfl (by omega) ?_
              refine zs_iconst (pc := 14) t39_14 (v := 0) (by decide) ?_
              refine zs_iret (pc := 15) t39_15 mr39 (by decide) ?_
              show zGo X l 1 0 0 93 44 [(0, .ref 19), (1, .int w1x2)] [.int (0 : Int32)] M _
              refine zs_if_eqT (pc := 44) t93_44 li0 (by decide) ?_
              refine zs_iconst (pc := 51) t93_51 (v := 0) (by decide) ?_
              refine zs_iret (pc := 52) t93_52 mr93 (by decide) ?_
              show zGo X l 2 0 0 92 17 [(0, .ref 19), (1, .int w1x1), (2, .int w1x2)] [.int (0 : Int32)] M _
              refine zs_if_eqT (pc := 17) t92_17 li0 (by decide) ?_
              obtain ⟨w17v, w17e, w17⟩ := ziadd (a := w1x2) (b := Int32.ofInt 1) rfl (show (Int32.ofInt 1).toInt = 1 by decide) (by omega) (by omega)
              refine zs_iinc (pc := 23) t92_23 (ls' := [(2, .int w17v), (0, .ref 19), (1, .int w1x1)]) (zml mf92 (by decide)) rfl (c := w17v) w17e rfl ?_
              refine zs_goto (pc := 26) t92_26 ?_
              refine zGo.locals (ls' := [(0, .ref 19), (1, .int w1x1), (2, .int w17v)]) (by simp) ?_
              exact w1ih (w1m - 1) (by omega) w1x1 w17v ⟨by omega, by omega⟩ (by omega)
            · refine zs_icmp_ltF (pc := 2) t39_2 rfl rfl (by omega) ?_
              refine zs_iload_n (pc := 5) t39_5 rfl ?_
              refine zs_iload_n (pc := 6) t39_6 rfl ?_
              by_cases w18 : (zI M 29 6).toInt < (zI M 24 w12n).toInt
              · refine zs_icmp_gtT (pc := 7) t39_7 rfl rfl (by omega) ?_
                refine zs_iconst (pc := 14) t39_14 (v := 0) (by decide) ?_
                refine zs_iret (pc := 15) t39_15 mr39 (by decide) ?_
                show zGo X l 1 0 0 93 44 [(0, .ref 19), (1, .int w1x2)] [.int (0 : Int32)] M _
                refine zs_if_eqT (pc := 44) t93_44 li0 (by decide) ?_
                refine zs_iconst (pc := 51) t93_51 (v := 0) (by decide) ?_
                refine zs_iret (pc := 52) t93_52 mr93 (by decide) ?_
                show zGo X l 2 0 0 92 17 [(0, .ref 19), (1, .int w1x1), (2, .int w1x2)] [.int (0 : Int32)] M _
                refine zs_if_eqT (pc := 17) t92_17 li0 (by decide) ?_
                obtain ⟨w19v, w19e, w19⟩ := ziadd (a := w1x2) (b := Int32.ofInt 1) rfl (show (Int32.ofInt 1).toInt = 1 by decide) (by omega) (by omega)
                refine zs_iinc (pc := 23) t92_23 (ls' := [(2, .int w19v), (0, .ref 19), (1, .int w1x1)]) (zml mf92 (by decide)) rfl (c := w19v) w19e rfl ?_
                refine zs_goto (pc := 26) t92_26 ?_
                refine zGo.locals (ls' := [(0, .ref 19), (1, .int w1x1), (2, .int w19v)]) (by simp) ?_
                exact w1ih (w1m - 1) (by omega) w1x1 w19v ⟨by omega, by omega⟩ (by omega)
              · refine zs_icmp_gtF (pc := 7) t39_7 rfl rfl (by omega) ?_
                refine zs_iconst (pc := 10) t39_10 (v := 1) (by decide) ?_
                refine zs_goto (pc := 11) t39_11 ?_
                refine zs_iret (pc := 15) t39_15 mr39 (by decide) ?_
                show zGo X l 1 0 0 93 44 [(0, .ref 19), (1, .int w1x2)] [.int (1 : Int32)] M _
                refine zs_if_eqF (pc := 44) t93_44 li1 (by decide) ?_
                refine zs_iconst (pc := 47) t93_47 (v := 1) (by decide) ?_
                refine zs_goto (pc := 48) t93_48 ?_
                refine zs_iret (pc := 52) t93_52 mr93 (by decide) ?_
                show zGo X l 2 0 0 92 17 [(0, .ref 19), (1, .int w1x1), (2, .int w1x2)] [.int (1 : Int32)] M _
                refine zs_if_eqF (pc := 17) t92_17 li1 (by decide) ?_
                obtain ⟨w20v, w20e⟩ : ∃ v, w1x1 + Int32.ofInt 1 = v := ⟨_, rfl⟩
                have w20 := zrg w20v
                refine zs_iinc (pc := 20) t92_20 (ls' := [(1, .int w20v), (0, .ref 19), (2, .int w1x2)]) (zml mf92 (by decide)) rfl (c := w20v) w20e rfl ?_
                obtain ⟨w21v, w21e, w21⟩ := ziadd (a := w1x2) (b := Int32.ofInt 1) rfl (show (Int32.ofInt 1).toInt = 1 by decide) (by omega) (by omega)
                refine zs_iinc (pc := 23) t92_23 (ls' := [(2, .int w21v), (1, .int w20v), (0, .ref 19)]) (zml mf92 (by decide)) rfl (c := w21v) w21e rfl ?_
                refine zs_goto (pc := 26) t92_26 ?_
                refine zGo.locals (ls' := [(0, .ref 19), (1, .int w20v), (2, .int w21v)]) (by simp) ?_
                exact w1ih (w1m - 1) (by omega) w20v w21v ⟨by omega, by omega⟩ (by omega)
  refine zGo.locals (ls' := [(0, .ref 19), (1, .int (0 : Int32)), (2, .int (0 : Int32))]) (by simp) ?_
  exact w1L ((60 - 0 : Int).toNat) (0 : Int32) (0 : Int32) ⟨by decide, by decide⟩ (by omega)
theorem C100_19 {X : zX} {l : Launch} {M : zM} {Q : Option Value → zM → Prop} (hs : zSk zMc M) (hI : zIv cLo cHi M) (hQ : ∀ v : Int32, (-2147483648) ≤ v.toInt → v.toInt ≤ 2147483647 → Q (some (.int v)) M) : zCall X l 0 0 0 100 [.ref 19] M Q := by
  refine zs_in (by decide) mf100 (Nat.le_of_ble_eq_true rfl) ?_
  show zGo X l 0 0 0 100 0 [(0, .ref 19)] [] M _
  refine zs_iconst (pc := 0) t100_0 (v := 0) (by decide) ?_
  refine zs_istore_n (pc := 1) t100_1 (ls' := [(1, .int (0 : Int32)), (0, .ref 19)]) (zml mf100 (by decide)) rfl ?_
  refine zs_iconst (pc := 2) t100_2 (v := 0) (by decide) ?_
  refine zs_istore_n (pc := 3) t100_3 (ls' := [(2, .int (0 : Int32)), (1, .int (0 : Int32)), (0, .ref 19)]) (zml mf100 (by decide)) rfl ?_
  have w1L : ∀ (m : Nat) (w1x1 : Int32) (w1x2 : Int32), (0 ≤ w1x2.toInt ∧ w1x2.toInt ≤ 8) → 8 - w1x2.toInt ≤ (m : Int) → zGo X l 0 0 0 100 4 [(0, .ref 19), (1, .int w1x1), (2, .int w1x2)] [] M Q := by
    intro m
    induction m using Nat.strongRecOn with
    | ind w1m w1ih =>
      intro w1x1 w1x2 w1b2 w1q
      have w1g1 := zrg w1x1
      refine zs_iload_n (pc := 4) t100_4 rfl ?_
      refine zs_aload_n (pc := 5) t100_5 rfl ?_
      have w2 := ib19_0 hI
      refine zs_get (pc := 6) t100_6 (by decide) (zk1 (hs.k fk_zMc_19)) (zfvi rfl rfl) ?_
      by_cases w3 : (zI M 19 0).toInt ≤ w1x2.toInt
      · refine zs_icmp_geT (pc := 9) t100_9 rfl rfl (by omega) ?_
        refine zs_iload_n (pc := 30) t100_30 rfl ?_
        exact zs_iret (pc := 31) t100_31 mr100 rfl (hQ _ (by omega) (by omega))
      · refine zs_icmp_geF (pc := 9) t100_9 rfl rfl (by omega) ?_
        refine zs_aload_n (pc := 12) t100_12 rfl ?_
        refine zs_get (pc := 13) t100_13 (by decide) (zk1 (hs.k fk_zMc_19)) (hs.p rfl fv_zMc_19_2) ?_
        refine zs_iload_n (pc := 16) t100_16 rfl ?_
        obtain ⟨w4n, w4⟩ : ∃ n : Nat, w1x2.toInt = (n : Int) := ⟨w1x2.toInt.toNat, by omega⟩
        have w5 := ib21 hI w4n
        refine zs_bald (pc := 17) t100_17 (j := w4n) (Or.inr (zk1 (hs.k fk_zMc_21))) w4 (zk2 (hs.k fk_zMc_21) (by omega)) rfl ?_
        by_cases w6 : (zI M 21 w4n).toInt = 0
        · refine zs_if_eqT (pc := 18) t100_18 rfl (by omega) ?_
          obtain ⟨w7v, w7e, w7⟩ := ziadd (a := w1x2) (b := Int32.ofInt 1) rfl (show (Int32.ofInt 1).toInt = 1 by decide) (by omega) (by omega)
          refine zs_iinc (pc := 24) t100_24 (ls' := [(2, .int w7v), (0, .ref 19), (1, .int w1x1)]) (zml mf100 (by decide)) rfl (c := w7v) w7e rfl ?_
          refine zs_goto (pc := 27) t100_27 ?_
          refine zGo.locals (ls' := [(0, .ref 19), (1, .int w1x1), (2, .int w7v)]) (by simp) ?_
          exact w1ih (w1m - 1) (by omega) w1x1 w7v ⟨by omega, by omega⟩ (by omega)
        · refine zs_if_eqF (pc := 18) t100_18 rfl (by omega) ?_
          obtain ⟨w8v, w8e⟩ : ∃ v, w1x1 + Int32.ofInt 1 = v := ⟨_, rfl⟩
          have w8 := zrg w8v
          refine zs_iinc (pc := 21) t100_21 (ls' := [(1, .int w8v), (0, .ref 19), (2, .int w1x2)]) (zml mf100 (by decide)) rfl (c := w8v) w8e rfl ?_
          obtain ⟨w9v, w9e, w9⟩ := ziadd (a := w1x2) (b := Int32.ofInt 1) rfl (show (Int32.ofInt 1).toInt = 1 by decide) (by omega) (by omega)
          refine zs_iinc (pc := 24) t100_24 (ls' := [(2, .int w9v), (1, .int w8v), (0, .ref 19)]) (zml mf100 (by decide)) rfl (c := w9v) w9e rfl ?_
          refine zs_goto (pc := 27) t100_27 ?_
          refine zGo.locals (ls' := [(0, .ref 19), (1, .int w8v), (2, .int w9v)]) (by simp) ?_
          exact w1ih (w1m - 1) (by omega) w8v w9v ⟨by omega, by omega⟩ (by omega)
  refine zGo.locals (ls' := [(0, .ref 19), (1, .int (0 : Int32)), (2, .int (0 : Int32))]) (by simp) ?_
  exact w1L ((8 - 0 : Int).toNat) (0 : Int32) (0 : Int32) ⟨by decide, by decide⟩ (by omega)
theorem C103_19 {X : zX} {l : Launch} {M : zM} {Q : Option Value → zM → Prop} {a : Int32} (hs : zSk zMc M) (hI : zIv cLo cHi M) (hQ : ∀ v : Int32, (-2147483648) ≤ v.toInt → v.toInt ≤ 2147483647 → Q (some (.int v)) M) : zCall X l 2 0 0 103 [.ref 19, .int a] M Q := by
  have ga := zrg a
  refine zs_in (by decide) mf103 (Nat.le_of_ble_eq_true rfl) ?_
  show zGo X l 2 0 0 103 0 [(0, .ref 19), (1, .int a)] [] M _
  refine zs_iconst (pc := 0) t103_0 (v := 0) (by decide) ?_
  refine zs_istore_n (pc := 1) t103_1 (ls' := [(2, .int (0 : Int32)), (0, .ref 19), (1, .int a)]) (zml mf103 (by decide)) rfl ?_
  refine zs_iconst (pc := 2) t103_2 (v := 0) (by decide) ?_
  refine zs_istore_n (pc := 3) t103_3 (ls' := [(3, .int (0 : Int32)), (2, .int (0 : Int32)), (0, .ref 19), (1, .int a)]) (zml mf103 (by decide)) rfl ?_
  have w1L : ∀ (m : Nat) (w1x2 : Int32) (w1x3 : Int32), (0 ≤ w1x3.toInt ∧ w1x3.toInt ≤ 60) → 60 - w1x3.toInt ≤ (m : Int) → zGo X l 2 0 0 103 4 [(0, .ref 19), (1, .int a), (2, .int w1x2), (3, .int w1x3)] [] M Q := by
    intro m
    induction m using Nat.strongRecOn with
    | ind w1m w1ih =>
      intro w1x2 w1x3 w1b3 w1q
      have w1g2 := zrg w1x2
      refine zs_iload_n (pc := 4) t103_4 rfl ?_
      refine zs_aload_n (pc := 5) t103_5 rfl ?_
      have w2 := ib19_3 hI
      refine zs_get (pc := 6) t103_6 (by decide) (zk1 (hs.k fk_zMc_19)) (zfvi rfl rfl) ?_
      by_cases w3 : (zI M 19 3).toInt ≤ w1x3.toInt
      · refine zs_icmp_geT (pc := 9) t103_9 rfl rfl (by omega) ?_
        refine zs_iload_n (pc := 39) t103_39 rfl ?_
        exact zs_iret (pc := 40) t103_40 mr103 rfl (hQ _ (by omega) (by omega))
      · refine zs_icmp_geF (pc := 9) t103_9 rfl rfl (by omega) ?_
        refine zs_aload_n (pc := 12) t103_12 rfl ?_
        refine zs_get (pc := 13) t103_13 (by decide) (zk1 (hs.k fk_zMc_19)) (hs.p rfl fv_zMc_19_4) ?_
        refine zs_iload_n (pc := 16) t103_16 rfl ?_
        obtain ⟨w4n, w4⟩ : ∃ n : Nat, w1x3.toInt = (n : Int) := ⟨w1x3.toInt.toNat, by omega⟩
        have w5 := ib22 hI w4n
        refine zs_iald (pc := 17) t103_17 (j := w4n) (by decide) (zk1 (hs.k fk_zMc_22)) w4 (zk2 (hs.k fk_zMc_22) (by omega)) rfl ?_
        refine zs_iload_n (pc := 18) t103_18 rfl ?_
        by_cases w6 : (zI M 22 w4n).toInt ≠ a.toInt
        · refine zs_icmp_neT (pc := 19) t103_19 rfl rfl (by omega) ?_
          obtain ⟨w7v, w7e, w7⟩ := ziadd (a := w1x3) (b := Int32.ofInt 1) rfl (show (Int32.ofInt 1).toInt = 1 by decide) (by omega) (by omega)
          refine zs_iinc (pc := 33) t103_33 (ls' := [(3, .int w7v), (0, .ref 19), (1, .int a), (2, .int w1x2)]) (zml mf103 (by decide)) rfl (c := w7v) w7e rfl ?_
          refine zs_goto (pc := 36) t103_36 ?_
          refine zGo.locals (ls' := [(0, .ref 19), (1, .int a), (2, .int w1x2), (3, .int w7v)]) (by simp) ?_
          exact w1ih (w1m - 1) (by omega) w1x2 w7v ⟨by omega, by omega⟩ (by omega)
        · refine zs_icmp_neF (pc := 19) t103_19 rfl rfl (by omega) ?_
          refine zs_aload_n (pc := 22) t103_22 rfl ?_
          refine zs_iload_n (pc := 23) t103_23 rfl ?_
          refine zs_invV (pc := 24) (k := 19) (as' := [.int w1x3]) (st := []) t103_24 mf93 rfl rfl (Or.inl ⟨by decide, (zk1 (hs.k fk_zMc_19))⟩) ⟨by decide, by decide, Nat.le_of_ble_eq_true rfl, Nat.le_of_ble_eq_true rfl⟩ (zs_in (by decide) mf93 (Nat.le_of_ble_eq_true rfl) ?_) (fun _ _ q => q)
          show zGo X l 1 0 0 93 0 [(0, .ref 19), (1, .int w1x3)] [] M _
          refine zs_aload_n (pc := 0) t93_0 rfl ?_
          refine zs_iload_n (pc := 1) t93_1 rfl ?_
          refine zs_invV (pc := 2) (k := 19) (as' := [.int w1x3]) (st := []) t93_2 mf91 rfl rfl (Or.inl ⟨by decide, (zk1 (hs.k fk_zMc_19))⟩) ⟨by decide, by decide, Nat.le_of_ble_eq_true rfl, Nat.le_of_ble_eq_true rfl⟩ (zs_in (by decide) mf91 (Nat.le_of_ble_eq_true rfl) ?_) (fun _ _ q => q)
          show zGo X l 0 0 0 91 0 [(0, .ref 19), (1, .int w1x3)] [] M _
          refine zs_iload_n (pc := 0) t91_0 rfl ?_
          refine zs_if_ltF (pc := 1) t91_1 rfl (by omega) ?_
          refine zs_iload_n (pc := 4) t91_4 rfl ?_
          refine zs_aload_n (pc := 5) t91_5 rfl ?_
          refine zs_get (pc := 6) t91_6 (by decide) (zk1 (hs.k fk_zMc_19)) (zfvi rfl rfl) ?_
          by_cases w8 : (zI M 19 3).toInt ≤ w1x3.toInt
          · refine zs_icmp_geT (pc := 9) t91_9 rfl rfl (by omega) ?_
            refine zs_iconst (pc := 16) t91_16 (v := 0) (by decide) ?_
            refine zs_iret (pc := 17) t91_17 mr91 (by decide) ?_
            show zGo X l 1 0 0 93 5 [(0, .ref 19), (1, .int w1x3)] [.int (0 : Int32)] M _
            refine zs_if_eqT (pc := 5) t93_5 li0 (by decide) ?_
            refine zs_iconst (pc := 51) t93_51 (v := 0) (by decide) ?_
            refine zs_iret (pc := 52) t93_52 mr93 (by decide) ?_
            show zGo X l 2 0 0 103 27 [(0, .ref 19), (1, .int a), (2, .int w1x2), (3, .int w1x3)] [.int (0 : Int32)] M _
            refine zs_if_eqT (pc := 27) t103_27 li0 (by decide) ?_
            obtain ⟨w9v, w9e, w9⟩ := ziadd (a := w1x3) (b := Int32.ofInt 1) rfl (show (Int32.ofInt 1).toInt = 1 by decide) (by omega) (by omega)
            refine zs_iinc (pc := 33) t103_33 (ls' := [(3, .int w9v), (0, .ref 19), (1, .int a), (2, .int w1x2)]) (zml mf103 (by decide)) rfl (c := w9v) w9e rfl ?_
            refine zs_goto (pc := 36) t103_36 ?_
            refine zGo.locals (ls' := [(0, .ref 19), (1, .int a), (2, .int w1x2), (3, .int w9v)]) (by simp) ?_
            exact w1ih (w1m - 1) (by omega) w1x2 w9v ⟨by omega, by omega⟩ (by omega)
          · refine zs_icmp_geF (pc := 9) t91_9 rfl rfl (by omega) ?_
            refine zs_iconst (pc := 12) t91_12 (v := 1) (by decide) ?_
            refine zs_goto (pc := 13) t91_13 ?_
            refine zs_iret (pc := 17) t91_17 mr91 (by decide) ?_
            show zGo X l 1 0 0 93 5 [(0, .ref 19), (1, .int w1x3)] [.int (1 : Int32)] M _
            refine zs_if_eqF (pc := 5) t93_5 li1 (by decide) ?_
            refine zs_aload_n (pc := 8) t93_8 rfl ?_
            refine zs_get (pc := 9) t93_9 (by decide) (zk1 (hs.k fk_zMc_19)) (hs.p rfl fv_zMc_19_2) ?_
            refine zs_aload_n (pc := 12) t93_12 rfl ?_
            refine zs_get (pc := 13) t93_13 (by decide) (zk1 (hs.k fk_zMc_19)) (hs.p rfl fv_zMc_19_4) ?_
            refine zs_iload_n (pc := 16) t93_16 rfl ?_
            obtain ⟨w10n, w10⟩ : ∃ n : Nat, w1x3.toInt = (n : Int) := ⟨w1x3.toInt.toNat, by omega⟩
            have w11 := ib22 hI w10n
            refine zs_iald (pc := 17) t93_17 (j := w10n) (by decide) (zk1 (hs.k fk_zMc_22)) w10 (zk2 (hs.k fk_zMc_22) (by omega)) rfl ?_
            obtain ⟨w12n, w12⟩ : ∃ n : Nat, (zI M 22 w10n).toInt = (n : Int) := ⟨(zI M 22 w10n).toInt.toNat, by omega⟩
            have w13 := ib21 hI w12n
            refine zs_bald (pc := 18) t93_18 (j := w12n) (Or.inr (zk1 (hs.k fk_zMc_21))) w12 (zk2 (hs.k fk_zMc_21) (by omega)) rfl ?_
            by_cases w14 : (zI M 21 w12n).toInt = 0
            · refine zs_if_eqT (pc := 19) t93_19 rfl (by omega) ?_
              refine zs_iconst (pc := 51) t93_51 (v := 0) (by decide) ?_
              refine zs_iret (pc := 52) t93_52 mr93 (by decide) ?_
              show zGo X l 2 0 0 103 27 [(0, .ref 19), (1, .int a), (2, .int w1x2), (3, .int w1x3)] [.int (0 : Int32)] M _
              refine zs_if_eqT (pc := 27) t103_27 li0 (by decide) ?_
              obtain ⟨w15v, w15e, w15⟩ := ziadd (a := w1x3) (b := Int32.ofInt 1) rfl (show (Int32.ofInt 1).toInt = 1 by decide) (by omega) (by omega)
              refine zs_iinc (pc := 33) t103_33 (ls' := [(3, .int w15v), (0, .ref 19), (1, .int a), (2, .int w1x2)]) (zml mf103 (by decide)) rfl (c := w15v) w15e rfl ?_
              refine zs_goto (pc := 36) t103_36 ?_
              refine zGo.locals (ls' := [(0, .ref 19), (1, .int a), (2, .int w1x2), (3, .int w15v)]) (by simp) ?_
              exact w1ih (w1m - 1) (by omega) w1x2 w15v ⟨by omega, by omega⟩ (by omega)
            · refine zs_if_eqF (pc := 19) t93_19 rfl (by omega) ?_
              refine zs_aload_n (pc := 22) t93_22 rfl ?_
              refine zs_get (pc := 23) t93_23 (by decide) (zk1 (hs.k fk_zMc_19)) (hs.p rfl fv_zMc_19_6) ?_
              refine zs_iload_n (pc := 26) t93_26 rfl ?_
              obtain ⟨w16n, w16⟩ : ∃ n : Nat, w1x3.toInt = (n : Int) := ⟨w1x3.toInt.toNat, by omega⟩
              have w17 := ib24 hI w16n
              refine zs_iald (pc := 27) t93_27 (j := w16n) (by decide) (zk1 (hs.k fk_zMc_24)) w16 (zk2 (hs.k fk_zMc_24) (by omega)) rfl ?_
              refine zs_aload_n (pc := 28) t93_28 rfl ?_
              refine zs_get (pc := 29) t93_29 (by decide) (zk1 (hs.k fk_zMc_19)) (hs.p rfl fv_zMc_19_12) ?_
              refine zs_iconst (pc := 32) t93_32 (v := 5) (by decide) ?_
              have w18 := ib29 hI 5
              refine zs_iald (pc := 33) t93_33 (j := 5) (by decide) (zk1 (hs.k fk_zMc_29)) li5 (zk2 (hs.k fk_zMc_29) (by decide)) rfl ?_
              refine zs_aload_n (pc := 34) t93_34 rfl ?_
              refine zs_get (pc := 35) t93_35 (by decide) (zk1 (hs.k fk_zMc_19)) (hs.p rfl fv_zMc_19_12) ?_
              refine zs_bipush (pc := 38) t93_38 (v := 6) (by decide) ?_
              have w19 := ib29 hI 6
              refine zs_iald (pc := 40) t93_40 (j := 6) (by decide) (zk1 (hs.k fk_zMc_29)) li6 (zk2 (hs.k fk_zMc_29) (by decide)) rfl ?_
              refine zs_invS (pc := 41) (as := [.int (zI M 24 w16n), .int (zI M 29 5), .int (zI M 29 6)]) (st := []) t93_41 (by decide) mf39 rfl rfl ⟨by decide, by decide, Nat.le_of_ble_eq_true rfl, Nat.le_of_ble_eq_true rfl⟩ (zs_in (by decide) mf39 (Nat.le_of_ble_eq_true rfl) ?_) (fun _ _ q => q)
              show zGo X l 0 0 0 39 0 [(0, .int (zI M 24 w16n)), (1, .int (zI M 29 5)), (2, .int (zI M 29 6))] [] M _
              refine zs_iload_n (pc := 0) t39_0 rfl ?_
              refine zs_iload_n (pc := 1) t39_1 rfl ?_
              by_cases w20 : (zI M 24 w16n).toInt < (zI M 29 5).toInt
              · refine zs_icmp_ltT (pc := 2) t39_2 rfl rfl (by omega) ?_
                refine zs_iconst (pc := 14) t39_14 (v := 0) (by decide) ?_
                refine zs_iret (pc := 15) t39_15 mr39 (by decide) ?_
                show zGo X l 1 0 0 93 44 [(0, .ref 19), (1, .int w1x3)] [.int (0 : Int32)] M _
                refine zs_if_eqT (pc := 44) t93_44 li0 (by decide) ?_
                refine zs_iconst (pc := 51) t93_51 (v := 0) (by decide) ?_
                refine zs_iret (pc := 52) t93_52 mr93 (by decide) ?_
                show zGo X l 2 0 0 103 27 [(0, .ref 19), (1, .int a), (2, .int w1x2), (3, .int w1x3)] [.int (0 : Int32)] M _
                refine zs_if_eqT (pc := 27) t103_27 li0 (by decide) ?_
                obtain ⟨w21v, w21e, w21⟩ := ziadd (a := w1x3) (b := Int32.ofInt 1) rfl (show (Int32.ofInt 1).toInt = 1 by decide) (by omega) (by omega)
                refine zs_iinc (pc := 33) t103_33 (ls' := [(3, .int w21v), (0, .ref 19), (1, .int a), (2, .int w1x2)]) (zml mf103 (by decide)) rfl (c := w21v) w21e rfl ?_
                refine zs_goto (pc := 36) t103_36 ?_
                refine zGo.locals (ls' := [(0, .ref 19), (1, .int a), (2, .int w1x2), (3, .int w21v)]) (by simp) ?_
                exact w1ih (w1m - 1) (by omega) w1x2 w21v ⟨by omega, by omega⟩ (by omega)
              · refine zs_icmp_ltF (pc := 2) t39_2 rfl rfl (by omega) ?_
                refine zs_iload_n (pc := 5) t39_5 rfl ?_
                refine zs_iload_n (pc := 6) t39_6 rfl ?_
                by_cases w22 : (zI M 29 6).toInt < (zI M 24 w16n).toInt
                · refine zs_icmp_gtT (pc := 7) t39_7 rfl rfl (by omega) ?_
                  refine zs_iconst (pc := 14) t39_14 (v := 0) (by decide) ?_
                  refine zs_iret (pc := 15) t39_15 mr39 (by decide) ?_
                  show zGo X l 1 0 0 93 44 [(0, .ref 19), (1, .int w1x3)] [.int (0 : Int32)] M _
                  refine zs_if_eqT (pc := 44) t93_44 li0 (by decide) ?_
                  refine zs_iconst (pc := 51) t93_51 (v := 0) (by decide) ?_
                  refine zs_iret (pc := 52) t93_52 mr93 (by decide) ?_
                  show zGo X l 2 0 0 103 27 [(0, .ref 19), (1, .int a), (2, .int w1x2), (3, .int w1x3)] [.int (0 : Int32)] M _
                  refine zs_if_eqT (pc := 27) t103_27 li0 (by decide) ?_
                  obtain ⟨w23v, w23e, w23⟩ := ziadd (a := w1x3) (b := Int32.ofInt 1) rfl (show (Int32.ofInt 1).toInt = 1 by decide) (by omega) (by omega)
                  refine zs_iinc (pc := 33) t103_33 (ls' := [(3, .int w23v), (0, .ref 19), (1, .int a), (2, .int w1x2)]) (zml mf103 (by decide)) rfl (c := w23v) w23e rfl ?_
                  refine zs_goto (pc := 36) t103_36 ?_
                  refine zGo.locals (ls' := [(0, .ref 19), (1, .int a), (2, .int w1x2), (3, .int w23v)]) (by simp) ?_
                  exact w1ih (w1m - 1) (by omega) w1x2 w23v ⟨by omega, by omega⟩ (by omega)
                · refine zs_icmp_gtF (pc := 7) t39_7 rfl rfl (by omega) ?_
                  refine zs_iconst (pc := 10) t39_10 (v := 1) (by decide) ?_
                  refine zs_goto (pc := 11) t39_11 ?_
                  refine zs_iret (pc := 15) t39_15 mr39 (by decide) ?_
                  show zGo X l 1 0 0 93 44 [(0, .ref 19), (1, .int w1x3)] [.int (1 : Int32)] M _
                  refine zs_if_eqF (pc := 44) t93_44 li1 (by decide) ?_
                  refine zs_iconst (pc := 47) t93_47 (v := 1) (by decide) ?_
                  refine zs_goto (pc := 48) t93_48 ?_
                  refine zs_iret (pc := 52) t93_52 mr93 (by decide) ?_
                  show zGo X l 2 0 0 103 27 [(0, .ref 19), (1, .int a), (2, .int w1x2), (3, .int w1x3)] [.int (1 : Int32)] M _
                  refine zs_if_eqF (pc := 27) t103_27 li1 (by decide) ?_
                  obtain ⟨w24v, w24e⟩ : ∃ v, w1x2 + Int32.ofInt 1 = v := ⟨_, rfl⟩
                  have w24 := zrg w24v
                  refine zs_iinc (pc := 30) t103_30 (ls' := [(2, .int w24v), (0, .ref 19), (1, .int a), (3, .int w1x3)]) (zml mf103 (by decide)) rfl (c := w24v) w24e rfl ?_
                  obtain ⟨w25v, w25e, w25⟩ := ziadd (a := w1x3) (b := Int32.ofInt 1) rfl (show (Int32.ofInt 1).toInt = 1 by decide) (by omega) (by omega)
                  refine zs_iinc (pc := 33) t103_33 (ls' := [(3, .int w25v), (2, .int w24v), (0, .ref 19), (1, .int a)]) (zml mf103 (by decide)) rfl (c := w25v) w25e rfl ?_
                  refine zs_goto (pc := 36) t103_36 ?_
                  refine zGo.locals (ls' := [(0, .ref 19), (1, .int a), (2, .int w24v), (3, .int w25v)]) (by simp) ?_
                  exact w1ih (w1m - 1) (by omega) w24v w25v ⟨by omega, by omega⟩ (by omega)
  refine zGo.locals (ls' := [(0, .ref 19), (1, .int a), (2, .int (0 : Int32)), (3, .int (0 : Int32))]) (by simp) ?_
  exact w1L ((60 - 0 : Int).toNat) (0 : Int32) (0 : Int32) ⟨by decide, by decide⟩ (by omega)
theorem C128_19 {X : zX} {l : Launch} {M : zM} {Q : Option Value → zM → Prop} {a : Int32} (hs : zSk zMc M) (hI : zIv cLo cHi M) (hQ : ∀ v : Int32, (-2147483648) ≤ v.toInt → v.toInt ≤ 2147483647 → Q (some (.int v)) M) : zCall X l 2 0 0 128 [.ref 19, .int a] M Q := by
  have ga := zrg a
  refine zs_in (by decide) mf128 (Nat.le_of_ble_eq_true rfl) ?_
  show zGo X l 2 0 0 128 0 [(0, .ref 19), (1, .int a)] [] M _
  refine zs_iconst (pc := 0) t128_0 (v := 0) (by decide) ?_
  refine zs_istore_n (pc := 1) t128_1 (ls' := [(2, .int (0 : Int32)), (0, .ref 19), (1, .int a)]) (zml mf128 (by decide)) rfl ?_
  refine zs_iconst (pc := 2) t128_2 (v := 0) (by decide) ?_
  refine zs_istore_n (pc := 3) t128_3 (ls' := [(3, .int (0 : Int32)), (2, .int (0 : Int32)), (0, .ref 19), (1, .int a)]) (zml mf128 (by decide)) rfl ?_
  have w1L : ∀ (m : Nat) (w1x2 : Int32) (w1x3 : Int32), (0 ≤ w1x3.toInt ∧ w1x3.toInt ≤ 60) → 60 - w1x3.toInt ≤ (m : Int) → zGo X l 2 0 0 128 4 [(0, .ref 19), (1, .int a), (2, .int w1x2), (3, .int w1x3)] [] M Q := by
    intro m
    induction m using Nat.strongRecOn with
    | ind w1m w1ih =>
      intro w1x2 w1x3 w1b3 w1q
      have w1g2 := zrg w1x2
      refine zs_iload_n (pc := 4) t128_4 rfl ?_
      refine zs_aload_n (pc := 5) t128_5 rfl ?_
      have w2 := ib19_3 hI
      refine zs_get (pc := 6) t128_6 (by decide) (zk1 (hs.k fk_zMc_19)) (zfvi rfl rfl) ?_
      by_cases w3 : (zI M 19 3).toInt ≤ w1x3.toInt
      · refine zs_icmp_geT (pc := 9) t128_9 rfl rfl (by omega) ?_
        refine zs_iload_n (pc := 39) t128_39 rfl ?_
        exact zs_iret (pc := 40) t128_40 mr128 rfl (hQ _ (by omega) (by omega))
      · refine zs_icmp_geF (pc := 9) t128_9 rfl rfl (by omega) ?_
        refine zs_aload_n (pc := 12) t128_12 rfl ?_
        refine zs_get (pc := 13) t128_13 (by decide) (zk1 (hs.k fk_zMc_19)) (hs.p rfl fv_zMc_19_7) ?_
        refine zs_iload_n (pc := 16) t128_16 rfl ?_
        obtain ⟨w4n, w4⟩ : ∃ n : Nat, w1x3.toInt = (n : Int) := ⟨w1x3.toInt.toNat, by omega⟩
        have w5 := ib25 hI w4n
        refine zs_iald (pc := 17) t128_17 (j := w4n) (by decide) (zk1 (hs.k fk_zMc_25)) w4 (zk2 (hs.k fk_zMc_25) (by omega)) rfl ?_
        refine zs_iload_n (pc := 18) t128_18 rfl ?_
        by_cases w6 : (zI M 25 w4n).toInt ≠ a.toInt
        · refine zs_icmp_neT (pc := 19) t128_19 rfl rfl (by omega) ?_
          obtain ⟨w7v, w7e, w7⟩ := ziadd (a := w1x3) (b := Int32.ofInt 1) rfl (show (Int32.ofInt 1).toInt = 1 by decide) (by omega) (by omega)
          refine zs_iinc (pc := 33) t128_33 (ls' := [(3, .int w7v), (0, .ref 19), (1, .int a), (2, .int w1x2)]) (zml mf128 (by decide)) rfl (c := w7v) w7e rfl ?_
          refine zs_goto (pc := 36) t128_36 ?_
          refine zGo.locals (ls' := [(0, .ref 19), (1, .int a), (2, .int w1x2), (3, .int w7v)]) (by simp) ?_
          exact w1ih (w1m - 1) (by omega) w1x2 w7v ⟨by omega, by omega⟩ (by omega)
        · refine zs_icmp_neF (pc := 19) t128_19 rfl rfl (by omega) ?_
          refine zs_aload_n (pc := 22) t128_22 rfl ?_
          refine zs_iload_n (pc := 23) t128_23 rfl ?_
          refine zs_invV (pc := 24) (k := 19) (as' := [.int w1x3]) (st := []) t128_24 mf93 rfl rfl (Or.inl ⟨by decide, (zk1 (hs.k fk_zMc_19))⟩) ⟨by decide, by decide, Nat.le_of_ble_eq_true rfl, Nat.le_of_ble_eq_true rfl⟩ (zs_in (by decide) mf93 (Nat.le_of_ble_eq_true rfl) ?_) (fun _ _ q => q)
          show zGo X l 1 0 0 93 0 [(0, .ref 19), (1, .int w1x3)] [] M _
          refine zs_aload_n (pc := 0) t93_0 rfl ?_
          refine zs_iload_n (pc := 1) t93_1 rfl ?_
          refine zs_invV (pc := 2) (k := 19) (as' := [.int w1x3]) (st := []) t93_2 mf91 rfl rfl (Or.inl ⟨by decide, (zk1 (hs.k fk_zMc_19))⟩) ⟨by decide, by decide, Nat.le_of_ble_eq_true rfl, Nat.le_of_ble_eq_true rfl⟩ (zs_in (by decide) mf91 (Nat.le_of_ble_eq_true rfl) ?_) (fun _ _ q => q)
          show zGo X l 0 0 0 91 0 [(0, .ref 19), (1, .int w1x3)] [] M _
          refine zs_iload_n (pc := 0) t91_0 rfl ?_
          refine zs_if_ltF (pc := 1) t91_1 rfl (by omega) ?_
          refine zs_iload_n (pc := 4) t91_4 rfl ?_
          refine zs_aload_n (pc := 5) t91_5 rfl ?_
          refine zs_get (pc := 6) t91_6 (by decide) (zk1 (hs.k fk_zMc_19)) (zfvi rfl rfl) ?_
          by_cases w8 : (zI M 19 3).toInt ≤ w1x3.toInt
          · refine zs_icmp_geT (pc := 9) t91_9 rfl rfl (by omega) ?_
            refine zs_iconst (pc := 16) t91_16 (v := 0) (by decide) ?_
            refine zs_iret (pc := 17) t91_17 mr91 (by decide) ?_
            show zGo X l 1 0 0 93 5 [(0, .ref 19), (1, .int w1x3)] [.int (0 : Int32)] M _
            refine zs_if_eqT (pc := 5) t93_5 li0 (by decide) ?_
            refine zs_iconst (pc := 51) t93_51 (v := 0) (by decide) ?_
            refine zs_iret (pc := 52) t93_52 mr93 (by decide) ?_
            show zGo X l 2 0 0 128 27 [(0, .ref 19), (1, .int a), (2, .int w1x2), (3, .int w1x3)] [.int (0 : Int32)] M _
            refine zs_if_eqT (pc := 27) t128_27 li0 (by decide) ?_
            obtain ⟨w9v, w9e, w9⟩ := ziadd (a := w1x3) (b := Int32.ofInt 1) rfl (show (Int32.ofInt 1).toInt = 1 by decide) (by omega) (by omega)
            refine zs_iinc (pc := 33) t128_33 (ls' := [(3, .int w9v), (0, .ref 19), (1, .int a), (2, .int w1x2)]) (zml mf128 (by decide)) rfl (c := w9v) w9e rfl ?_
            refine zs_goto (pc := 36) t128_36 ?_
            refine zGo.locals (ls' := [(0, .ref 19), (1, .int a), (2, .int w1x2), (3, .int w9v)]) (by simp) ?_
            exact w1ih (w1m - 1) (by omega) w1x2 w9v ⟨by omega, by omega⟩ (by omega)
          · refine zs_icmp_geF (pc := 9) t91_9 rfl rfl (by omega) ?_
            refine zs_iconst (pc := 12) t91_12 (v := 1) (by decide) ?_
            refine zs_goto (pc := 13) t91_13 ?_
            refine zs_iret (pc := 17) t91_17 mr91 (by decide) ?_
            show zGo X l 1 0 0 93 5 [(0, .ref 19), (1, .int w1x3)] [.int (1 : Int32)] M _
            refine zs_if_eqF (pc := 5) t93_5 li1 (by decide) ?_
            refine zs_aload_n (pc := 8) t93_8 rfl ?_
            refine zs_get (pc := 9) t93_9 (by decide) (zk1 (hs.k fk_zMc_19)) (hs.p rfl fv_zMc_19_2) ?_
            refine zs_aload_n (pc := 12) t93_12 rfl ?_
            refine zs_get (pc := 13) t93_13 (by decide) (zk1 (hs.k fk_zMc_19)) (hs.p rfl fv_zMc_19_4) ?_
            refine zs_iload_n (pc := 16) t93_16 rfl ?_
            obtain ⟨w10n, w10⟩ : ∃ n : Nat, w1x3.toInt = (n : Int) := ⟨w1x3.toInt.toNat, by omega⟩
            have w11 := ib22 hI w10n
            refine zs_iald (pc := 17) t93_17 (j := w10n) (by decide) (zk1 (hs.k fk_zMc_22)) w10 (zk2 (hs.k fk_zMc_22) (by omega)) rfl ?_
            obtain ⟨w12n, w12⟩ : ∃ n : Nat, (zI M 22 w10n).toInt = (n : Int) := ⟨(zI M 22 w10n).toInt.toNat, by omega⟩
            have w13 := ib21 hI w12n
            refine zs_bald (pc := 18) t93_18 (j := w12n) (Or.inr (zk1 (hs.k fk_zMc_21))) w12 (zk2 (hs.k fk_zMc_21) (by omega)) rfl ?_
            by_cases w14 : (zI M 21 w12n).toInt = 0
            · refine zs_if_eqT (pc := 19) t93_19 rfl (by omega) ?_
              refine zs_iconst (pc := 51) t93_51 (v := 0) (by decide) ?_
              refine zs_iret (pc := 52) t93_52 mr93 (by decide) ?_
              show zGo X l 2 0 0 128 27 [(0, .ref 19), (1, .int a), (2, .int w1x2), (3, .int w1x3)] [.int (0 : Int32)] M _
              refine zs_if_eqT (pc := 27) t128_27 li0 (by decide) ?_
              obtain ⟨w15v, w15e, w15⟩ := ziadd (a := w1x3) (b := Int32.ofInt 1) rfl (show (Int32.ofInt 1).toInt = 1 by decide) (by omega) (by omega)
              refine zs_iinc (pc := 33) t128_33 (ls' := [(3, .int w15v), (0, .ref 19), (1, .int a), (2, .int w1x2)]) (zml mf128 (by decide)) rfl (c := w15v) w15e rfl ?_
              refine zs_goto (pc := 36) t128_36 ?_
              refine zGo.locals (ls' := [(0, .ref 19), (1, .int a), (2, .int w1x2), (3, .int w15v)]) (by simp) ?_
              exact w1ih (w1m - 1) (by omega) w1x2 w15v ⟨by omega, by omega⟩ (by omega)
            · refine zs_if_eqF (pc := 19) t93_19 rfl (by omega) ?_
              refine zs_aload_n (pc := 22) t93_22 rfl ?_
              refine zs_get (pc := 23) t93_23 (by decide) (zk1 (hs.k fk_zMc_19)) (hs.p rfl fv_zMc_19_6) ?_
              refine zs_iload_n (pc := 26) t93_26 rfl ?_
              obtain ⟨w16n, w16⟩ : ∃ n : Nat, w1x3.toInt = (n : Int) := ⟨w1x3.toInt.toNat, by omega⟩
              have w17 := ib24 hI w16n
              refine zs_iald (pc := 27) t93_27 (j := w16n) (by decide) (zk1 (hs.k fk_zMc_24)) w16 (zk2 (hs.k fk_zMc_24) (by omega)) rfl ?_
              refine zs_aload_n (pc := 28) t93_28 rfl ?_
              refine zs_get (pc := 29) t93_29 (by decide) (zk1 (hs.k fk_zMc_19)) (hs.p rfl fv_zMc_19_12) ?_
              refine zs_iconst (pc := 32) t93_32 (v := 5) (by decide) ?_
              have w18 := ib29 hI 5
              refine zs_iald (pc := 33) t93_33 (j := 5) (by decide) (zk1 (hs.k fk_zMc_29)) li5 (zk2 (hs.k fk_zMc_29) (by decide)) rfl ?_
              refine zs_aload_n (pc := 34) t93_34 rfl ?_
              refine zs_get (pc := 35) t93_35 (by decide) (zk1 (hs.k fk_zMc_19)) (hs.p rfl fv_zMc_19_12) ?_
              refine zs_bipush (pc := 38) t93_38 (v := 6) (by decide) ?_
              have w19 := ib29 hI 6
              refine zs_iald (pc := 40) t93_40 (j := 6) (by decide) (zk1 (hs.k fk_zMc_29)) li6 (zk2 (hs.k fk_zMc_29) (by decide)) rfl ?_
              refine zs_invS (pc := 41) (as := [.int (zI M 24 w16n), .int (zI M 29 5), .int (zI M 29 6)]) (st := []) t93_41 (by decide) mf39 rfl rfl ⟨by decide, by decide, Nat.le_of_ble_eq_true rfl, Nat.le_of_ble_eq_true rfl⟩ (zs_in (by decide) mf39 (Nat.le_of_ble_eq_true rfl) ?_) (fun _ _ q => q)
              show zGo X l 0 0 0 39 0 [(0, .int (zI M 24 w16n)), (1, .int (zI M 29 5)), (2, .int (zI M 29 6))] [] M _
              refine zs_iload_n (pc := 0) t39_0 rfl ?_
              refine zs_iload_n (pc := 1) t39_1 rfl ?_
              by_cases w20 : (zI M 24 w16n).toInt < (zI M 29 5).toInt
              · refine zs_icmp_ltT (pc := 2) t39_2 rfl rfl (by omega) ?_
                refine zs_iconst (pc := 14) t39_14 (v := 0) (by decide) ?_
                refine zs_iret (pc := 15) t39_15 mr39 (by decide) ?_
                show zGo X l 1 0 0 93 44 [(0, .ref 19), (1, .int w1x3)] [.int (0 : Int32)] M _
                refine zs_if_eqT (pc := 44) t93_44 li0 (by decide) ?_
                refine zs_iconst (pc := 51) t93_51 (v := 0) (by decide) ?_
                refine zs_iret (pc := 52) t93_52 mr93 (by decide) ?_
                show zGo X l 2 0 0 128 27 [(0, .ref 19), (1, .int a), (2, .int w1x2), (3, .int w1x3)] [.int (0 : Int32)] M _
                refine zs_if_eqT (pc := 27) t128_27 li0 (by decide) ?_
                obtain ⟨w21v, w21e, w21⟩ := ziadd (a := w1x3) (b := Int32.ofInt 1) rfl (show (Int32.ofInt 1).toInt = 1 by decide) (by omega) (by omega)
                refine zs_iinc (pc := 33) t128_33 (ls' := [(3, .int w21v), (0, .ref 19), (1, .int a), (2, .int w1x2)]) (zml mf128 (by decide)) rfl (c := w21v) w21e rfl ?_
                refine zs_goto (pc := 36) t128_36 ?_
                refine zGo.locals (ls' := [(0, .ref 19), (1, .int a), (2, .int w1x2), (3, .int w21v)]) (by simp) ?_
                exact w1ih (w1m - 1) (by omega) w1x2 w21v ⟨by omega, by omega⟩ (by omega)
              · refine zs_icmp_ltF (pc := 2) t39_2 rfl rfl (by omega) ?_
                refine zs_iload_n (pc := 5) t39_5 rfl ?_
                refine zs_iload_n (pc := 6) t39_6 rfl ?_
                by_cases w22 : (zI M 29 6).toInt < (zI M 24 w16n).toInt
                · refine zs_icmp_gtT (pc := 7) t39_7 rfl rfl (by omega) ?_
                  refine zs_iconst (pc := 14) t39_14 (v := 0) (by decide) ?_
                  refine zs_iret (pc := 15) t39_15 mr39 (by decide) ?_
                  show zGo X l 1 0 0 93 44 [(0, .ref 19), (1, .int w1x3)] [.int (0 : Int32)] M _
                  refine zs_if_eqT (pc := 44) t93_44 li0 (by decide) ?_
                  refine zs_iconst (pc := 51) t93_51 (v := 0) (by decide) ?_
                  refine zs_iret (pc := 52) t93_52 mr93 (by decide) ?_
                  show zGo X l 2 0 0 128 27 [(0, .ref 19), (1, .int a), (2, .int w1x2), (3, .int w1x3)] [.int (0 : Int32)] M _
                  refine zs_if_eqT (pc := 27) t128_27 li0 (by decide) ?_
                  obtain ⟨w23v, w23e, w23⟩ := ziadd (a := w1x3) (b := Int32.ofInt 1) rfl (show (Int32.ofInt 1).toInt = 1 by decide) (by omega) (by omega)
                  refine zs_iinc (pc := 33) t128_33 (ls' := [(3, .int w23v), (0, .ref 19), (1, .int a), (2, .int w1x2)]) (zml mf128 (by decide)) rfl (c := w23v) w23e rfl ?_
                  refine zs_goto (pc := 36) t128_36 ?_
                  refine zGo.locals (ls' := [(0, .ref 19), (1, .int a), (2, .int w1x2), (3, .int w23v)]) (by simp) ?_
                  exact w1ih (w1m - 1) (by omega) w1x2 w23v ⟨by omega, by omega⟩ (by omega)
                · refine zs_icmp_gtF (pc := 7) t39_7 rfl rfl (by omega) ?_
                  refine zs_iconst (pc := 10) t39_10 (v := 1) (by decide) ?_
                  refine zs_goto (pc := 11) t39_11 ?_
                  refine zs_iret (pc := 15) t39_15 mr39 (by decide) ?_
                  show zGo X l 1 0 0 93 44 [(0, .ref 19), (1, .int w1x3)] [.int (1 : Int32)] M _
                  refine zs_if_eqF (pc := 44) t93_44 li1 (by decide) ?_
                  refine zs_iconst (pc := 47) t93_47 (v := 1) (by decide) ?_
                  refine zs_goto (pc := 48) t93_48 ?_
                  refine zs_iret (pc := 52) t93_52 mr93 (by decide) ?_
                  show zGo X l 2 0 0 128 27 [(0, .ref 19), (1, .int a), (2, .int w1x2), (3, .int w1x3)] [.int (1 : Int32)] M _
                  refine zs_if_eqF (pc := 27) t128_27 li1 (by decide) ?_
                  obtain ⟨w24v, w24e⟩ : ∃ v, w1x2 + Int32.ofInt 1 = v := ⟨_, rfl⟩
                  have w24 := zrg w24v
                  refine zs_iinc (pc := 30) t128_30 (ls' := [(2, .int w24v), (0, .ref 19), (1, .int a), (3, .int w1x3)]) (zml mf128 (by decide)) rfl (c := w24v) w24e rfl ?_
                  obtain ⟨w25v, w25e, w25⟩ := ziadd (a := w1x3) (b := Int32.ofInt 1) rfl (show (Int32.ofInt 1).toInt = 1 by decide) (by omega) (by omega)
                  refine zs_iinc (pc := 33) t128_33 (ls' := [(3, .int w25v), (2, .int w24v), (0, .ref 19), (1, .int a)]) (zml mf128 (by decide)) rfl (c := w25v) w25e rfl ?_
                  refine zs_goto (pc := 36) t128_36 ?_
                  refine zGo.locals (ls' := [(0, .ref 19), (1, .int a), (2, .int w24v), (3, .int w25v)]) (by simp) ?_
                  exact w1ih (w1m - 1) (by omega) w24v w25v ⟨by omega, by omega⟩ (by omega)
  refine zGo.locals (ls' := [(0, .ref 19), (1, .int a), (2, .int (0 : Int32)), (3, .int (0 : Int32))]) (by simp) ?_
  exact w1L ((60 - 0 : Int).toNat) (0 : Int32) (0 : Int32) ⟨by decide, by decide⟩ (by omega)
theorem C211_19 {X : zX} {l : Launch} {M : zM} {Q : Option Value → zM → Prop} {a b : Int32} (hs : zSk zMc M) (hI : zIv cLo cHi M) (hQ : ∀ v : Int32, (-2147483648) ≤ v.toInt → v.toInt ≤ 2147483647 → Q (some (.int v)) M) : zCall X l 1 0 0 211 [.ref 19, .int a, .int b] M Q := by
  have ga := zrg a
  have gb := zrg b
  refine zs_in (by decide) mf211 (Nat.le_of_ble_eq_true rfl) ?_
  show zGo X l 1 0 0 211 0 [(0, .ref 19), (1, .int a), (2, .int b)] [] M _
  refine zs_iconst (pc := 0) t211_0 (v := 0) (by decide) ?_
  refine zs_istore_n (pc := 1) t211_1 (ls' := [(3, .int (0 : Int32)), (0, .ref 19), (1, .int a), (2, .int b)]) (zml mf211 (by decide)) rfl ?_
  refine zs_iconst (pc := 2) t211_2 (v := 0) (by decide) ?_
  refine zs_istore (pc := 3) t211_3 (ls' := [(4, .int (0 : Int32)), (3, .int (0 : Int32)), (0, .ref 19), (1, .int a), (2, .int b)]) (zml mf211 (by decide)) rfl ?_
  have w1L : ∀ (m : Nat) (w1x3 : Int32) (w1x4 : Int32), (0 ≤ w1x4.toInt ∧ w1x4.toInt ≤ 60) → 60 - w1x4.toInt ≤ (m : Int) → zGo X l 1 0 0 211 5 [(0, .ref 19), (1, .int a), (2, .int b), (3, .int w1x3), (4, .int w1x4)] [] M Q := by
    intro m
    induction m using Nat.strongRecOn with
    | ind w1m w1ih =>
      intro w1x3 w1x4 w1b4 w1q
      have w1g3 := zrg w1x3
      refine zs_iload (pc := 5) t211_5 rfl ?_
      refine zs_aload_n (pc := 7) t211_7 rfl ?_
      have w2 := ib19_3 hI
      refine zs_get (pc := 8) t211_8 (by decide) (zk1 (hs.k fk_zMc_19)) (zfvi rfl rfl) ?_
      by_cases w3 : (zI M 19 3).toInt ≤ w1x4.toInt
      · refine zs_icmp_geT (pc := 11) t211_11 rfl rfl (by omega) ?_
        refine zs_iload_n (pc := 53) t211_53 rfl ?_
        exact zs_iret (pc := 54) t211_54 mr211 rfl (hQ _ (by omega) (by omega))
      · refine zs_icmp_geF (pc := 11) t211_11 rfl rfl (by omega) ?_
        refine zs_aload_n (pc := 14) t211_14 rfl ?_
        refine zs_get (pc := 15) t211_15 (by decide) (zk1 (hs.k fk_zMc_19)) (hs.p rfl fv_zMc_19_2) ?_
        refine zs_aload_n (pc := 18) t211_18 rfl ?_
        refine zs_get (pc := 19) t211_19 (by decide) (zk1 (hs.k fk_zMc_19)) (hs.p rfl fv_zMc_19_4) ?_
        refine zs_iload (pc := 22) t211_22 rfl ?_
        obtain ⟨w4n, w4⟩ : ∃ n : Nat, w1x4.toInt = (n : Int) := ⟨w1x4.toInt.toNat, by omega⟩
        have w5 := ib22 hI w4n
        refine zs_iald (pc := 24) t211_24 (j := w4n) (by decide) (zk1 (hs.k fk_zMc_22)) w4 (zk2 (hs.k fk_zMc_22) (by omega)) rfl ?_
        obtain ⟨w6n, w6⟩ : ∃ n : Nat, (zI M 22 w4n).toInt = (n : Int) := ⟨(zI M 22 w4n).toInt.toNat, by omega⟩
        have w7 := ib21 hI w6n
        refine zs_bald (pc := 25) t211_25 (j := w6n) (Or.inr (zk1 (hs.k fk_zMc_21))) w6 (zk2 (hs.k fk_zMc_21) (by omega)) rfl ?_
        by_cases w8 : (zI M 21 w6n).toInt = 0
        · refine zs_if_eqT (pc := 26) t211_26 rfl (by omega) ?_
          obtain ⟨w9v, w9e, w9⟩ := ziadd (a := w1x4) (b := Int32.ofInt 1) rfl (show (Int32.ofInt 1).toInt = 1 by decide) (by omega) (by omega)
          refine zs_iinc (pc := 47) t211_47 (ls' := [(4, .int w9v), (0, .ref 19), (1, .int a), (2, .int b), (3, .int w1x3)]) (zml mf211 (by decide)) rfl (c := w9v) w9e rfl ?_
          refine zs_goto (pc := 50) t211_50 ?_
          refine zGo.locals (ls' := [(0, .ref 19), (1, .int a), (2, .int b), (3, .int w1x3), (4, .int w9v)]) (by simp) ?_
          exact w1ih (w1m - 1) (by omega) w1x3 w9v ⟨by omega, by omega⟩ (by omega)
        · refine zs_if_eqF (pc := 26) t211_26 rfl (by omega) ?_
          refine zs_aload_n (pc := 29) t211_29 rfl ?_
          refine zs_get (pc := 30) t211_30 (by decide) (zk1 (hs.k fk_zMc_19)) (hs.p rfl fv_zMc_19_6) ?_
          refine zs_iload (pc := 33) t211_33 rfl ?_
          obtain ⟨w10n, w10⟩ : ∃ n : Nat, w1x4.toInt = (n : Int) := ⟨w1x4.toInt.toNat, by omega⟩
          have w11 := ib24 hI w10n
          refine zs_iald (pc := 35) t211_35 (j := w10n) (by decide) (zk1 (hs.k fk_zMc_24)) w10 (zk2 (hs.k fk_zMc_24) (by omega)) rfl ?_
          refine zs_iload_n (pc := 36) t211_36 rfl ?_
          refine zs_iload_n (pc := 37) t211_37 rfl ?_
          refine zs_invS (pc := 38) (as := [.int (zI M 24 w10n), .int a, .int b]) (st := []) t211_38 (by decide) mf39 rfl rfl ⟨by decide, by decide, Nat.le_of_ble_eq_true rfl, Nat.le_of_ble_eq_true rfl⟩ (zs_in (by decide) mf39 (Nat.le_of_ble_eq_true rfl) ?_) (fun _ _ q => q)
          show zGo X l 0 0 0 39 0 [(0, .int (zI M 24 w10n)), (1, .int a), (2, .int b)] [] M _
          refine zs_iload_n (pc := 0) t39_0 rfl ?_
          refine zs_iload_n (pc := 1) t39_1 rfl ?_
          by_cases w12 : (zI M 24 w10n).toInt < a.toInt
          · refine zs_icmp_ltT (pc := 2) t39_2 rfl rfl (by omega) ?_
            refine zs_iconst (pc := 14) t39_14 (v := 0) (by decide) ?_
            refine zs_iret (pc := 15) t39_15 mr39 (by decide) ?_
            show zGo X l 1 0 0 211 41 [(0, .ref 19), (1, .int a), (2, .int b), (3, .int w1x3), (4, .int w1x4)] [.int (0 : Int32)] M _
            refine zs_if_eqT (pc := 41) t211_41 li0 (by decide) ?_
            obtain ⟨w13v, w13e, w13⟩ := ziadd (a := w1x4) (b := Int32.ofInt 1) rfl (show (Int32.ofInt 1).toInt = 1 by decide) (by omega) (by omega)
            refine zs_iinc (pc := 47) t211_47 (ls' := [(4, .int w13v), (0, .ref 19), (1, .int a), (2, .int b), (3, .int w1x3)]) (zml mf211 (by decide)) rfl (c := w13v) w13e rfl ?_
            refine zs_goto (pc := 50) t211_50 ?_
            refine zGo.locals (ls' := [(0, .ref 19), (1, .int a), (2, .int b), (3, .int w1x3), (4, .int w13v)]) (by simp) ?_
            exact w1ih (w1m - 1) (by omega) w1x3 w13v ⟨by omega, by omega⟩ (by omega)
          · refine zs_icmp_ltF (pc := 2) t39_2 rfl rfl (by omega) ?_
            refine zs_iload_n (pc := 5) t39_5 rfl ?_
            refine zs_iload_n (pc := 6) t39_6 rfl ?_
            by_cases w14 : b.toInt < (zI M 24 w10n).toInt
            · refine zs_icmp_gtT (pc := 7) t39_7 rfl rfl (by omega) ?_
              refine zs_iconst (pc := 14) t39_14 (v := 0) (by decide) ?_
              refine zs_iret (pc := 15) t39_15 mr39 (by decide) ?_
              show zGo X l 1 0 0 211 41 [(0, .ref 19), (1, .int a), (2, .int b), (3, .int w1x3), (4, .int w1x4)] [.int (0 : Int32)] M _
              refine zs_if_eqT (pc := 41) t211_41 li0 (by decide) ?_
              obtain ⟨w15v, w15e, w15⟩ := ziadd (a := w1x4) (b := Int32.ofInt 1) rfl (show (Int32.ofInt 1).toInt = 1 by decide) (by omega) (by omega)
              refine zs_iinc (pc := 47) t211_47 (ls' := [(4, .int w15v), (0, .ref 19), (1, .int a), (2, .int b), (3, .int w1x3)]) (zml mf211 (by decide)) rfl (c := w15v) w15e rfl ?_
              refine zs_goto (pc := 50) t211_50 ?_
              refine zGo.locals (ls' := [(0, .ref 19), (1, .int a), (2, .int b), (3, .int w1x3), (4, .int w15v)]) (by simp) ?_
              exact w1ih (w1m - 1) (by omega) w1x3 w15v ⟨by omega, by omega⟩ (by omega)
            · refine zs_icmp_gtF (pc := 7) t39_7 rfl rfl (by omega) ?_
              refine zs_iconst (pc := 10) t39_10 (v := 1) (by decide) ?_
              refine zs_goto (pc := 11) t39_11 ?_
              refine zs_iret (pc := 15) t39_15 mr39 (by decide) ?_
              show zGo X l 1 0 0 211 41 [(0, .ref 19), (1, .int a), (2, .int b), (3, .int w1x3), (4, .int w1x4)] [.int (1 : Int32)] M _
              refine zs_if_eqF (pc := 41) t211_41 li1 (by decide) ?_
              obtain ⟨w16v, w16e⟩ : ∃ v, w1x3 + Int32.ofInt 1 = v := ⟨_, rfl⟩
              have w16 := zrg w16v
              refine zs_iinc (pc := 44) t211_44 (ls' := [(3, .int w16v), (0, .ref 19), (1, .int a), (2, .int b), (4, .int w1x4)]) (zml mf211 (by decide)) rfl (c := w16v) w16e rfl ?_
              obtain ⟨w17v, w17e, w17⟩ := ziadd (a := w1x4) (b := Int32.ofInt 1) rfl (show (Int32.ofInt 1).toInt = 1 by decide) (by omega) (by omega)
              refine zs_iinc (pc := 47) t211_47 (ls' := [(4, .int w17v), (3, .int w16v), (0, .ref 19), (1, .int a), (2, .int b)]) (zml mf211 (by decide)) rfl (c := w17v) w17e rfl ?_
              refine zs_goto (pc := 50) t211_50 ?_
              refine zGo.locals (ls' := [(0, .ref 19), (1, .int a), (2, .int b), (3, .int w16v), (4, .int w17v)]) (by simp) ?_
              exact w1ih (w1m - 1) (by omega) w16v w17v ⟨by omega, by omega⟩ (by omega)
  refine zGo.locals (ls' := [(0, .ref 19), (1, .int a), (2, .int b), (3, .int (0 : Int32)), (4, .int (0 : Int32))]) (by simp) ?_
  exact w1L ((60 - 0 : Int).toNat) (0 : Int32) (0 : Int32) ⟨by decide, by decide⟩ (by omega)
theorem C185_7 {X : zX} {l : Launch} {M : zM} {Q : Option Value → zM → Prop} {a : Int32} (hs : zSk zMc M) (hI : zIv cLo cHi M) (ha : 0 ≤ a.toInt ∧ a.toInt ≤ 65535) (hQ : ∀ v : Int32, 0 ≤ v.toInt → v.toInt ≤ 1 → Q (some (.int v)) M) : zCall X l 0 0 0 185 [.ref 7, .int a] M Q := by
  have ga := zrg a
  refine zs_in (by decide) mf185 (Nat.le_of_ble_eq_true rfl) ?_
  show zGo X l 0 0 0 185 0 [(0, .ref 7), (1, .int a)] [] M _
  refine zs_iconst (pc := 0) t185_0 (v := 0) (by decide) ?_
  refine zs_istore_n (pc := 1) t185_1 (ls' := [(2, .int (0 : Int32)), (0, .ref 7), (1, .int a)]) (zml mf185 (by decide)) rfl ?_
  have w1L : ∀ (m : Nat) (w1x2 : Int32), (0 ≤ w1x2.toInt ∧ w1x2.toInt ≤ 500) → 500 - w1x2.toInt ≤ (m : Int) → zGo X l 0 0 0 185 2 [(0, .ref 7), (1, .int a), (2, .int w1x2)] [] M Q := by
    intro m
    induction m using Nat.strongRecOn with
    | ind w1m w1ih =>
      intro w1x2 w1b2 w1q
      refine zs_iload_n (pc := 2) t185_2 rfl ?_
      refine zs_aload_n (pc := 3) t185_3 rfl ?_
      have w2 := ib7_13 hI
      refine zs_get (pc := 4) t185_4 (by decide) (zk1 (hs.k fk_zMc_7)) (zfvi rfl rfl) ?_
      by_cases w3 : (zI M 7 13).toInt ≤ w1x2.toInt
      · refine zs_icmp_geT (pc := 7) t185_7 rfl rfl (by omega) ?_
        refine zs_iconst (pc := 28) t185_28 (v := 0) (by decide) ?_
        exact zs_iret (pc := 29) t185_29 mr185 (by decide) (hQ _ (by decide) (by decide))
      · refine zs_icmp_geF (pc := 7) t185_7 rfl rfl (by omega) ?_
        refine zs_aload_n (pc := 10) t185_10 rfl ?_
        refine zs_get (pc := 11) t185_11 (by decide) (zk1 (hs.k fk_zMc_7)) (hs.p rfl fv_zMc_7_14) ?_
        refine zs_iload_n (pc := 14) t185_14 rfl ?_
        obtain ⟨w4n, w4⟩ : ∃ n : Nat, w1x2.toInt = (n : Int) := ⟨w1x2.toInt.toNat, by omega⟩
        have w5 := ib18 hI w4n
        refine zs_bald (pc := 15) t185_15 (j := w4n) (Or.inl (zk1 (hs.k fk_zMc_18))) w4 (zk2 (hs.k fk_zMc_18) (by omega)) rfl ?_
        refine zs_iload_n (pc := 16) t185_16 rfl ?_
        by_cases w6 : (zI M 18 w4n).toInt ≠ a.toInt
        · refine zs_icmp_neT (pc := 17) t185_17 rfl rfl (by omega) ?_
          obtain ⟨w7v, w7e, w7⟩ := ziadd (a := w1x2) (b := Int32.ofInt 1) rfl (show (Int32.ofInt 1).toInt = 1 by decide) (by omega) (by omega)
          refine zs_iinc (pc := 22) t185_22 (ls' := [(2, .int w7v), (0, .ref 7), (1, .int a)]) (zml mf185 (by decide)) rfl (c := w7v) w7e rfl ?_
          refine zs_goto (pc := 25) t185_25 ?_
          refine zGo.locals (ls' := [(0, .ref 7), (1, .int a), (2, .int w7v)]) (by simp) ?_
          exact w1ih (w1m - 1) (by omega) w7v ⟨by omega, by omega⟩ (by omega)
        · refine zs_icmp_neF (pc := 17) t185_17 rfl rfl (by omega) ?_
          refine zs_iconst (pc := 20) t185_20 (v := 1) (by decide) ?_
          exact zs_iret (pc := 21) t185_21 mr185 (by decide) (hQ _ (by decide) (by decide))
  refine zGo.locals (ls' := [(0, .ref 7), (1, .int a), (2, .int (0 : Int32))]) (by simp) ?_
  exact w1L ((500 - 0 : Int).toNat) (0 : Int32) ⟨by decide, by decide⟩ (by omega)
theorem C16_155 {X : zX} {l : Launch} {M : zM} {Q : Option Value → zM → Prop} {a : Int32} (hs : zSk zMc M) (hI : zIv cLo cHi M) (hQ : ∀ M', zSk zMc M' → zIv cLo cHi M' → zFr [(155, 155, some 1), (156, 156, none)] M M' → Q none M') : zCall X l 0 0 0 16 [.ref 155, .int a] M Q := by
  have ga := zrg a
  refine zs_in (by decide) mf16 (Nat.le_of_ble_eq_true rfl) ?_
  show zGo X l 0 0 0 16 0 [(0, .ref 155), (1, .int a)] [] M _
  refine zs_bipush (pc := 0) t16_0 (v := 24) (by decide) ?_
  refine zs_istore_n (pc := 2) t16_2 (ls' := [(2, .int (24 : Int32)), (0, .ref 155), (1, .int a)]) (zml mf16 (by decide)) rfl ?_
  have w1L : ∀ (m : Nat) (w1x2 : Int32) (w1M : zM), ((-8) ≤ w1x2.toInt ∧ w1x2.toInt ≤ 24) → zSk zMc w1M → zIv cLo cHi w1M → zFr [(155, 155, some 1), (156, 156, none)] M w1M → w1x2.toInt + 8 ≤ (m : Int) → zGo X l 0 0 0 16 3 [(0, .ref 155), (1, .int a), (2, .int w1x2)] [] w1M Q := by
    intro m
    induction m using Nat.strongRecOn with
    | ind w1m w1ih =>
      intro w1x2 w1M w1b2 w1s w1I w1F w1q
      refine zs_iload_n (pc := 3) t16_3 rfl ?_
      by_cases w2 : w1x2.toInt < 0
      · refine zs_if_ltT (pc := 4) t16_4 rfl (by omega) ?_
        exact zs_vret (pc := 46) t16_46 mr16 (hQ _ w1s w1I ((zFr.refl).trans (w1F.mono rfl)))
      · refine zs_if_ltF (pc := 4) t16_4 rfl (by omega) ?_
        refine zs_aload_n (pc := 7) t16_7 rfl ?_
        have w3 := ib155_1 w1I
        refine zs_get (pc := 8) t16_8 (by decide) (zk1 (w1s.k fk_zMc_155)) (zfvi rfl rfl) ?_
        refine zs_sipush (pc := 11) t16_11 (v := 500) (by decide) ?_
        by_cases w4 : 500 ≤ (zI w1M 155 1).toInt
        · refine zs_icmp_geT (pc := 14) t16_14 rfl li500 (by omega) ?_
          exact zs_vret (pc := 46) t16_46 mr16 (hQ _ w1s w1I ((zFr.refl).trans (w1F.mono rfl)))
        · refine zs_icmp_geF (pc := 14) t16_14 rfl li500 (by omega) ?_
          refine zs_aload_n (pc := 17) t16_17 rfl ?_
          refine zs_get (pc := 18) t16_18 (by decide) (zk1 (w1s.k fk_zMc_155)) (w1s.p rfl fv_zMc_155_0) ?_
          refine zs_aload_n (pc := 21) t16_21 rfl ?_
          refine zs_get (pc := 22) t16_22 (by decide) (zk1 (w1s.k fk_zMc_155)) (zfvi rfl rfl) ?_
          refine zs_iload_n (pc := 25) t16_25 rfl ?_
          refine zs_iload_n (pc := 26) t16_26 rfl ?_
          obtain ⟨w5v, w5⟩ : ∃ v, (a.toUInt32 >>> (w1x2.toUInt32 &&& Int32.toUInt32 31)).toInt32 = v := ⟨_, rfl⟩
          have w5g := zrg w5v
          refine zs_iushr (pc := 27) t16_27 (c := w5v) w5 ?_
          obtain ⟨w6v, w6e⟩ : ∃ v, w5v.toInt8.toInt32 = v := ⟨_, rfl⟩
          have w6 : (-128) ≤ w6v.toInt ∧ w6v.toInt ≤ 127 := by rw [← w6e]; exact znb _
          refine zs_i2b (pc := 28) t16_28 (c := w6v) w6e ?_
          obtain ⟨w7n, w7⟩ : ∃ n : Nat, (zI w1M 155 1).toInt = (n : Int) := ⟨(zI w1M 155 1).toInt.toNat, by omega⟩
          obtain ⟨w8v, w8e⟩ : ∃ v, vp_nar .byte w6v = v := ⟨_, rfl⟩
          have w8 : -128 ≤ w8v.toInt ∧ w8v.toInt ≤ 127 := by rw [← w8e]; exact znb _
          have w9 : zIv cLo cHi (zsI w1M 156 w7n w8v) := zIv.put w1I (show (-128) ≤ w8v.toInt ∧ w8v.toInt ≤ 127 from ⟨by omega, by omega⟩)
          refine zs_bastB (pc := 29) t16_29 (j := w7n) (by decide) (zk1 (w1s.k fk_zMc_156)) w7 (zk2 (w1s.k fk_zMc_156) (by omega)) w8e ?_
          refine zs_aload_n (pc := 30) t16_30 rfl ?_
          refine zs_dup (pc := 31) t16_31 rfl ?_
          refine zs_get (pc := 32) t16_32 (by decide) (zk1 (w1s.k fk_zMc_155)) (zfvi rfl ((zIo (by decide)).trans rfl)) ?_
          refine zs_iconst (pc := 35) t16_35 (v := 1) (by decide) ?_
          obtain ⟨w10v, w10e, w10⟩ := ziadd (a := (zI w1M 155 1)) (b := (1 : Int32)) rfl li1 (by omega) (by omega)
          refine zs_iadd (pc := 36) t16_36 (c := w10v) w10e ?_
          have w11 : zIv cLo cHi (zsI (zsI w1M 156 w7n w8v) 155 1 w10v) := zIv.put w9 (show 0 ≤ w10v.toInt ∧ w10v.toInt ≤ 500 from ⟨by omega, by omega⟩)
          refine zs_putI (pc := 37) t16_37 (zk1 (w1s.k fk_zMc_155)) rfl ?_
          obtain ⟨w12v, w12e, w12⟩ := ziadd (a := w1x2) (b := Int32.ofInt (-8)) rfl (show (Int32.ofInt (-8)).toInt = (-8) by decide) (by omega) (by omega)
          refine zs_iinc (pc := 40) t16_40 (ls' := [(2, .int w12v), (0, .ref 155), (1, .int a)]) (zml mf16 (by decide)) rfl (c := w12v) w12e rfl ?_
          refine zs_goto (pc := 43) t16_43 ?_
          refine zGo.locals (ls' := [(0, .ref 155), (1, .int a), (2, .int w12v)]) (by simp) ?_
          exact w1ih (w1m - 1) (by omega) w12v (zsI (zsI w1M 156 w7n w8v) 155 1 w10v) ⟨by omega, by omega⟩ w1s w11 (((zFr.refl).put rfl).put rfl) (by omega)
  refine zGo.locals (ls' := [(0, .ref 155), (1, .int a), (2, .int (24 : Int32))]) (by simp) ?_
  exact w1L ((24 + 8 : Int).toNat) (24 : Int32) M ⟨by decide, by decide⟩ hs hI zFr.refl (by omega)

