theorem zWc0 : ∀ w ∈ u_ws cR0 cT0 6, w ∈ lw_tbl := by
  intro w hw
  rw [show u_ws cR0 cT0 6 = [479, 481, 483, 485, 487, 489].filterMap (fun i => lw_tbl[i]?) by decide +kernel] at hw
  obtain ⟨i, -, hi⟩ := List.mem_filterMap.mp hw
  exact List.mem_of_getElem? hi
theorem zin0 : Cond.instantiable (cR 0) (cN 0) ∈ lw_tbl := List.mem_of_getElem? (i := 338) (by decide +kernel)
theorem zit0 : Cond.initialized (cR 0) ∈ lw_tbl := List.mem_of_getElem? (i := 115) (by decide +kernel)
theorem zWc1 : ∀ w ∈ u_ws cR1 cT1 8, w ∈ lw_tbl := by
  intro w hw
  rw [show u_ws cR1 cT1 8 = [552, 554, 556, 558, 560, 562, 564, 566].filterMap (fun i => lw_tbl[i]?) by decide +kernel] at hw
  obtain ⟨i, -, hi⟩ := List.mem_filterMap.mp hw
  exact List.mem_of_getElem? hi
theorem zin1 : Cond.instantiable (cR 1) (cN 1) ∈ lw_tbl := List.mem_of_getElem? (i := 539) (by decide +kernel)
theorem zit1 : Cond.initialized (cR 1) ∈ lw_tbl := List.mem_of_getElem? (i := 118) (by decide +kernel)
theorem zWc2 : ∀ w ∈ u_ws cR2 cT2 5, w ∈ lw_tbl := by
  intro w hw
  rw [show u_ws cR2 cT2 5 = [243, 245, 247, 249, 251].filterMap (fun i => lw_tbl[i]?) by decide +kernel] at hw
  obtain ⟨i, -, hi⟩ := List.mem_filterMap.mp hw
  exact List.mem_of_getElem? hi
theorem zin2 : Cond.instantiable (cR 2) (cN 2) ∈ lw_tbl := List.mem_of_getElem? (i := 230) (by decide +kernel)
theorem zit2 : Cond.initialized (cR 2) ∈ lw_tbl := List.mem_of_getElem? (i := 109) (by decide +kernel)
theorem zWc3 : ∀ w ∈ u_ws cR3 cT3 3, w ∈ lw_tbl := by
  intro w hw
  rw [show u_ws cR3 cT3 3 = [288, 290, 292].filterMap (fun i => lw_tbl[i]?) by decide +kernel] at hw
  obtain ⟨i, -, hi⟩ := List.mem_filterMap.mp hw
  exact List.mem_of_getElem? hi
theorem zin3 : Cond.instantiable (cR 3) (cN 3) ∈ lw_tbl := List.mem_of_getElem? (i := 280) (by decide +kernel)
theorem zit3 : Cond.initialized (cR 3) ∈ lw_tbl := List.mem_of_getElem? (i := 111) (by decide +kernel)
theorem zWc4 : ∀ w ∈ u_ws cR4 cT4 15, w ∈ lw_tbl := by
  intro w hw
  rw [show u_ws cR4 cT4 15 = [507, 509, 511, 513, 515, 517, 519, 521, 523, 525, 527, 529, 531, 533, 535].filterMap (fun i => lw_tbl[i]?) by decide +kernel] at hw
  obtain ⟨i, -, hi⟩ := List.mem_filterMap.mp hw
  exact List.mem_of_getElem? hi
theorem zin4 : Cond.instantiable (cR 4) (cN 4) ∈ lw_tbl := List.mem_of_getElem? (i := 332) (by decide +kernel)
theorem zit4 : Cond.initialized (cR 4) ∈ lw_tbl := List.mem_of_getElem? (i := 114) (by decide +kernel)
theorem zWc5 : ∀ w ∈ u_ws cR5 cT5 19, w ∈ lw_tbl := by
  intro w hw
  rw [show u_ws cR5 cT5 19 = [368, 370, 372, 374, 376, 378, 380, 382, 384, 386, 388, 390, 392, 394, 396, 398, 400, 402, 404].filterMap (fun i => lw_tbl[i]?) by decide +kernel] at hw
  obtain ⟨i, -, hi⟩ := List.mem_filterMap.mp hw
  exact List.mem_of_getElem? hi
theorem zin5 : Cond.instantiable (cR 5) (cN 5) ∈ lw_tbl := List.mem_of_getElem? (i := 344) (by decide +kernel)
theorem zit5 : Cond.initialized (cR 5) ∈ lw_tbl := List.mem_of_getElem? (i := 116) (by decide +kernel)
theorem zWc6 : ∀ w ∈ u_ws cR6 cT6 15, w ∈ lw_tbl := by
  intro w hw
  rw [show u_ws cR6 cT6 15 = [195, 197, 199, 201, 203, 205, 207, 209, 211, 213, 215, 217, 219, 221, 223].filterMap (fun i => lw_tbl[i]?) by decide +kernel] at hw
  obtain ⟨i, -, hi⟩ := List.mem_filterMap.mp hw
  exact List.mem_of_getElem? hi
theorem zin6 : Cond.instantiable (cR 6) (cN 6) ∈ lw_tbl := List.mem_of_getElem? (i := 137) (by decide +kernel)
theorem zit6 : Cond.initialized (cR 6) ∈ lw_tbl := List.mem_of_getElem? (i := 108) (by decide +kernel)
theorem zWc7 : ∀ w ∈ u_ws cR7 cT7 6, w ∈ lw_tbl := by
  intro w hw
  rw [show u_ws cR7 cT7 6 = [266, 268, 270, 272, 274, 276].filterMap (fun i => lw_tbl[i]?) by decide +kernel] at hw
  obtain ⟨i, -, hi⟩ := List.mem_filterMap.mp hw
  exact List.mem_of_getElem? hi
theorem zin7 : Cond.instantiable (cR 7) (cN 7) ∈ lw_tbl := List.mem_of_getElem? (i := 255) (by decide +kernel)
theorem zit7 : Cond.initialized (cR 7) ∈ lw_tbl := List.mem_of_getElem? (i := 110) (by decide +kernel)
theorem zWc8 : ∀ w ∈ u_ws cR8 cT8 12, w ∈ lw_tbl := by
  intro w hw
  rw [show u_ws cR8 cT8 12 = [448, 450, 452, 454, 456, 458, 460, 462, 464, 466, 468, 470].filterMap (fun i => lw_tbl[i]?) by decide +kernel] at hw
  obtain ⟨i, -, hi⟩ := List.mem_filterMap.mp hw
  exact List.mem_of_getElem? hi
theorem zin8 : Cond.instantiable (cR 8) (cN 8) ∈ lw_tbl := List.mem_of_getElem? (i := 409) (by decide +kernel)
theorem zit8 : Cond.initialized (cR 8) ∈ lw_tbl := List.mem_of_getElem? (i := 117) (by decide +kernel)
theorem zWc9 : ∀ w ∈ u_ws cR9 cT9 6, w ∈ lw_tbl := by
  intro w hw
  rw [show u_ws cR9 cT9 6 = [318, 320, 322, 324, 326, 328].filterMap (fun i => lw_tbl[i]?) by decide +kernel] at hw
  obtain ⟨i, -, hi⟩ := List.mem_filterMap.mp hw
  exact List.mem_of_getElem? hi
theorem zin9 : Cond.instantiable (cR 9) (cN 9) ∈ lw_tbl := List.mem_of_getElem? (i := 296) (by decide +kernel)
theorem zit9 : Cond.initialized (cR 9) ∈ lw_tbl := List.mem_of_getElem? (i := 112) (by decide +kernel)
theorem zWc10 : ∀ w ∈ u_ws cR10 cT10 6, w ∈ lw_tbl := by
  intro w hw
  rw [show u_ws cR10 cT10 6 = [585, 587, 589, 591, 593, 595].filterMap (fun i => lw_tbl[i]?) by decide +kernel] at hw
  obtain ⟨i, -, hi⟩ := List.mem_filterMap.mp hw
  exact List.mem_of_getElem? hi
theorem zin10 : Cond.instantiable (cR 10) (cN 10) ∈ lw_tbl := List.mem_of_getElem? (i := 570) (by decide +kernel)
theorem zit10 : Cond.initialized (cR 10) ∈ lw_tbl := List.mem_of_getElem? (i := 119) (by decide +kernel)
theorem zWc11 : ∀ w ∈ u_ws cR11 cT11 13, w ∈ lw_tbl := by
  intro w hw
  rw [show u_ws cR11 cT11 13 = [611, 613, 615, 617, 619, 621, 623, 625, 627, 629, 631, 633, 635].filterMap (fun i => lw_tbl[i]?) by decide +kernel] at hw
  obtain ⟨i, -, hi⟩ := List.mem_filterMap.mp hw
  exact List.mem_of_getElem? hi
theorem zin11 : Cond.instantiable (cR 11) (cN 11) ∈ lw_tbl := List.mem_of_getElem? (i := 129) (by decide +kernel)
theorem zit11 : Cond.initialized (cR 11) ∈ lw_tbl := List.mem_of_getElem? (i := 107) (by decide +kernel)
theorem zWc12 : ∀ w ∈ u_ws cR12 cT12 51, w ∈ lw_tbl := by
  intro w hw
  rw [show u_ws cR12 cT12 51 = [1658, 1660, 1662, 1664, 1666, 1668, 1670, 1672, 1674, 1676, 1678, 1680, 1682, 1684, 1686, 1688, 1690, 1692, 1694, 1696, 1698, 1700, 1702, 1704, 1706, 1708, 1710, 1712, 1714, 1716, 1718, 1720, 1722, 1724, 1726, 1728, 1730, 1732, 1734, 1736, 1738, 1740, 1742, 1744, 1746, 1748, 1750, 1752, 1754, 1756, 1758].filterMap (fun i => lw_tbl[i]?) by decide +kernel] at hw
  obtain ⟨i, -, hi⟩ := List.mem_filterMap.mp hw
  exact List.mem_of_getElem? hi
theorem zin12 : Cond.instantiable (cR 12) (cN 12) ∈ lw_tbl := List.mem_of_getElem? (i := 1602) (by decide +kernel)
theorem zit12 : Cond.initialized (cR 12) ∈ lw_tbl := List.mem_of_getElem? (i := 120) (by decide +kernel)
theorem zWcl : ∀ c, c < 13 → ∀ w ∈ u_ws (cR c) (cT c) (cN c), w ∈ lw_tbl := by
  intro c hc
  match c, hc with
  | 0, _ => exact zWc0
  | 1, _ => exact zWc1
  | 2, _ => exact zWc2
  | 3, _ => exact zWc3
  | 4, _ => exact zWc4
  | 5, _ => exact zWc5
  | 6, _ => exact zWc6
  | 7, _ => exact zWc7
  | 8, _ => exact zWc8
  | 9, _ => exact zWc9
  | 10, _ => exact zWc10
  | 11, _ => exact zWc11
  | 12, _ => exact zWc12
theorem zinst : ∀ c, c < 13 → Cond.instantiable (cR c) (cN c) ∈ lw_tbl := by
  intro c hc
  match c, hc with
  | 0, _ => exact zin0
  | 1, _ => exact zin1
  | 2, _ => exact zin2
  | 3, _ => exact zin3
  | 4, _ => exact zin4
  | 5, _ => exact zin5
  | 6, _ => exact zin6
  | 7, _ => exact zin7
  | 8, _ => exact zin8
  | 9, _ => exact zin9
  | 10, _ => exact zin10
  | 11, _ => exact zin11
  | 12, _ => exact zin12
theorem zinit : ∀ c, c < 13 → Cond.initialized (cR c) ∈ lw_tbl := by
  intro c hc
  match c, hc with
  | 0, _ => exact zit0
  | 1, _ => exact zit1
  | 2, _ => exact zit2
  | 3, _ => exact zit3
  | 4, _ => exact zit4
  | 5, _ => exact zit5
  | 6, _ => exact zit6
  | 7, _ => exact zit7
  | 8, _ => exact zit8
  | 9, _ => exact zit9
  | 10, _ => exact zit10
  | 11, _ => exact zit11
  | 12, _ => exact zit12
theorem zfd : ∀ c, c < 13 → ∀ j, j < cN c → cY c j ≠ .float ∧ cY c j ≠ .double := by decide +kernel
theorem zoi1 : Cond.instanceMethod objectInit ∈ lw_tbl := List.mem_of_getElem? (i := 134) (by decide +kernel)
theorem zoi2 : Cond.code objectInit ⟨#[0xb1]⟩ 1 none ∈ lw_tbl := List.mem_of_getElem? (i := 135) (by decide +kernel)
theorem zac1 : Cond.native arraycopyName ∈ lw_tbl := List.mem_of_getElem? (i := 678) (by decide +kernel)
theorem zac2 : Cond.static arraycopyName ∈ lw_tbl := List.mem_of_getElem? (i := 677) (by decide +kernel)
theorem zac3 : Cond.initialized "java/lang/System" ∈ lw_tbl := List.mem_of_getElem? (i := 122) (by decide +kernel)
theorem zcl1 : Cond.sameMethod "[I" "java/lang/Object" "clone" "()Ljava/lang/Object;" ∈ lw_tbl := List.mem_of_getElem? (i := 145) (by decide +kernel)
theorem zcl2 : Cond.native ⟨"java/lang/Object", "clone", "()Ljava/lang/Object;"⟩ ∈ lw_tbl := List.mem_of_getElem? (i := 146) (by decide +kernel)
theorem zcl3 : Cond.instanceMethod ⟨"java/lang/Object", "clone", "()Ljava/lang/Object;"⟩ ∈ lw_tbl := List.mem_of_getElem? (i := 147) (by decide +kernel)
theorem zcl4 : Cond.selects "[I" ⟨"[I", "clone", "()Ljava/lang/Object;"⟩ ⟨"java/lang/Object", "clone", "()Ljava/lang/Object;"⟩ ∈ lw_tbl := List.mem_of_getElem? (i := 148) (by decide +kernel)
theorem zcl5 : Cond.castable "[I" "java/lang/Cloneable" ∈ lw_tbl := List.mem_of_getElem? (i := 149) (by decide +kernel)
theorem zar_int : Cond.arrayClass (newarray.typeOf .int) ∈ lw_tbl := List.mem_of_getElem? (i := 226) (by decide +kernel)
theorem zar_byte : Cond.arrayClass (newarray.typeOf .byte) ∈ lw_tbl := List.mem_of_getElem? (i := 228) (by decide +kernel)
theorem zar_boolean : Cond.arrayClass (newarray.typeOf .boolean) ∈ lw_tbl := List.mem_of_getElem? (i := 227) (by decide +kernel)
theorem zar_long : Cond.arrayClass (newarray.typeOf .long) ∈ lw_tbl := List.mem_of_getElem? (i := 1761) (by decide +kernel)
/-- a method's words -/
def zmB (m : gMI) : Bool :=
  decide (m.2.2.2.2.2.1 < 999999) && decide (lw_tbl[m.2.2.2.2.2.2.2.2.1]? = some (Cond.initialized m.1.cls)) && decide (m.1.cls ≠ "java/lang/invoke/MethodHandle" ∧ m.1.cls ≠ "java/lang/invoke/VarHandle") && decide (m.2.2.1 ≤ 45) && plainFor m.1 &&
  (if m.2.2.2.2.2.2.2.1 = 100000 then decide (lw_tbl[m.2.2.2.2.2.2.1]? = some (Cond.static m.1)) && decide ((parseMethodDescriptor m.1.desc).map (fun d => d.parameters.length) = some m.2.2.2.2.1)
   else decide (lw_tbl[m.2.2.2.2.2.2.1]? = some (Cond.instanceMethod m.1)) && decide (1 ≤ m.2.2.2.2.1) && decide ((parseMethodDescriptor m.1.desc).map (fun d => d.parameters.length) = some (m.2.2.2.2.1 - 1)) &&
    (if m.2.2.2.2.2.2.2.1 = 100001 then decide (m.1.name = "<init>") && decide (m.2.2.2.1 = none) else decide (lw_tbl[m.2.2.2.2.2.2.2.1]? = some (Cond.selects m.1.cls m.1 m.1)))) &&
  (if m.2.2.2.2.2.2.2.2.2.1 < 13 then decide (m.1.cls = cR m.2.2.2.2.2.2.2.2.2.1) else if m.2.2.2.2.2.2.2.2.2.1 = 30 then decide (m.1.cls = "java/lang/String") else true)
theorem zcode {y : Nat} (h : (mt y).2.2.2.2.2.1 < 999999) (h0 : (mt y).2.2.1 ≠ 0 ∨ (mt y).2.2.2.2.2.1 ≠ 0) : Cond.code (mt y).1 (mt y).2.1 (mt y).2.2.1 (mt y).2.2.2.1 ∈ lw_tbl := by
  unfold mt at *
  cases he : mN[y]? with
  | none => rw [he] at h0; exact absurd h0 (by simp [mD])
  | some e =>
    simp only [he] at h h0 ⊢
    unfold mOf at *
    by_cases h9 : e.1 = 999999
    · rw [if_pos h9] at h
      exact absurd h (by show ¬ e.1 < 999999; omega)
    · rw [if_neg h9] at h h0 ⊢
      cases hw : lw_tbl[e.1]? with
      | none => (try rw [hw] at h0); exact absurd h0 (by simp [mD])
      | some w =>
        try rw [hw] at h0
        cases w with
        | code n c m r => exact List.mem_of_getElem? hw
        | _ => exact absurd h0 (by simp [mD])
