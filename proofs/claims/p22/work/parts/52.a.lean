theorem lin8 : (-8 : Int32).toInt = (-8) := by decide
/-! ===== the tape's signs ===== -/
theorem zbv (x : BitVec 32) (s : Nat) (hs : s ≤ 24) : (x.sshiftRight s).signExtend 8 = (x >>> s).signExtend 8 := by
  rw [BitVec.signExtend_eq_setWidth_of_le _ (by decide), BitVec.signExtend_eq_setWidth_of_le _ (by decide)]
  apply BitVec.eq_of_getLsbD_eq
  intro i hi
  have h1 : s + i < 32 := by omega
  have h2 : ¬ 32 ≤ i := by omega
  rw [BitVec.getLsbD_setWidth, BitVec.getLsbD_setWidth, BitVec.getLsbD_sshiftRight, BitVec.getLsbD_ushiftRight, if_pos h1]
  simp [h2]
theorem zbn (x : Int32) : vp_nar .byte (x.toInt8.toInt32) = vp_nar .byte x := by
  show x.toInt8.toInt32.toInt8.toInt32 = x.toInt8.toInt32
  rw [Int8.toInt8_toInt32]
/-- a byte of a word -/
def zby (w s : Int32) : Int32 := vp_nar .byte ((w.toUInt32 >>> (s.toUInt32 &&& Int32.toUInt32 31)).toInt32)
theorem zbyE {w : Int32} : vp_nar .byte (w >>> ((24 : Int32) &&& 31)) = zby w 24 ∧ vp_nar .byte (w >>> ((16 : Int32) &&& 31)) = zby w 16 ∧ vp_nar .byte (w >>> ((8 : Int32) &&& 31)) = zby w 8 ∧ vp_nar .byte (w >>> ((0 : Int32) &&& 31)) = zby w 0 := by
  have h : ∀ (a b : Int32), a.toBitVec.signExtend 8 = b.toBitVec.signExtend 8 → vp_nar .byte a = vp_nar .byte b := by
    intro a b q
    show a.toInt8.toInt32 = b.toInt8.toInt32
    rw [Int8.toBitVec_inj.mp (show a.toInt8.toBitVec = b.toInt8.toBitVec from q)]
  refine ⟨h _ _ ?_, h _ _ ?_, h _ _ ?_, h _ _ ?_⟩
  · exact zbv w.toBitVec 24 (by decide)
  · exact zbv w.toBitVec 16 (by decide)
  · exact zbv w.toBitVec 8 (by decide)
  · exact zbv w.toBitVec 0 (by decide)
/-- a word stands behind the first n signs -/
def zWd (f f' : Nat → Int32) (n : Nat) (w : Int32) : Prop := (∀ j, (j < n ∨ n + 4 ≤ j) → f' j = f j) ∧ f' n = zby w 24 ∧ f' (n + 1) = zby w 16 ∧ f' (n + 2) = zby w 8 ∧ f' (n + 3) = zby w 0
/-- five words -/
def zFd5 (f f' : Nat → Int32) (n : Nat) (a b c d e : Int32) : Prop := ∃ f1 f2 f3 f4 : Nat → Int32, zWd f f1 n a ∧ zWd f1 f2 (n + 4) b ∧ zWd f2 f3 (n + 8) c ∧ zWd f3 f4 (n + 12) d ∧ zWd f4 f' (n + 16) e
theorem zWd.eq {f f' g g' : Nat → Int32} {n : Nat} {w : Int32} (h : zWd f f' n w) (h' : zWd g g' n w) (e : ∀ j, j < n → f j = g j) : ∀ j, j < n + 4 → f' j = g' j := by
  intro j hj
  obtain ⟨h0, h1, h2, h3, h4⟩ := h
  obtain ⟨k0, k1, k2, k3, k4⟩ := h'
  by_cases q : j < n
  · rw [h0 j (Or.inl q), k0 j (Or.inl q)]
    exact e j q
  · by_cases q1 : j = n
    · rw [q1, h1, k1]
    · by_cases q2 : j = n + 1
      · rw [q2, h2, k2]
      · by_cases q3 : j = n + 2
        · rw [q3, h3, k3]
        · rw [show j = n + 3 by omega, h4, k4]
theorem zFd5.eq {f f' g g' : Nat → Int32} {n : Nat} {a b c d e : Int32} (h : zFd5 f f' n a b c d e) (h' : zFd5 g g' n a b c d e) (q : ∀ j, j < n → f j = g j) : ∀ j, j < n + 20 → f' j = g' j := by
  obtain ⟨f1, f2, f3, f4, x1, x2, x3, x4, x5⟩ := h
  obtain ⟨g1, g2, g3, g4, y1, y2, y3, y4, y5⟩ := h'
  exact x5.eq y5 (x4.eq y4 (x3.eq y3 (x2.eq y2 (x1.eq y1 q))))
theorem F16 {X : zX} {l : Launch} {M : zM} {Q : Option Value → zM → Prop} {a : Int32} (hs : zSk zMc M) (hI : zIv cLo cHi M) (u0 : (zI M 155 1).toInt ≤ 496) (hQ : ∀ M', zSk zMc M' → zIv cLo cHi M' → zFr [(155, 155, some 1), (156, 156, none)] M M' → ((zI M' 155 1).toInt = (zI M 155 1).toInt + 4) → (∀ n : Nat, (zI M 155 1).toInt = (n : Int) → zWd (zI M 156) (zI M' 156) n a) → Q none M') : zCall X l 0 0 0 16 [.ref 155, .int a] M Q := by
  have ga := zrg a
  refine zs_in (by decide) mf16 (Nat.le_of_ble_eq_true rfl) ?_
  show zGo X l 0 0 0 16 0 [(0, .ref 155), (1, .int a)] [] M _
  refine zs_bipush (pc := 0) t16_0 (v := 24) (by decide) ?_
  refine zs_istore_n (pc := 2) t16_2 (ls' := [(2, .int (24 : Int32)), (0, .ref 155), (1, .int a)]) (zml mf16 (by decide)) rfl ?_
  refine zs_iload_n (pc := 3) t16_3 rfl ?_
  refine zs_if_ltF (pc := 4) t16_4 li24 (by decide) ?_
  refine zs_aload_n (pc := 7) t16_7 rfl ?_
  have w1 := ib155_1 hI
  refine zs_get (pc := 8) t16_8 (by decide) (zk1 (hs.k fk_zMc_155)) (zfvi rfl rfl) ?_
  refine zs_sipush (pc := 11) t16_11 (v := 500) (by decide) ?_
  refine zs_icmp_geF (pc := 14) t16_14 rfl li500 (by omega) ?_
  refine zs_aload_n (pc := 17) t16_17 rfl ?_
  refine zs_get (pc := 18) t16_18 (by decide) (zk1 (hs.k fk_zMc_155)) (hs.p rfl fv_zMc_155_0) ?_
  refine zs_aload_n (pc := 21) t16_21 rfl ?_
  refine zs_get (pc := 22) t16_22 (by decide) (zk1 (hs.k fk_zMc_155)) (zfvi rfl rfl) ?_
  refine zs_iload_n (pc := 25) t16_25 rfl ?_
  refine zs_iload_n (pc := 26) t16_26 rfl ?_
  obtain ⟨w2v, w2⟩ : ∃ v, (a.toUInt32 >>> ((24 : Int32).toUInt32 &&& Int32.toUInt32 31)).toInt32 = v := ⟨_, rfl⟩
  have w2g := zrg w2v
  refine zs_iushr (pc := 27) t16_27 (c := w2v) w2 ?_
  obtain ⟨w3v, w3e⟩ : ∃ v, w2v.toInt8.toInt32 = v := ⟨_, rfl⟩
  have w3 : (-128) ≤ w3v.toInt ∧ w3v.toInt ≤ 127 := by rw [← w3e]; exact znb _
  refine zs_i2b (pc := 28) t16_28 (c := w3v) w3e ?_
  obtain ⟨w4n, w4⟩ : ∃ n : Nat, (zI M 155 1).toInt = (n : Int) := ⟨((zI M 155 1).toInt).toNat, by omega⟩
  obtain ⟨w5v, w5e⟩ : ∃ v, vp_nar .byte w3v = v := ⟨_, rfl⟩
  have w5 : -128 ≤ w5v.toInt ∧ w5v.toInt ≤ 127 := by rw [← w5e]; exact znb _
  have w6 : zIv cLo cHi (zsI M 156 w4n w5v) := zIv.put hI (show (-128) ≤ w5v.toInt ∧ w5v.toInt ≤ 127 from ⟨by omega, by omega⟩)
  refine zs_bastB (pc := 29) t16_29 (j := w4n) (by decide) (zk1 (hs.k fk_zMc_156)) (show (zI M 155 1).toInt = ((w4n : Nat) : Int) by omega) (zk2 (hs.k fk_zMc_156) (by omega)) w5e ?_
  refine zs_aload_n (pc := 30) t16_30 rfl ?_
  refine zs_dup (pc := 31) t16_31 rfl ?_
  refine zs_get (pc := 32) t16_32 (by decide) (zk1 (hs.k fk_zMc_155)) (zfvi rfl ((zIo (by decide)).trans rfl)) ?_
  refine zs_iconst (pc := 35) t16_35 (v := 1) (by decide) ?_
  obtain ⟨w7v, w7e, w7⟩ := ziadd (a := (zI M 155 1)) (b := (1 : Int32)) rfl li1 (by omega) (by omega)
  refine zs_iadd (pc := 36) t16_36 (c := w7v) w7e ?_
  have w8 : zIv cLo cHi (zsI (zsI M 156 w4n w5v) 155 1 w7v) := zIv.put w6 (show 0 ≤ w7v.toInt ∧ w7v.toInt ≤ 500 from ⟨by omega, by omega⟩)
  refine zs_putI (pc := 37) t16_37 (zk1 (hs.k fk_zMc_155)) rfl ?_
  refine zs_iinc (pc := 40) t16_40 (ls' := [(2, .int (16 : Int32)), (0, .ref 155), (1, .int a)]) (zml mf16 (by decide)) rfl (c := 16) (by decide) rfl ?_
  refine zs_goto (pc := 43) t16_43 ?_
  refine zs_iload_n (pc := 3) t16_3 rfl ?_
  refine zs_if_ltF (pc := 4) t16_4 li16 (by decide) ?_
  refine zs_aload_n (pc := 7) t16_7 rfl ?_
  refine zs_get (pc := 8) t16_8 (by decide) (zk1 (hs.k fk_zMc_155)) (zfvi rfl zIs) ?_
  refine zs_sipush (pc := 11) t16_11 (v := 500) (by decide) ?_
  refine zs_icmp_geF (pc := 14) t16_14 w7 li500 (by omega) ?_
  refine zs_aload_n (pc := 17) t16_17 rfl ?_
  refine zs_get (pc := 18) t16_18 (by decide) (zk1 (hs.k fk_zMc_155)) (hs.p rfl fv_zMc_155_0) ?_
  refine zs_aload_n (pc := 21) t16_21 rfl ?_
  refine zs_get (pc := 22) t16_22 (by decide) (zk1 (hs.k fk_zMc_155)) (zfvi rfl zIs) ?_
  refine zs_iload_n (pc := 25) t16_25 rfl ?_
  refine zs_iload_n (pc := 26) t16_26 rfl ?_
  obtain ⟨w9v, w9⟩ : ∃ v, (a.toUInt32 >>> ((16 : Int32).toUInt32 &&& Int32.toUInt32 31)).toInt32 = v := ⟨_, rfl⟩
  have w9g := zrg w9v
  refine zs_iushr (pc := 27) t16_27 (c := w9v) w9 ?_
  obtain ⟨w10v, w10e⟩ : ∃ v, w9v.toInt8.toInt32 = v := ⟨_, rfl⟩
  have w10 : (-128) ≤ w10v.toInt ∧ w10v.toInt ≤ 127 := by rw [← w10e]; exact znb _
  refine zs_i2b (pc := 28) t16_28 (c := w10v) w10e ?_
  obtain ⟨w11v, w11e⟩ : ∃ v, vp_nar .byte w10v = v := ⟨_, rfl⟩
  have w11 : -128 ≤ w11v.toInt ∧ w11v.toInt ≤ 127 := by rw [← w11e]; exact znb _
  have w12 : zIv cLo cHi (zsI (zsI (zsI M 156 w4n w5v) 155 1 w7v) 156 (1 + w4n) w11v) := zIv.put w8 (show (-128) ≤ w11v.toInt ∧ w11v.toInt ≤ 127 from ⟨by omega, by omega⟩)
  refine zs_bastB (pc := 29) t16_29 (j := (1 + w4n)) (by decide) (zk1 (hs.k fk_zMc_156)) (show w7v.toInt = (((1 + w4n) : Nat) : Int) by omega) (zk2 (hs.k fk_zMc_156) (by omega)) w11e ?_
  refine zs_aload_n (pc := 30) t16_30 rfl ?_
  refine zs_dup (pc := 31) t16_31 rfl ?_
  refine zs_get (pc := 32) t16_32 (by decide) (zk1 (hs.k fk_zMc_155)) (zfvi rfl ((zIo (by decide)).trans zIs)) ?_
  refine zs_iconst (pc := 35) t16_35 (v := 1) (by decide) ?_
  obtain ⟨w13v, w13e, w13⟩ := ziadd (a := w7v) (b := (1 : Int32)) w7 li1 (by omega) (by omega)
  refine zs_iadd (pc := 36) t16_36 (c := w13v) w13e ?_
  have w14 : zIv cLo cHi (zsI (zsI (zsI (zsI M 156 w4n w5v) 155 1 w7v) 156 (1 + w4n) w11v) 155 1 w13v) := zIv.put w12 (show 0 ≤ w13v.toInt ∧ w13v.toInt ≤ 500 from ⟨by omega, by omega⟩)
  refine zs_putI (pc := 37) t16_37 (zk1 (hs.k fk_zMc_155)) rfl ?_
  refine zs_iinc (pc := 40) t16_40 (ls' := [(2, .int (8 : Int32)), (0, .ref 155), (1, .int a)]) (zml mf16 (by decide)) rfl (c := 8) (by decide) rfl ?_
  refine zs_goto (pc := 43) t16_43 ?_
  refine zs_iload_n (pc := 3) t16_3 rfl ?_
  refine zs_if_ltF (pc := 4) t16_4 li8 (by decide) ?_
  refine zs_aload_n (pc := 7) t16_7 rfl ?_
  refine zs_get (pc := 8) t16_8 (by decide) (zk1 (hs.k fk_zMc_155)) (zfvi rfl zIs) ?_
  refine zs_sipush (pc := 11) t16_11 (v := 500) (by decide) ?_
  refine zs_icmp_geF (pc := 14) t16_14 w13 li500 (by omega) ?_
  refine zs_aload_n (pc := 17) t16_17 rfl ?_
  refine zs_get (pc := 18) t16_18 (by decide) (zk1 (hs.k fk_zMc_155)) (hs.p rfl fv_zMc_155_0) ?_
  refine zs_aload_n (pc := 21) t16_21 rfl ?_
  refine zs_get (pc := 22) t16_22 (by decide) (zk1 (hs.k fk_zMc_155)) (zfvi rfl zIs) ?_
  refine zs_iload_n (pc := 25) t16_25 rfl ?_
  refine zs_iload_n (pc := 26) t16_26 rfl ?_
  obtain ⟨w15v, w15⟩ : ∃ v, (a.toUInt32 >>> ((8 : Int32).toUInt32 &&& Int32.toUInt32 31)).toInt32 = v := ⟨_, rfl⟩
  have w15g := zrg w15v
  refine zs_iushr (pc := 27) t16_27 (c := w15v) w15 ?_
  obtain ⟨w16v, w16e⟩ : ∃ v, w15v.toInt8.toInt32 = v := ⟨_, rfl⟩
  have w16 : (-128) ≤ w16v.toInt ∧ w16v.toInt ≤ 127 := by rw [← w16e]; exact znb _
  refine zs_i2b (pc := 28) t16_28 (c := w16v) w16e ?_
  obtain ⟨w17v, w17e⟩ : ∃ v, vp_nar .byte w16v = v := ⟨_, rfl⟩
  have w17 : -128 ≤ w17v.toInt ∧ w17v.toInt ≤ 127 := by rw [← w17e]; exact znb _
  have w18 : zIv cLo cHi (zsI (zsI (zsI (zsI (zsI M 156 w4n w5v) 155 1 w7v) 156 (1 + w4n) w11v) 155 1 w13v) 156 (2 + w4n) w17v) := zIv.put w14 (show (-128) ≤ w17v.toInt ∧ w17v.toInt ≤ 127 from ⟨by omega, by omega⟩)
  refine zs_bastB (pc := 29) t16_29 (j := (2 + w4n)) (by decide) (zk1 (hs.k fk_zMc_156)) (show w13v.toInt = (((2 + w4n) : Nat) : Int) by omega) (zk2 (hs.k fk_zMc_156) (by omega)) w17e ?_
  refine zs_aload_n (pc := 30) t16_30 rfl ?_
  refine zs_dup (pc := 31) t16_31 rfl ?_
  refine zs_get (pc := 32) t16_32 (by decide) (zk1 (hs.k fk_zMc_155)) (zfvi rfl ((zIo (by decide)).trans zIs)) ?_
  refine zs_iconst (pc := 35) t16_35 (v := 1) (by decide) ?_
  obtain ⟨w19v, w19e, w19⟩ := ziadd (a := w13v) (b := (1 : Int32)) w13 li1 (by omega) (by omega)
  refine zs_iadd (pc := 36) t16_36 (c := w19v) w19e ?_
  have w20 : zIv cLo cHi (zsI (zsI (zsI (zsI (zsI (zsI M 156 w4n w5v) 155 1 w7v) 156 (1 + w4n) w11v) 155 1 w13v) 156 (2 + w4n) w17v) 155 1 w19v) := zIv.put w18 (show 0 ≤ w19v.toInt ∧ w19v.toInt ≤ 500 from ⟨by omega, by omega⟩)
  refine zs_putI (pc := 37) t16_37 (zk1 (hs.k fk_zMc_155)) rfl ?_
  refine zs_iinc (pc := 40) t16_40 (ls' := [(2, .int (0 : Int32)), (0, .ref 155), (1, .int a)]) (zml mf16 (by decide)) rfl (c := 0) (by decide) rfl ?_
  refine zs_goto (pc := 43) t16_43 ?_
  refine zs_iload_n (pc := 3) t16_3 rfl ?_
  refine zs_if_ltF (pc := 4) t16_4 li0 (by decide) ?_
  refine zs_aload_n (pc := 7) t16_7 rfl ?_
  refine zs_get (pc := 8) t16_8 (by decide) (zk1 (hs.k fk_zMc_155)) (zfvi rfl zIs) ?_
  refine zs_sipush (pc := 11) t16_11 (v := 500) (by decide) ?_
  refine zs_icmp_geF (pc := 14) t16_14 w19 li500 (by omega) ?_
  refine zs_aload_n (pc := 17) t16_17 rfl ?_
  refine zs_get (pc := 18) t16_18 (by decide) (zk1 (hs.k fk_zMc_155)) (hs.p rfl fv_zMc_155_0) ?_
  refine zs_aload_n (pc := 21) t16_21 rfl ?_
  refine zs_get (pc := 22) t16_22 (by decide) (zk1 (hs.k fk_zMc_155)) (zfvi rfl zIs) ?_
  refine zs_iload_n (pc := 25) t16_25 rfl ?_
  refine zs_iload_n (pc := 26) t16_26 rfl ?_
  obtain ⟨w21v, w21⟩ : ∃ v, (a.toUInt32 >>> ((0 : Int32).toUInt32 &&& Int32.toUInt32 31)).toInt32 = v := ⟨_, rfl⟩
  have w21g := zrg w21v
  refine zs_iushr (pc := 27) t16_27 (c := w21v) w21 ?_
  obtain ⟨w22v, w22e⟩ : ∃ v, w21v.toInt8.toInt32 = v := ⟨_, rfl⟩
  have w22 : (-128) ≤ w22v.toInt ∧ w22v.toInt ≤ 127 := by rw [← w22e]; exact znb _
  refine zs_i2b (pc := 28) t16_28 (c := w22v) w22e ?_
  obtain ⟨w23v, w23e⟩ : ∃ v, vp_nar .byte w22v = v := ⟨_, rfl⟩
  have w23 : -128 ≤ w23v.toInt ∧ w23v.toInt ≤ 127 := by rw [← w23e]; exact znb _
  have w24 : zIv cLo cHi (zsI (zsI (zsI (zsI (zsI (zsI (zsI M 156 w4n w5v) 155 1 w7v) 156 (1 + w4n) w11v) 155 1 w13v) 156 (2 + w4n) w17v) 155 1 w19v) 156 (3 + w4n) w23v) := zIv.put w20 (show (-128) ≤ w23v.toInt ∧ w23v.toInt ≤ 127 from ⟨by omega, by omega⟩)
  refine zs_bastB (pc := 29) t16_29 (j := (3 + w4n)) (by decide) (zk1 (hs.k fk_zMc_156)) (show w19v.toInt = (((3 + w4n) : Nat) : Int) by omega) (zk2 (hs.k fk_zMc_156) (by omega)) w23e ?_
  refine zs_aload_n (pc := 30) t16_30 rfl ?_
  refine zs_dup (pc := 31) t16_31 rfl ?_
  refine zs_get (pc := 32) t16_32 (by decide) (zk1 (hs.k fk_zMc_155)) (zfvi rfl ((zIo (by decide)).trans zIs)) ?_
  refine zs_iconst (pc := 35) t16_35 (v := 1) (by decide) ?_
  obtain ⟨w25v, w25e, w25⟩ := ziadd (a := w19v) (b := (1 : Int32)) w19 li1 (by omega) (by omega)
  refine zs_iadd (pc := 36) t16_36 (c := w25v) w25e ?_
  have w26 : zIv cLo cHi (zsI (zsI (zsI (zsI (zsI (zsI (zsI (zsI M 156 w4n w5v) 155 1 w7v) 156 (1 + w4n) w11v) 155 1 w13v) 156 (2 + w4n) w17v) 155 1 w19v) 156 (3 + w4n) w23v) 155 1 w25v) := zIv.put w24 (show 0 ≤ w25v.toInt ∧ w25v.toInt ≤ 500 from ⟨by omega, by omega⟩)
  refine zs_putI (pc := 37) t16_37 (zk1 (hs.k fk_zMc_155)) rfl ?_
  refine zs_iinc (pc := 40) t16_40 (ls' := [(2, .int (-8 : Int32)), (0, .ref 155), (1, .int a)]) (zml mf16 (by decide)) rfl (c := -8) (by decide) rfl ?_
  refine zs_goto (pc := 43) t16_43 ?_
  refine zs_iload_n (pc := 3) t16_3 rfl ?_
  refine zs_if_ltT (pc := 4) t16_4 lin8 (by decide) ?_
  have w27 : (zI (zsI (zsI (zsI (zsI (zsI (zsI (zsI (zsI M 156 w4n w5v) 155 1 w7v) 156 (1 + w4n) w11v) 155 1 w13v) 156 (2 + w4n) w17v) 155 1 w19v) 156 (3 + w4n) w23v) 155 1 w25v) 155 1).toInt = (((((zI M 155 1).toInt + 1) + 1) + 1) + 1) := (congrArg Int32.toInt zIs).trans w25
  have w28 : ∀ n : Nat, (zI M 155 1).toInt = (n : Int) → zWd (zI M 156) (zI (zsI (zsI (zsI (zsI (zsI (zsI (zsI (zsI M 156 w4n w5v) 155 1 w7v) 156 (1 + w4n) w11v) 155 1 w13v) 156 (2 + w4n) w17v) 155 1 w19v) 156 (3 + w4n) w23v) 155 1 w25v) 156) n a := by
    intro n hn
    have e : n = w4n := by omega
    rw [e]
    refine ⟨fun j hj => ?_, ?_, ?_, ?_, ?_⟩
    · exact ((zIo (by decide)).trans ((zIoj (by omega)).trans ((zIo (by decide)).trans ((zIoj (by omega)).trans ((zIo (by decide)).trans ((zIoj (by omega)).trans ((zIo (by decide)).trans ((zIoj (by omega)).trans rfl))))))))
    · exact (((zIo (by decide)).trans ((zIoj (by omega)).trans ((zIo (by decide)).trans ((zIoj (by omega)).trans ((zIo (by decide)).trans ((zIoj (by omega)).trans ((zIo (by decide)).trans zIs)))))))).trans (by rw [← w5e, ← w3e, ← w2]; exact (zbn _).trans rfl)
    · rw [show w4n + 1 = 1 + w4n by omega]; exact (((zIo (by decide)).trans ((zIoj (by omega)).trans ((zIo (by decide)).trans ((zIoj (by omega)).trans ((zIo (by decide)).trans zIs)))))).trans (by rw [← w11e, ← w10e, ← w9]; exact (zbn _).trans rfl)
    · rw [show w4n + 2 = 2 + w4n by omega]; exact (((zIo (by decide)).trans ((zIoj (by omega)).trans ((zIo (by decide)).trans zIs)))).trans (by rw [← w17e, ← w16e, ← w15]; exact (zbn _).trans rfl)
    · rw [show w4n + 3 = 3 + w4n by omega]; exact (((zIo (by decide)).trans zIs)).trans (by rw [← w23e, ← w22e, ← w21]; exact (zbn _).trans rfl)
  exact zs_vret (pc := 46) t16_46 mr16 (hQ _ hs w26 (((((((((zFr.refl).put rfl).put rfl).put rfl).put rfl).put rfl).put rfl).put rfl).put rfl) (by omega) w28)
theorem F232 {X : zX} {l : Launch} {M : zM} {Q : Option Value → zM → Prop} {a : Int32} (hs : zSk zMm M) (hI : zIv mLo mHi M) (u0 : (zI M 336 5).toInt ≤ 496) (hQ : ∀ M', zSk zMm M' → zIv mLo mHi M' → zFr [(336, 336, some 5), (339, 339, none)] M M' → zJ M' 351 = zJ M 351 → ((zI M' 336 5).toInt = (zI M 336 5).toInt + 4) → (∀ n : Nat, (zI M 336 5).toInt = (n : Int) → zWd (zI M 339) (zI M' 339) n a) → Q none M') : zCall X l 0 0 0 232 [.ref 336, .int a] M Q := by
  have ga := zrg a
  refine zs_in (by decide) mf232 (Nat.le_of_ble_eq_true rfl) ?_
  show zGo X l 0 0 0 232 0 [(0, .ref 336), (1, .int a)] [] M _
  refine zs_bipush (pc := 0) t232_0 (v := 24) (by decide) ?_
  refine zs_istore_n (pc := 2) t232_2 (ls' := [(2, .int (24 : Int32)), (0, .ref 336), (1, .int a)]) (zml mf232 (by decide)) rfl ?_
  refine zs_iload_n (pc := 3) t232_3 rfl ?_
  refine zs_if_ltF (pc := 4) t232_4 li24 (by decide) ?_
  refine zs_aload_n (pc := 7) t232_7 rfl ?_
  refine zs_get (pc := 8) t232_8 (by decide) (zk1 (hs.k fk_zMm_336)) (hs.p rfl fv_zMm_336_4) ?_
  refine zs_aload_n (pc := 11) t232_11 rfl ?_
  have w1 := ib336_5 hI
  refine zs_get (pc := 12) t232_12 (by decide) (zk1 (hs.k fk_zMm_336)) (zfvi rfl rfl) ?_
  refine zs_iload_n (pc := 15) t232_15 rfl ?_
  refine zs_iload_n (pc := 16) t232_16 rfl ?_
  obtain ⟨w2v, w2⟩ : ∃ v, a >>> ((24 : Int32) &&& 31) = v := ⟨_, rfl⟩
  have w2g := zrg w2v
  refine zs_ishr (pc := 17) t232_17 (c := w2v) w2 ?_
  obtain ⟨w3v, w3e⟩ : ∃ v, w2v.toInt8.toInt32 = v := ⟨_, rfl⟩
  have w3 : (-128) ≤ w3v.toInt ∧ w3v.toInt ≤ 127 := by rw [← w3e]; exact znb _
  refine zs_i2b (pc := 18) t232_18 (c := w3v) w3e ?_
  obtain ⟨w4n, w4⟩ : ∃ n : Nat, (zI M 336 5).toInt = (n : Int) := ⟨((zI M 336 5).toInt).toNat, by omega⟩
  obtain ⟨w5v, w5e⟩ : ∃ v, vp_nar .byte w3v = v := ⟨_, rfl⟩
  have w5 : -128 ≤ w5v.toInt ∧ w5v.toInt ≤ 127 := by rw [← w5e]; exact znb _
  have w6 : zIv mLo mHi (zsI M 339 w4n w5v) := zIv.put hI (show (-128) ≤ w5v.toInt ∧ w5v.toInt ≤ 127 from ⟨by omega, by omega⟩)
  refine zs_bastB (pc := 19) t232_19 (j := w4n) (by decide) (zk1 (hs.k fk_zMm_339)) (show (zI M 336 5).toInt = ((w4n : Nat) : Int) by omega) (zk2 (hs.k fk_zMm_339) (by omega)) w5e ?_
  refine zs_aload_n (pc := 20) t232_20 rfl ?_
  refine zs_dup (pc := 21) t232_21 rfl ?_
  refine zs_get (pc := 22) t232_22 (by decide) (zk1 (hs.k fk_zMm_336)) (zfvi rfl ((zIo (by decide)).trans rfl)) ?_
  refine zs_iconst (pc := 25) t232_25 (v := 1) (by decide) ?_
  obtain ⟨w7v, w7e, w7⟩ := ziadd (a := (zI M 336 5)) (b := (1 : Int32)) rfl li1 (by omega) (by omega)
  refine zs_iadd (pc := 26) t232_26 (c := w7v) w7e ?_
  have w8 : zIv mLo mHi (zsI (zsI M 339 w4n w5v) 336 5 w7v) := zIv.put w6 (show 0 ≤ w7v.toInt ∧ w7v.toInt ≤ 500 from ⟨by omega, by omega⟩)
  refine zs_putI (pc := 27) t232_27 (zk1 (hs.k fk_zMm_336)) rfl ?_
  refine zs_iinc (pc := 30) t232_30 (ls' := [(2, .int (16 : Int32)), (0, .ref 336), (1, .int a)]) (zml mf232 (by decide)) rfl (c := 16) (by decide) rfl ?_
  refine zs_goto (pc := 33) t232_33 ?_
  refine zs_iload_n (pc := 3) t232_3 rfl ?_
  refine zs_if_ltF (pc := 4) t232_4 li16 (by decide) ?_
  refine zs_aload_n (pc := 7) t232_7 rfl ?_
  refine zs_get (pc := 8) t232_8 (by decide) (zk1 (hs.k fk_zMm_336)) (hs.p rfl fv_zMm_336_4) ?_
  refine zs_aload_n (pc := 11) t232_11 rfl ?_
  refine zs_get (pc := 12) t232_12 (by decide) (zk1 (hs.k fk_zMm_336)) (zfvi rfl zIs) ?_
  refine zs_iload_n (pc := 15) t232_15 rfl ?_
  refine zs_iload_n (pc := 16) t232_16 rfl ?_
  obtain ⟨w9v, w9⟩ : ∃ v, a >>> ((16 : Int32) &&& 31) = v := ⟨_, rfl⟩
  have w9g := zrg w9v
  refine zs_ishr (pc := 17) t232_17 (c := w9v) w9 ?_
  obtain ⟨w10v, w10e⟩ : ∃ v, w9v.toInt8.toInt32 = v := ⟨_, rfl⟩
  have w10 : (-128) ≤ w10v.toInt ∧ w10v.toInt ≤ 127 := by rw [← w10e]; exact znb _
  refine zs_i2b (pc := 18) t232_18 (c := w10v) w10e ?_
  obtain ⟨w11v, w11e⟩ : ∃ v, vp_nar .byte w10v = v := ⟨_, rfl⟩
  have w11 : -128 ≤ w11v.toInt ∧ w11v.toInt ≤ 127 := by rw [← w11e]; exact znb _
  have w12 : zIv mLo mHi (zsI (zsI (zsI M 339 w4n w5v) 336 5 w7v) 339 (1 + w4n) w11v) := zIv.put w8 (show (-128) ≤ w11v.toInt ∧ w11v.toInt ≤ 127 from ⟨by omega, by omega⟩)
  refine zs_bastB (pc := 19) t232_19 (j := (1 + w4n)) (by decide) (zk1 (hs.k fk_zMm_339)) (show w7v.toInt = (((1 + w4n) : Nat) : Int) by omega) (zk2 (hs.k fk_zMm_339) (by omega)) w11e ?_
  refine zs_aload_n (pc := 20) t232_20 rfl ?_
  refine zs_dup (pc := 21) t232_21 rfl ?_
  refine zs_get (pc := 22) t232_22 (by decide) (zk1 (hs.k fk_zMm_336)) (zfvi rfl ((zIo (by decide)).trans zIs)) ?_
  refine zs_iconst (pc := 25) t232_25 (v := 1) (by decide) ?_
  obtain ⟨w13v, w13e, w13⟩ := ziadd (a := w7v) (b := (1 : Int32)) w7 li1 (by omega) (by omega)
  refine zs_iadd (pc := 26) t232_26 (c := w13v) w13e ?_
  have w14 : zIv mLo mHi (zsI (zsI (zsI (zsI M 339 w4n w5v) 336 5 w7v) 339 (1 + w4n) w11v) 336 5 w13v) := zIv.put w12 (show 0 ≤ w13v.toInt ∧ w13v.toInt ≤ 500 from ⟨by omega, by omega⟩)
  refine zs_putI (pc := 27) t232_27 (zk1 (hs.k fk_zMm_336)) rfl ?_
  refine zs_iinc (pc := 30) t232_30 (ls' := [(2, .int (8 : Int32)), (0, .ref 336), (1, .int a)]) (zml mf232 (by decide)) rfl (c := 8) (by decide) rfl ?_
  refine zs_goto (pc := 33) t232_33 ?_
  refine zs_iload_n (pc := 3) t232_3 rfl ?_
  refine zs_if_ltF (pc := 4) t232_4 li8 (by decide) ?_
  refine zs_aload_n (pc := 7) t232_7 rfl ?_
  refine zs_get (pc := 8) t232_8 (by decide) (zk1 (hs.k fk_zMm_336)) (hs.p rfl fv_zMm_336_4) ?_
  refine zs_aload_n (pc := 11) t232_11 rfl ?_
  refine zs_get (pc := 12) t232_12 (by decide) (zk1 (hs.k fk_zMm_336)) (zfvi rfl zIs) ?_
  refine zs_iload_n (pc := 15) t232_15 rfl ?_
  refine zs_iload_n (pc := 16) t232_16 rfl ?_
  obtain ⟨w15v, w15⟩ : ∃ v, a >>> ((8 : Int32) &&& 31) = v := ⟨_, rfl⟩
  have w15g := zrg w15v
  refine zs_ishr (pc := 17) t232_17 (c := w15v) w15 ?_
  obtain ⟨w16v, w16e⟩ : ∃ v, w15v.toInt8.toInt32 = v := ⟨_, rfl⟩
  have w16 : (-128) ≤ w16v.toInt ∧ w16v.toInt ≤ 127 := by rw [← w16e]; exact znb _
  refine zs_i2b (pc := 18) t232_18 (c := w16v) w16e ?_
  obtain ⟨w17v, w17e⟩ : ∃ v, vp_nar .byte w16v = v := ⟨_, rfl⟩
  have w17 : -128 ≤ w17v.toInt ∧ w17v.toInt ≤ 127 := by rw [← w17e]; exact znb _
  have w18 : zIv mLo mHi (zsI (zsI (zsI (zsI (zsI M 339 w4n w5v) 336 5 w7v) 339 (1 + w4n) w11v) 336 5 w13v) 339 (2 + w4n) w17v) := zIv.put w14 (show (-128) ≤ w17v.toInt ∧ w17v.toInt ≤ 127 from ⟨by omega, by omega⟩)
  refine zs_bastB (pc := 19) t232_19 (j := (2 + w4n)) (by decide) (zk1 (hs.k fk_zMm_339)) (show w13v.toInt = (((2 + w4n) : Nat) : Int) by omega) (zk2 (hs.k fk_zMm_339) (by omega)) w17e ?_
  refine zs_aload_n (pc := 20) t232_20 rfl ?_
  refine zs_dup (pc := 21) t232_21 rfl ?_
  refine zs_get (pc := 22) t232_22 (by decide) (zk1 (hs.k fk_zMm_336)) (zfvi rfl ((zIo (by decide)).trans zIs)) ?_
  refine zs_iconst (pc := 25) t232_25 (v := 1) (by decide) ?_
  obtain ⟨w19v, w19e, w19⟩ := ziadd (a := w13v) (b := (1 : Int32)) w13 li1 (by omega) (by omega)
  refine zs_iadd (pc := 26) t232_26 (c := w19v) w19e ?_
  have w20 : zIv mLo mHi (zsI (zsI (zsI (zsI (zsI (zsI M 339 w4n w5v) 336 5 w7v) 339 (1 + w4n) w11v) 336 5 w13v) 339 (2 + w4n) w17v) 336 5 w19v) := zIv.put w18 (show 0 ≤ w19v.toInt ∧ w19v.toInt ≤ 500 from ⟨by omega, by omega⟩)
  refine zs_putI (pc := 27) t232_27 (zk1 (hs.k fk_zMm_336)) rfl ?_
  refine zs_iinc (pc := 30) t232_30 (ls' := [(2, .int (0 : Int32)), (0, .ref 336), (1, .int a)]) (zml mf232 (by decide)) rfl (c := 0) (by decide) rfl ?_
  refine zs_goto (pc := 33) t232_33 ?_
  refine zs_iload_n (pc := 3) t232_3 rfl ?_
  refine zs_if_ltF (pc := 4) t232_4 li0 (by decide) ?_
  refine zs_aload_n (pc := 7) t232_7 rfl ?_
  refine zs_get (pc := 8) t232_8 (by decide) (zk1 (hs.k fk_zMm_336)) (hs.p rfl fv_zMm_336_4) ?_
  refine zs_aload_n (pc := 11) t232_11 rfl ?_
  refine zs_get (pc := 12) t232_12 (by decide) (zk1 (hs.k fk_zMm_336)) (zfvi rfl zIs) ?_
  refine zs_iload_n (pc := 15) t232_15 rfl ?_
  refine zs_iload_n (pc := 16) t232_16 rfl ?_
  obtain ⟨w21v, w21⟩ : ∃ v, a >>> ((0 : Int32) &&& 31) = v := ⟨_, rfl⟩
  have w21g := zrg w21v
  refine zs_ishr (pc := 17) t232_17 (c := w21v) w21 ?_
  obtain ⟨w22v, w22e⟩ : ∃ v, w21v.toInt8.toInt32 = v := ⟨_, rfl⟩
  have w22 : (-128) ≤ w22v.toInt ∧ w22v.toInt ≤ 127 := by rw [← w22e]; exact znb _
  refine zs_i2b (pc := 18) t232_18 (c := w22v) w22e ?_
  obtain ⟨w23v, w23e⟩ : ∃ v, vp_nar .byte w22v = v := ⟨_, rfl⟩
  have w23 : -128 ≤ w23v.toInt ∧ w23v.toInt ≤ 127 := by rw [← w23e]; exact znb _
  have w24 : zIv mLo mHi (zsI (zsI (zsI (zsI (zsI (zsI (zsI M 339 w4n w5v) 336 5 w7v) 339 (1 + w4n) w11v) 336 5 w13v) 339 (2 + w4n) w17v) 336 5 w19v) 339 (3 + w4n) w23v) := zIv.put w20 (show (-128) ≤ w23v.toInt ∧ w23v.toInt ≤ 127 from ⟨by omega, by omega⟩)
  refine zs_bastB (pc := 19) t232_19 (j := (3 + w4n)) (by decide) (zk1 (hs.k fk_zMm_339)) (show w19v.toInt = (((3 + w4n) : Nat) : Int) by omega) (zk2 (hs.k fk_zMm_339) (by omega)) w23e ?_
  refine zs_aload_n (pc := 20) t232_20 rfl ?_
  refine zs_dup (pc := 21) t232_21 rfl ?_
  refine zs_get (pc := 22) t232_22 (by decide) (zk1 (hs.k fk_zMm_336)) (zfvi rfl ((zIo (by decide)).trans zIs)) ?_
  refine zs_iconst (pc := 25) t232_25 (v := 1) (by decide) ?_
  obtain ⟨w25v, w25e, w25⟩ := ziadd (a := w19v) (b := (1 : Int32)) w19 li1 (by omega) (by omega)
  refine zs_iadd (pc := 26) t232_26 (c := w25v) w25e ?_
  have w26 : zIv mLo mHi (zsI (zsI (zsI (zsI (zsI (zsI (zsI (zsI M 339 w4n w5v) 336 5 w7v) 339 (1 + w4n) w11v) 336 5 w13v) 339 (2 + w4n) w17v) 336 5 w19v) 339 (3 + w4n) w23v) 336 5 w25v) := zIv.put w24 (show 0 ≤ w25v.toInt ∧ w25v.toInt ≤ 500 from ⟨by omega, by omega⟩)
  refine zs_putI (pc := 27) t232_27 (zk1 (hs.k fk_zMm_336)) rfl ?_
  refine zs_iinc (pc := 30) t232_30 (ls' := [(2, .int (-8 : Int32)), (0, .ref 336), (1, .int a)]) (zml mf232 (by decide)) rfl (c := -8) (by decide) rfl ?_
  refine zs_goto (pc := 33) t232_33 ?_
  refine zs_iload_n (pc := 3) t232_3 rfl ?_
  refine zs_if_ltT (pc := 4) t232_4 lin8 (by decide) ?_
  have w27 : (zI (zsI (zsI (zsI (zsI (zsI (zsI (zsI (zsI M 339 w4n w5v) 336 5 w7v) 339 (1 + w4n) w11v) 336 5 w13v) 339 (2 + w4n) w17v) 336 5 w19v) 339 (3 + w4n) w23v) 336 5 w25v) 336 5).toInt = (((((zI M 336 5).toInt + 1) + 1) + 1) + 1) := (congrArg Int32.toInt zIs).trans w25
  have w28 : ∀ n : Nat, (zI M 336 5).toInt = (n : Int) → zWd (zI M 339) (zI (zsI (zsI (zsI (zsI (zsI (zsI (zsI (zsI M 339 w4n w5v) 336 5 w7v) 339 (1 + w4n) w11v) 336 5 w13v) 339 (2 + w4n) w17v) 336 5 w19v) 339 (3 + w4n) w23v) 336 5 w25v) 339) n a := by
    intro n hn
    have e : n = w4n := by omega
    rw [e]
    refine ⟨fun j hj => ?_, ?_, ?_, ?_, ?_⟩
    · exact ((zIo (by decide)).trans ((zIoj (by omega)).trans ((zIo (by decide)).trans ((zIoj (by omega)).trans ((zIo (by decide)).trans ((zIoj (by omega)).trans ((zIo (by decide)).trans ((zIoj (by omega)).trans rfl))))))))
    · exact (((zIo (by decide)).trans ((zIoj (by omega)).trans ((zIo (by decide)).trans ((zIoj (by omega)).trans ((zIo (by decide)).trans ((zIoj (by omega)).trans ((zIo (by decide)).trans zIs)))))))).trans (by rw [← w5e, ← w3e, ← w2]; exact (zbn _).trans zbyE.1)
    · rw [show w4n + 1 = 1 + w4n by omega]; exact (((zIo (by decide)).trans ((zIoj (by omega)).trans ((zIo (by decide)).trans ((zIoj (by omega)).trans ((zIo (by decide)).trans zIs)))))).trans (by rw [← w11e, ← w10e, ← w9]; exact (zbn _).trans zbyE.2.1)
    · rw [show w4n + 2 = 2 + w4n by omega]; exact (((zIo (by decide)).trans ((zIoj (by omega)).trans ((zIo (by decide)).trans zIs)))).trans (by rw [← w17e, ← w16e, ← w15]; exact (zbn _).trans zbyE.2.2.1)
    · rw [show w4n + 3 = 3 + w4n by omega]; exact (((zIo (by decide)).trans zIs)).trans (by rw [← w23e, ← w22e, ← w21]; exact (zbn _).trans zbyE.2.2.2)
  exact zs_vret (pc := 36) t232_36 mr232 (hQ _ hs w26 (((((((((zFr.refl).put rfl).put rfl).put rfl).put rfl).put rfl).put rfl).put rfl).put rfl) rfl (by omega) w28)
theorem F14 {X : zX} {l : Launch} {M : zM} {Q : Option Value → zM → Prop} {a b c d e : Int32} (hs : zSk zMc M) (hI : zIv cLo cHi M) (hQ : ∀ (M' : zM) (v : Int32), zSk zMc M' → zIv cLo cHi M' → zFr [(155, 155, some 1), (156, 156, none)] M M' → ((v.toInt = -1 ∧ (zI M' 155 1).toInt = (zI M 155 1).toInt ∧ 480 < (zI M 155 1).toInt) ∨ (v.toInt = (zI M' 155 1).toInt ∧ (zI M' 155 1).toInt = (zI M 155 1).toInt + 20 ∧ (zI M 155 1).toInt ≤ 480)) → ((v.toInt = -1 ∧ zI M' 156 = zI M 156) ∨ (v.toInt ≠ -1 ∧ ∀ n : Nat, (zI M 155 1).toInt = (n : Int) → zFd5 (zI M 156) (zI M' 156) n a b c d e)) → Q (some (.int v)) M') : zCall X l 1 0 0 14 [.ref 6, .int a, .int b, .int c, .int d, .int e] M Q := by
  have ga := zrg a
  have gb := zrg b
  have gc := zrg c
  have gd := zrg d
  have ge := zrg e
  refine zs_in (by decide) mf14 (Nat.le_of_ble_eq_true rfl) ?_
  show zGo X l 1 0 0 14 0 [(0, .ref 6), (1, .int a), (2, .int b), (3, .int c), (4, .int d), (5, .int e)] [] M _
  refine zs_aload_n (pc := 0) t14_0 rfl ?_
  refine zs_get (pc := 1) t14_1 (by decide) (zk1 (hs.k fk_zMc_6)) (hs.p rfl fv_zMc_6_3) ?_
  refine zs_bipush (pc := 4) t14_4 (v := 20) (by decide) ?_
  refine zs_invV (pc := 6) (k := 155) (as' := [.int (20 : Int32)]) (st := []) t14_6 mf15 rfl rfl (Or.inl ⟨by decide, (zk1 (hs.k fk_zMc_155))⟩) ⟨by decide, by decide, Nat.le_of_ble_eq_true rfl, Nat.le_of_ble_eq_true rfl⟩ (zs_in (by decide) mf15 (Nat.le_of_ble_eq_true rfl) ?_) (fun _ _ q => q)
  show zGo X l 0 0 0 15 0 [(0, .ref 155), (1, .int (20 : Int32))] [] M _
  refine zs_aload_n (pc := 0) t15_0 rfl ?_
  have w1 := ib155_1 hI
  refine zs_get (pc := 1) t15_1 (by decide) (zk1 (hs.k fk_zMc_155)) (zfvi rfl rfl) ?_
  refine zs_iload_n (pc := 4) t15_4 rfl ?_
  obtain ⟨w2v, w2e, w2⟩ := ziadd (a := (zI M 155 1)) (b := (20 : Int32)) rfl li20 (by omega) (by omega)
  refine zs_iadd (pc := 5) t15_5 (c := w2v) w2e ?_
  refine zs_sipush (pc := 6) t15_6 (v := 500) (by decide) ?_
  by_cases w3 : 500 < ((zI M 155 1).toInt + 20)
  · refine zs_icmp_gtT (pc := 9) t15_9 w2 li500 (by omega) ?_
    refine zs_iconst (pc := 16) t15_16 (v := 0) (by decide) ?_
    refine zs_iret (pc := 17) t15_17 mr15 (by decide) ?_
    show zGo X l 1 0 0 14 9 [(0, .ref 6), (1, .int a), (2, .int b), (3, .int c), (4, .int d), (5, .int e)] [.int (0 : Int32)] M _
    refine zs_if_neF (pc := 9) t14_9 li0 (by decide) ?_
    refine zs_iconst (pc := 12) t14_12 (v := -1) (by decide) ?_
    have w4 : (zI M 155 1).toInt = (zI M 155 1).toInt := (congrArg Int32.toInt rfl).trans rfl
    have w5 := lin1
    exact zs_iret (pc := 13) t14_13 mr14 (by decide) (hQ _ _ hs hI (zFr.refl) (by omega) (Or.inl ⟨by decide, rfl⟩))
  · refine zs_icmp_gtF (pc := 9) t15_9 w2 li500 (by omega) ?_
    refine zs_iconst (pc := 12) t15_12 (v := 1) (by decide) ?_
    refine zs_goto (pc := 13) t15_13 ?_
    refine zs_iret (pc := 17) t15_17 mr15 (by decide) ?_
    show zGo X l 1 0 0 14 9 [(0, .ref 6), (1, .int a), (2, .int b), (3, .int c), (4, .int d), (5, .int e)] [.int (1 : Int32)] M _
    refine zs_if_neT (pc := 9) t14_9 li1 (by decide) ?_
    refine zs_aload_n (pc := 14) t14_14 rfl ?_
    refine zs_get (pc := 15) t14_15 (by decide) (zk1 (hs.k fk_zMc_6)) (hs.p rfl fv_zMc_6_3) ?_
    refine zs_iload_n (pc := 18) t14_18 rfl ?_
    have w6 : (zI M 155 1).toInt = (zI M 155 1).toInt := (congrArg Int32.toInt rfl).trans rfl
    have w7 : (zI M 155 1).toInt = (zI M 155 1).toInt := (congrArg Int32.toInt rfl).trans rfl
    refine zs_invV (pc := 19) (k := 155) (as' := [.int a]) (st := []) t14_19 mf16 rfl rfl (Or.inl ⟨by decide, (zk1 (hs.k fk_zMc_155))⟩) ⟨by decide, by decide, Nat.le_of_ble_eq_true rfl, Nat.le_of_ble_eq_true rfl⟩ (F16 hs hI (by omega) ?_) (fun _ _ q => q)
    intro w8M w8s w8I w8F w8t0 w8x0
    have w9 := ib155_1 w8I
    show zGo X l 1 0 0 14 22 [(0, .ref 6), (1, .int a), (2, .int b), (3, .int c), (4, .int d), (5, .int e)] [] w8M _
    refine zs_aload_n (pc := 22) t14_22 rfl ?_
    refine zs_get (pc := 23) t14_23 (by decide) (zk1 (w8s.k fk_zMc_6)) (w8s.p rfl fv_zMc_6_3) ?_
    refine zs_iload_n (pc := 26) t14_26 rfl ?_
    have w10 : (zI w8M 155 1).toInt = (zI w8M 155 1).toInt := (congrArg Int32.toInt rfl).trans rfl
    have w11 : (zI w8M 155 1).toInt = (zI w8M 155 1).toInt := (congrArg Int32.toInt rfl).trans rfl
    refine zs_invV (pc := 27) (k := 155) (as' := [.int b]) (st := []) t14_27 mf16 rfl rfl (Or.inl ⟨by decide, (zk1 (w8s.k fk_zMc_155))⟩) ⟨by decide, by decide, Nat.le_of_ble_eq_true rfl, Nat.le_of_ble_eq_true rfl⟩ (F16 w8s w8I (by omega) ?_) (fun _ _ q => q)
    intro w12M w12s w12I w12F w12t0 w12x0
    have w13 := ib155_1 w12I
    show zGo X l 1 0 0 14 30 [(0, .ref 6), (1, .int a), (2, .int b), (3, .int c), (4, .int d), (5, .int e)] [] w12M _
    refine zs_aload_n (pc := 30) t14_30 rfl ?_
    refine zs_get (pc := 31) t14_31 (by decide) (zk1 (w12s.k fk_zMc_6)) (w12s.p rfl fv_zMc_6_3) ?_
    refine zs_iload_n (pc := 34) t14_34 rfl ?_
    have w14 : (zI w12M 155 1).toInt = (zI w12M 155 1).toInt := (congrArg Int32.toInt rfl).trans rfl
    have w15 : (zI w12M 155 1).toInt = (zI w12M 155 1).toInt := (congrArg Int32.toInt rfl).trans rfl
    refine zs_invV (pc := 35) (k := 155) (as' := [.int c]) (st := []) t14_35 mf16 rfl rfl (Or.inl ⟨by decide, (zk1 (w12s.k fk_zMc_155))⟩) ⟨by decide, by decide, Nat.le_of_ble_eq_true rfl, Nat.le_of_ble_eq_true rfl⟩ (F16 w12s w12I (by omega) ?_) (fun _ _ q => q)
    intro w16M w16s w16I w16F w16t0 w16x0
    have w17 := ib155_1 w16I
    show zGo X l 1 0 0 14 38 [(0, .ref 6), (1, .int a), (2, .int b), (3, .int c), (4, .int d), (5, .int e)] [] w16M _
    refine zs_aload_n (pc := 38) t14_38 rfl ?_
    refine zs_get (pc := 39) t14_39 (by decide) (zk1 (w16s.k fk_zMc_6)) (w16s.p rfl fv_zMc_6_3) ?_
    refine zs_iload (pc := 42) t14_42 rfl ?_
    have w18 : (zI w16M 155 1).toInt = (zI w16M 155 1).toInt := (congrArg Int32.toInt rfl).trans rfl
    have w19 : (zI w16M 155 1).toInt = (zI w16M 155 1).toInt := (congrArg Int32.toInt rfl).trans rfl
    refine zs_invV (pc := 44) (k := 155) (as' := [.int d]) (st := []) t14_44 mf16 rfl rfl (Or.inl ⟨by decide, (zk1 (w16s.k fk_zMc_155))⟩) ⟨by decide, by decide, Nat.le_of_ble_eq_true rfl, Nat.le_of_ble_eq_true rfl⟩ (F16 w16s w16I (by omega) ?_) (fun _ _ q => q)
    intro w20M w20s w20I w20F w20t0 w20x0
    have w21 := ib155_1 w20I
    show zGo X l 1 0 0 14 47 [(0, .ref 6), (1, .int a), (2, .int b), (3, .int c), (4, .int d), (5, .int e)] [] w20M _
    refine zs_aload_n (pc := 47) t14_47 rfl ?_
    refine zs_get (pc := 48) t14_48 (by decide) (zk1 (w20s.k fk_zMc_6)) (w20s.p rfl fv_zMc_6_3) ?_
    refine zs_iload (pc := 51) t14_51 rfl ?_
    have w22 : (zI w20M 155 1).toInt = (zI w20M 155 1).toInt := (congrArg Int32.toInt rfl).trans rfl
    have w23 : (zI w20M 155 1).toInt = (zI w20M 155 1).toInt := (congrArg Int32.toInt rfl).trans rfl
    refine zs_invV (pc := 53) (k := 155) (as' := [.int e]) (st := []) t14_53 mf16 rfl rfl (Or.inl ⟨by decide, (zk1 (w20s.k fk_zMc_155))⟩) ⟨by decide, by decide, Nat.le_of_ble_eq_true rfl, Nat.le_of_ble_eq_true rfl⟩ (F16 w20s w20I (by omega) ?_) (fun _ _ q => q)
    intro w24M w24s w24I w24F w24t0 w24x0
    have w25 := ib155_1 w24I
    show zGo X l 1 0 0 14 56 [(0, .ref 6), (1, .int a), (2, .int b), (3, .int c), (4, .int d), (5, .int e)] [] w24M _
    refine zs_aload_n (pc := 56) t14_56 rfl ?_
    refine zs_get (pc := 57) t14_57 (by decide) (zk1 (w24s.k fk_zMc_6)) (w24s.p rfl fv_zMc_6_3) ?_
    refine zs_invV (pc := 60) (k := 155) (as' := []) (st := []) t14_60 mf17 rfl rfl (Or.inl ⟨by decide, (zk1 (w24s.k fk_zMc_155))⟩) ⟨by decide, by decide, Nat.le_of_ble_eq_true rfl, Nat.le_of_ble_eq_true rfl⟩ (zs_in (by decide) mf17 (Nat.le_of_ble_eq_true rfl) ?_) (fun _ _ q => q)
    show zGo X l 0 0 0 17 0 [(0, .ref 155)] [] w24M _
    refine zs_aload_n (pc := 0) t17_0 rfl ?_
    refine zs_get (pc := 1) t17_1 (by decide) (zk1 (w24s.k fk_zMc_155)) (zfvi rfl rfl) ?_
    refine zs_iret (pc := 4) t17_4 mr17 rfl ?_
    show zGo X l 1 0 0 14 63 [(0, .ref 6), (1, .int a), (2, .int b), (3, .int c), (4, .int d), (5, .int e)] [.int (zI w24M 155 1)] w24M _
    have w26 : (zI w24M 155 1).toInt = (zI w24M 155 1).toInt := (congrArg Int32.toInt rfl).trans rfl
    obtain ⟨w27n, w27⟩ : ∃ n : Nat, (zI M 155 1).toInt = (n : Int) := ⟨((zI M 155 1).toInt).toNat, by omega⟩
    have w28 : (zI w8M 155 1).toInt = (zI w8M 155 1).toInt := (congrArg Int32.toInt rfl).trans rfl
    have w29 : (zI w12M 155 1).toInt = (zI w12M 155 1).toInt := (congrArg Int32.toInt rfl).trans rfl
    have w30 : (zI w16M 155 1).toInt = (zI w16M 155 1).toInt := (congrArg Int32.toInt rfl).trans rfl
    have w31 : (zI w20M 155 1).toInt = (zI w20M 155 1).toInt := (congrArg Int32.toInt rfl).trans rfl
    have w32 : (zI w24M 155 1).toInt = (zI w24M 155 1).toInt := (congrArg Int32.toInt rfl).trans rfl
    have w33 : zFd5 (zI M 156) (zI w24M 156) w27n a b c d e := ⟨_, _, _, _, w8x0 w27n (by omega), w12x0 (w27n + 4) (by omega), w16x0 (w27n + 8) (by omega), w20x0 (w27n + 12) (by omega), w24x0 (w27n + 16) (by omega)⟩
    exact zs_iret (pc := 63) t14_63 mr14 rfl (hQ _ _ w24s w24I ((((((zFr.refl).trans (w8F.mono rfl)).trans (w12F.mono rfl)).trans (w16F.mono rfl)).trans (w20F.mono rfl)).trans (w24F.mono rfl)) (by omega) (Or.inr ⟨by omega, fun n hn => by rw [show n = w27n by omega]; exact w33⟩))
theorem F231 {X : zX} {l : Launch} {M : zM} {Q : Option Value → zM → Prop} {a b c d e : Int32} (hs : zSk zMm M) (hI : zIv mLo mHi M) (hQ : ∀ (M' : zM) (v : Int32), zSk zMm M' → zIv mLo mHi M' → zFr [(336, 336, some 5), (339, 339, none)] M M' → zJ M' 351 = zJ M 351 → ((v.toInt = -1 ∧ (zI M' 336 5).toInt = (zI M 336 5).toInt ∧ 480 < (zI M 336 5).toInt) ∨ (v.toInt = (zI M' 336 5).toInt ∧ (zI M' 336 5).toInt = (zI M 336 5).toInt + 20 ∧ (zI M 336 5).toInt ≤ 480)) → ((v.toInt = -1 ∧ zI M' 339 = zI M 339) ∨ (v.toInt ≠ -1 ∧ ∀ n : Nat, (zI M 336 5).toInt = (n : Int) → zFd5 (zI M 339) (zI M' 339) n a b c d e)) → Q (some (.int v)) M') : zCall X l 1 0 0 231 [.ref 336, .int a, .int b, .int c, .int d, .int e] M Q := by
  have ga := zrg a
  have gb := zrg b
  have gc := zrg c
  have gd := zrg d
  have ge := zrg e
  refine zs_in (by decide) mf231 (Nat.le_of_ble_eq_true rfl) ?_
  show zGo X l 1 0 0 231 0 [(0, .ref 336), (1, .int a), (2, .int b), (3, .int c), (4, .int d), (5, .int e)] [] M _
  refine zs_aload_n (pc := 0) t231_0 rfl ?_
  have w1 := ib336_5 hI
  refine zs_get (pc := 1) t231_1 (by decide) (zk1 (hs.k fk_zMm_336)) (zfvi rfl rfl) ?_
  refine zs_bipush (pc := 4) t231_4 (v := 20) (by decide) ?_
  obtain ⟨w2v, w2e, w2⟩ := ziadd (a := (zI M 336 5)) (b := (20 : Int32)) rfl li20 (by omega) (by omega)
  refine zs_iadd (pc := 6) t231_6 (c := w2v) w2e ?_
  refine zs_sipush (pc := 7) t231_7 (v := 500) (by decide) ?_
  by_cases w3 : ((zI M 336 5).toInt + 20) ≤ 500
  · refine zs_icmp_leT (pc := 10) t231_10 w2 li500 (by omega) ?_
    refine zs_aload_n (pc := 15) t231_15 rfl ?_
    refine zs_iload_n (pc := 16) t231_16 rfl ?_
    have w4 : (zI M 336 5).toInt = (zI M 336 5).toInt := (congrArg Int32.toInt rfl).trans rfl
    have w5 : (zI M 336 5).toInt = (zI M 336 5).toInt := (congrArg Int32.toInt rfl).trans rfl
    refine zs_invV (pc := 17) (k := 336) (as' := [.int a]) (st := []) t231_17 mf232 rfl rfl (Or.inl ⟨by decide, (zk1 (hs.k fk_zMm_336))⟩) ⟨by decide, by decide, Nat.le_of_ble_eq_true rfl, Nat.le_of_ble_eq_true rfl⟩ (F232 hs hI (by omega) ?_) (fun _ _ q => q)
    intro w6M w6s w6I w6F w6J w6t0 w6x0
    have w7 := ib336_5 w6I
    show zGo X l 1 0 0 231 20 [(0, .ref 336), (1, .int a), (2, .int b), (3, .int c), (4, .int d), (5, .int e)] [] w6M _
    refine zs_aload_n (pc := 20) t231_20 rfl ?_
    refine zs_iload_n (pc := 21) t231_21 rfl ?_
    have w8 : (zI w6M 336 5).toInt = (zI w6M 336 5).toInt := (congrArg Int32.toInt rfl).trans rfl
    have w9 : (zI w6M 336 5).toInt = (zI w6M 336 5).toInt := (congrArg Int32.toInt rfl).trans rfl
    refine zs_invV (pc := 22) (k := 336) (as' := [.int b]) (st := []) t231_22 mf232 rfl rfl (Or.inl ⟨by decide, (zk1 (w6s.k fk_zMm_336))⟩) ⟨by decide, by decide, Nat.le_of_ble_eq_true rfl, Nat.le_of_ble_eq_true rfl⟩ (F232 w6s w6I (by omega) ?_) (fun _ _ q => q)
    intro w10M w10s w10I w10F w10J w10t0 w10x0
    have w11 := ib336_5 w10I
    show zGo X l 1 0 0 231 25 [(0, .ref 336), (1, .int a), (2, .int b), (3, .int c), (4, .int d), (5, .int e)] [] w10M _
    refine zs_aload_n (pc := 25) t231_25 rfl ?_
    refine zs_iload_n (pc := 26) t231_26 rfl ?_
    have w12 : (zI w10M 336 5).toInt = (zI w10M 336 5).toInt := (congrArg Int32.toInt rfl).trans rfl
    have w13 : (zI w10M 336 5).toInt = (zI w10M 336 5).toInt := (congrArg Int32.toInt rfl).trans rfl
    refine zs_invV (pc := 27) (k := 336) (as' := [.int c]) (st := []) t231_27 mf232 rfl rfl (Or.inl ⟨by decide, (zk1 (w10s.k fk_zMm_336))⟩) ⟨by decide, by decide, Nat.le_of_ble_eq_true rfl, Nat.le_of_ble_eq_true rfl⟩ (F232 w10s w10I (by omega) ?_) (fun _ _ q => q)
    intro w14M w14s w14I w14F w14J w14t0 w14x0
    have w15 := ib336_5 w14I
    show zGo X l 1 0 0 231 30 [(0, .ref 336), (1, .int a), (2, .int b), (3, .int c), (4, .int d), (5, .int e)] [] w14M _
    refine zs_aload_n (pc := 30) t231_30 rfl ?_
    refine zs_iload (pc := 31) t231_31 rfl ?_
    have w16 : (zI w14M 336 5).toInt = (zI w14M 336 5).toInt := (congrArg Int32.toInt rfl).trans rfl
    have w17 : (zI w14M 336 5).toInt = (zI w14M 336 5).toInt := (congrArg Int32.toInt rfl).trans rfl
    refine zs_invV (pc := 33) (k := 336) (as' := [.int d]) (st := []) t231_33 mf232 rfl rfl (Or.inl ⟨by decide, (zk1 (w14s.k fk_zMm_336))⟩) ⟨by decide, by decide, Nat.le_of_ble_eq_true rfl, Nat.le_of_ble_eq_true rfl⟩ (F232 w14s w14I (by omega) ?_) (fun _ _ q => q)
    intro w18M w18s w18I w18F w18J w18t0 w18x0
    have w19 := ib336_5 w18I
    show zGo X l 1 0 0 231 36 [(0, .ref 336), (1, .int a), (2, .int b), (3, .int c), (4, .int d), (5, .int e)] [] w18M _
    refine zs_aload_n (pc := 36) t231_36 rfl ?_
    refine zs_iload (pc := 37) t231_37 rfl ?_
    have w20 : (zI w18M 336 5).toInt = (zI w18M 336 5).toInt := (congrArg Int32.toInt rfl).trans rfl
    have w21 : (zI w18M 336 5).toInt = (zI w18M 336 5).toInt := (congrArg Int32.toInt rfl).trans rfl
    refine zs_invV (pc := 39) (k := 336) (as' := [.int e]) (st := []) t231_39 mf232 rfl rfl (Or.inl ⟨by decide, (zk1 (w18s.k fk_zMm_336))⟩) ⟨by decide, by decide, Nat.le_of_ble_eq_true rfl, Nat.le_of_ble_eq_true rfl⟩ (F232 w18s w18I (by omega) ?_) (fun _ _ q => q)
    intro w22M w22s w22I w22F w22J w22t0 w22x0
    have w23 := ib336_5 w22I
    show zGo X l 1 0 0 231 42 [(0, .ref 336), (1, .int a), (2, .int b), (3, .int c), (4, .int d), (5, .int e)] [] w22M _
    refine zs_aload_n (pc := 42) t231_42 rfl ?_
    refine zs_get (pc := 43) t231_43 (by decide) (zk1 (w22s.k fk_zMm_336)) (zfvi rfl rfl) ?_
    have w24 : (zI w22M 336 5).toInt = (zI w22M 336 5).toInt := (congrArg Int32.toInt rfl).trans rfl
    obtain ⟨w25n, w25⟩ : ∃ n : Nat, (zI M 336 5).toInt = (n : Int) := ⟨((zI M 336 5).toInt).toNat, by omega⟩
    have w26 : (zI w6M 336 5).toInt = (zI w6M 336 5).toInt := (congrArg Int32.toInt rfl).trans rfl
    have w27 : (zI w10M 336 5).toInt = (zI w10M 336 5).toInt := (congrArg Int32.toInt rfl).trans rfl
    have w28 : (zI w14M 336 5).toInt = (zI w14M 336 5).toInt := (congrArg Int32.toInt rfl).trans rfl
    have w29 : (zI w18M 336 5).toInt = (zI w18M 336 5).toInt := (congrArg Int32.toInt rfl).trans rfl
    have w30 : (zI w22M 336 5).toInt = (zI w22M 336 5).toInt := (congrArg Int32.toInt rfl).trans rfl
    have w31 : zFd5 (zI M 339) (zI w22M 339) w25n a b c d e := ⟨_, _, _, _, w6x0 w25n (by omega), w10x0 (w25n + 4) (by omega), w14x0 (w25n + 8) (by omega), w18x0 (w25n + 12) (by omega), w22x0 (w25n + 16) (by omega)⟩
    exact zs_iret (pc := 46) t231_46 mr231 rfl (hQ _ _ w22s w22I ((((((zFr.refl).trans (w6F.mono rfl)).trans (w10F.mono rfl)).trans (w14F.mono rfl)).trans (w18F.mono rfl)).trans (w22F.mono rfl)) (w22J.trans (w18J.trans (w14J.trans (w10J.trans w6J)))) (by omega) (Or.inr ⟨by omega, fun n hn => by rw [show n = w25n by omega]; exact w31⟩))
  · refine zs_icmp_leF (pc := 10) t231_10 w2 li500 (by omega) ?_
    refine zs_iconst (pc := 13) t231_13 (v := -1) (by decide) ?_
    have w32 : (zI M 336 5).toInt = (zI M 336 5).toInt := (congrArg Int32.toInt rfl).trans rfl
    have w33 := lin1
    exact zs_iret (pc := 14) t231_14 mr231 (by decide) (hQ _ _ hs hI (zFr.refl) rfl (by omega) (Or.inl ⟨by decide, rfl⟩))
