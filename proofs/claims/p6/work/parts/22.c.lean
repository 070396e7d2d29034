theorem C120_T257 {X : zX} {l : Launch} {M : zM} {Q : Option Value → zM → Prop} {a b c d : Int32} (hs : zSk zMc M) (hI : zIv cLo cHi M) {i0 : Nat} (hi0 : i0 < 20) (ha : (-3) ≤ a.toInt ∧ a.toInt ≤ 3) (hb : (-20) ≤ b.toInt ∧ b.toInt ≤ 20) (hQ : ∀ M', zSk zMc M' → zIv cLo cHi M' → zFr [(257, 316, none)] M M' → Q none M') : zCall X l 0 0 0 120 [.ref (257 + 3 * i0), .int a, .int b, .int c, .int d] M Q := by
  have ga := zrg a
  have gb := zrg b
  have gc := zrg c
  have gd := zrg d
  refine zs_in (by decide) mf120 (Nat.le_of_ble_eq_true rfl) ?_
  show zGo X l 0 0 0 120 0 [(0, .ref (257 + 3 * i0)), (1, .int a), (2, .int b), (3, .int c), (4, .int d)] [] M _
  refine zs_aload_n (pc := 0) t120_0 rfl ?_
  refine zs_iload_n (pc := 1) t120_1 rfl ?_
  have w1 : zIv cLo cHi (zsI M (257 + 3 * i0) 0 a) := zIv.put hI (by rw [(cT257_0_0 i0 hi0).1, (cT257_0_0 i0 hi0).2]; exact ⟨by omega, by omega⟩)
  refine zs_putI (pc := 2) t120_2 (zk1 (hs.k (fT257_0 i0 hi0))) rfl ?_
  refine zs_aload_n (pc := 5) t120_5 rfl ?_
  refine zs_iload_n (pc := 6) t120_6 rfl ?_
  have w2 : zIv cLo cHi (zsI (zsI M (257 + 3 * i0) 0 a) (257 + 3 * i0) 1 b) := zIv.put w1 (by rw [(cT257_0_1 i0 hi0).1, (cT257_0_1 i0 hi0).2]; exact ⟨by omega, by omega⟩)
  refine zs_putI (pc := 7) t120_7 (zk1 (hs.k (fT257_0 i0 hi0))) rfl ?_
  refine zs_aload_n (pc := 10) t120_10 rfl ?_
  refine zs_iload_n (pc := 11) t120_11 rfl ?_
  have w3 : zIv cLo cHi (zsI (zsI (zsI M (257 + 3 * i0) 0 a) (257 + 3 * i0) 1 b) (257 + 3 * i0) 2 c) := zIv.put w2 (by rw [(cT257_0_2 i0 hi0).1, (cT257_0_2 i0 hi0).2]; exact (zrg c))
  refine zs_putI (pc := 12) t120_12 (zk1 (hs.k (fT257_0 i0 hi0))) rfl ?_
  refine zs_aload_n (pc := 15) t120_15 rfl ?_
  refine zs_iload (pc := 16) t120_16 rfl ?_
  have w4 : zIv cLo cHi (zsI (zsI (zsI (zsI M (257 + 3 * i0) 0 a) (257 + 3 * i0) 1 b) (257 + 3 * i0) 2 c) (257 + 3 * i0) 3 d) := zIv.put w3 (by rw [(cT257_0_3 i0 hi0).1, (cT257_0_3 i0 hi0).2]; exact (zrg d))
  refine zs_putI (pc := 18) t120_18 (zk1 (hs.k (fT257_0 i0 hi0))) rfl ?_
  refine zs_iconst (pc := 21) t120_21 (v := 0) (by decide) ?_
  refine zs_istore (pc := 22) t120_22 (ls' := [(5, .int (0 : Int32)), (0, .ref (257 + 3 * i0)), (1, .int a), (2, .int b), (3, .int c), (4, .int d)]) (zml mf120 (by decide)) rfl ?_
  have w5L : ∀ (m : Nat) (w5x5 : Int32) (w5M : zM), (0 ≤ w5x5.toInt ∧ w5x5.toInt ≤ 8) → zSk zMc w5M → zIv cLo cHi w5M → zFr [(257, 316, none)] (zsI (zsI (zsI (zsI M (257 + 3 * i0) 0 a) (257 + 3 * i0) 1 b) (257 + 3 * i0) 2 c) (257 + 3 * i0) 3 d) w5M → 8 - w5x5.toInt ≤ (m : Int) → zGo X l 0 0 0 120 24 [(0, .ref (257 + 3 * i0)), (1, .int a), (2, .int b), (3, .int c), (4, .int d), (5, .int w5x5)] [] w5M Q := by
    intro m
    induction m using Nat.strongRecOn with
    | ind w5m w5ih =>
      intro w5x5 w5M w5b5 w5s w5I w5F w5q
      refine zs_iload (pc := 24) t120_24 rfl ?_
      refine zs_bipush (pc := 26) t120_26 (v := 8) (by decide) ?_
      by_cases w6 : 8 ≤ w5x5.toInt
      · refine zs_icmp_geT (pc := 28) t120_28 rfl li8 (by omega) ?_
        exact zs_vret (pc := 46) t120_46 mr120 (hQ _ w5s w5I ((((((zFr.refl).put (zinW_r (lo := 257) (hi := 316) (by decide) (by omega) (by omega))).put (zinW_r (lo := 257) (hi := 316) (by decide) (by omega) (by omega))).put (zinW_r (lo := 257) (hi := 316) (by decide) (by omega) (by omega))).put (zinW_r (lo := 257) (hi := 316) (by decide) (by omega) (by omega))).trans (w5F.mono rfl)))
      · refine zs_icmp_geF (pc := 28) t120_28 rfl li8 (by omega) ?_
        refine zs_aload_n (pc := 31) t120_31 rfl ?_
        refine zs_get (pc := 32) t120_32 (by decide) (zk1 (w5s.k (fT257_0 i0 hi0))) (w5s.p rfl (fvT257_6 i0 hi0)) ?_
        refine zs_iload (pc := 35) t120_35 rfl ?_
        refine zs_bipush (pc := 37) t120_37 (v := -2) (by decide) ?_
        obtain ⟨w7n, w7⟩ : ∃ n : Nat, w5x5.toInt = (n : Int) := ⟨w5x5.toInt.toNat, by omega⟩
        have w8 : zIv cLo cHi (zsI w5M (257 + 3 * i0 + 1) w7n (-2 : Int32)) := zIv.put w5I (by rw [(cT257_1 i0 hi0 w7n).1, (cT257_1 i0 hi0 w7n).2]; exact ⟨by decide, by decide⟩)
        refine zs_iast (pc := 39) t120_39 (j := w7n) (by omega) (zk1 (w5s.k (fT257_1 i0 hi0))) w7 (zk2 (w5s.k (fT257_1 i0 hi0)) (by omega)) ?_
        obtain ⟨w9v, w9e, w9⟩ := ziadd (a := w5x5) (b := Int32.ofInt 1) rfl (show (Int32.ofInt 1).toInt = 1 by decide) (by omega) (by omega)
        refine zs_iinc (pc := 40) t120_40 (ls' := [(5, .int w9v), (0, .ref (257 + 3 * i0)), (1, .int a), (2, .int b), (3, .int c), (4, .int d)]) (zml mf120 (by decide)) rfl (c := w9v) w9e rfl ?_
        refine zs_goto (pc := 43) t120_43 ?_
        refine zGo.locals (ls' := [(0, .ref (257 + 3 * i0)), (1, .int a), (2, .int b), (3, .int c), (4, .int d), (5, .int w9v)]) (by simp) ?_
        exact w5ih (w5m - 1) (by omega) w9v (zsI w5M (257 + 3 * i0 + 1) w7n (-2 : Int32)) ⟨by omega, by omega⟩ w5s w8 (((zFr.refl).trans (w5F.mono rfl)).put (zinW_r (lo := 257) (hi := 316) (by decide) (by omega) (by omega))) (by omega)
  refine zGo.locals (ls' := [(0, .ref (257 + 3 * i0)), (1, .int a), (2, .int b), (3, .int c), (4, .int d), (5, .int (0 : Int32))]) (by simp) ?_
  have w10 := li0
  exact w5L ((8 - 0 : Int).toNat) (0 : Int32) (zsI (zsI (zsI (zsI M (257 + 3 * i0) 0 a) (257 + 3 * i0) 1 b) (257 + 3 * i0) 2 c) (257 + 3 * i0) 3 d) ⟨by decide, by decide⟩ hs w4 zFr.refl (by omega)
theorem C121_242_T257 {X : zX} {l : Launch} {M : zM} {Q : Option Value → zM → Prop} (hs : zSk zMc M) (hI : zIv cLo cHi M) {i0 : Nat} (hi0 : i0 < 20) (hQ : ∀ M', zSk zMc M' → zIv cLo cHi M' → zFr [(257, 316, none)] M M' → Q none M') : zCall X l 1 0 0 121 [.ref 242, .ref (257 + 3 * i0)] M Q := by
  refine zs_in (by decide) mf121 (Nat.le_of_ble_eq_true rfl) ?_
  show zGo X l 1 0 0 121 0 [(0, .ref 242), (1, .ref (257 + 3 * i0))] [] M _
  refine zs_aload_n (pc := 0) t121_0 rfl ?_
  have w1 := ibT257_0_0 hI hi0
  refine zs_get (pc := 1) t121_1 (by decide) (zk1 (hs.k (fT257_0 i0 hi0))) (zfvi rfl rfl) ?_
  refine zs_iconst (pc := 4) t121_4 (v := 3) (by decide) ?_
  obtain ⟨w2v, w2e, w2⟩ := ziadd (a := (zI M (257 + 3 * i0) 0)) (b := (3 : Int32)) rfl li3 (by omega) (by omega)
  refine zs_iadd (pc := 5) t121_5 (c := w2v) w2e ?_
  refine zs_bipush (pc := 6) t121_6 (v := 8) (by decide) ?_
  obtain ⟨w3v, w3⟩ : ∃ v, w2v * (8 : Int32) = v := ⟨_, rfl⟩
  have w3g : w3v.toInt = ((zI M (257 + 3 * i0) 0).toInt + 3) * 8 := by rw [← w3]; exact zmulc w2 li8 (by omega) (by omega)
  refine zs_imul (pc := 8) t121_8 (c := w3v) w3 ?_
  refine zs_istore_n (pc := 9) t121_9 (ls' := [(2, .int w3v), (0, .ref 242), (1, .ref (257 + 3 * i0))]) (zml mf121 (by decide)) rfl ?_
  refine zs_aload_n (pc := 10) t121_10 rfl ?_
  have w4 := ibT257_0_1 hI hi0
  refine zs_get (pc := 11) t121_11 (by decide) (zk1 (hs.k (fT257_0 i0 hi0))) (zfvi rfl rfl) ?_
  refine zs_bipush (pc := 14) t121_14 (v := 20) (by decide) ?_
  obtain ⟨w5v, w5e, w5⟩ := ziadd (a := (zI M (257 + 3 * i0) 1)) (b := (20 : Int32)) rfl li20 (by omega) (by omega)
  refine zs_iadd (pc := 16) t121_16 (c := w5v) w5e ?_
  refine zs_bipush (pc := 17) t121_17 (v := 8) (by decide) ?_
  obtain ⟨w6v, w6⟩ : ∃ v, w5v * (8 : Int32) = v := ⟨_, rfl⟩
  have w6g : w6v.toInt = ((zI M (257 + 3 * i0) 1).toInt + 20) * 8 := by rw [← w6]; exact zmulc w5 li8 (by omega) (by omega)
  refine zs_imul (pc := 19) t121_19 (c := w6v) w6 ?_
  refine zs_istore_n (pc := 20) t121_20 (ls' := [(3, .int w6v), (2, .int w3v), (0, .ref 242), (1, .ref (257 + 3 * i0))]) (zml mf121 (by decide)) rfl ?_
  refine zs_aload_n (pc := 21) t121_21 rfl ?_
  have w7 := ibT257_0_2 hI hi0
  refine zs_get (pc := 22) t121_22 (by decide) (zk1 (hs.k (fT257_0 i0 hi0))) (zfvi rfl rfl) ?_
  refine zs_aload_n (pc := 25) t121_25 rfl ?_
  have w8 := ib242_5 hI
  refine zs_get (pc := 26) t121_26 (by decide) (zk1 (hs.k fk_zMc_242)) (zfvi rfl rfl) ?_
  obtain ⟨w9v, w9⟩ : ∃ v, (zI M (257 + 3 * i0) 2) * (zI M 242 5) = v := ⟨_, rfl⟩
  have w9g := zrg w9v
  refine zs_imul (pc := 29) t121_29 (c := w9v) w9 ?_
  refine zs_aload_n (pc := 30) t121_30 rfl ?_
  refine zs_get (pc := 31) t121_31 (by decide) (zk1 (hs.k fk_zMc_242)) (zfvi rfl rfl) ?_
  refine zs_iconst (pc := 34) t121_34 (v := 2) (by decide) ?_
  obtain ⟨w10v, w10⟩ : ∃ v, (zI M 242 5) / (2 : Int32) = v := ⟨_, rfl⟩
  have w10g : w10v.toInt = (zI M 242 5).toInt / 2 := by rw [← w10]; exact zdivp rfl li2 (by omega) (by decide)
  refine zs_idiv (pc := 35) t121_35 (by decide) (c := w10v) w10 ?_
  obtain ⟨w11v, w11⟩ : ∃ v, v = w9v + w10v := ⟨_, rfl⟩
  have w11g := zrg w11v
  refine zs_iadd (pc := 36) t121_36 (c := w11v) w11.symm ?_
  refine zs_istore (pc := 37) t121_37 (ls' := [(4, .int w11v), (3, .int w6v), (2, .int w3v), (0, .ref 242), (1, .ref (257 + 3 * i0))]) (zml mf121 (by decide)) rfl ?_
  refine zs_aload_n (pc := 39) t121_39 rfl ?_
  refine zs_get (pc := 40) t121_40 (by decide) (zk1 (hs.k (fT257_0 i0 hi0))) (hs.p rfl (fvT257_7 i0 hi0)) ?_
  refine zs_astore (pc := 43) t121_43 (ls' := [(5, .ref (257 + 3 * i0 + 2)), (4, .int w11v), (3, .int w6v), (2, .int w3v), (0, .ref 242), (1, .ref (257 + 3 * i0))]) (zml mf121 (by decide)) rfl ?_
  refine zs_iconst (pc := 45) t121_45 (v := 0) (by decide) ?_
  refine zs_istore (pc := 46) t121_46 (ls' := [(6, .int (0 : Int32)), (5, .ref (257 + 3 * i0 + 2)), (4, .int w11v), (3, .int w6v), (2, .int w3v), (0, .ref 242), (1, .ref (257 + 3 * i0))]) (zml mf121 (by decide)) rfl ?_
  have w12L : ∀ (m : Nat) (w12x6 : Int32) (w12M : zM), (0 ≤ w12x6.toInt ∧ w12x6.toInt ≤ 60) → zSk zMc w12M → zIv cLo cHi w12M → zFr [(257, 316, none)] M w12M → 60 - w12x6.toInt ≤ (m : Int) → zGo X l 1 0 0 121 48 [(0, .ref 242), (1, .ref (257 + 3 * i0)), (2, .int w3v), (3, .int w6v), (4, .int w11v), (5, .ref (257 + 3 * i0 + 2)), (6, .int w12x6)] [] w12M Q := by
    intro m
    induction m using Nat.strongRecOn with
    | ind w12m w12ih =>
      intro w12x6 w12M w12b6 w12s w12I w12F w12q
      refine zs_iload (pc := 48) t121_48 rfl ?_
      refine zs_aload_n (pc := 50) t121_50 rfl ?_
      have w13 := ib242_6 hI
      refine zs_get (pc := 51) t121_51 (by decide) (zk1 (w12s.k fk_zMc_242)) (zfvi rfl ((w12F 242 6 rfl).trans rfl)) ?_
      by_cases w14 : (zI M 242 6).toInt ≤ w12x6.toInt
      · refine zs_icmp_geT (pc := 54) t121_54 rfl rfl (by omega) ?_
        exact zs_vret (pc := 171) t121_171 mr121 (hQ _ w12s w12I ((zFr.refl).trans (w12F.mono rfl)))
      · refine zs_icmp_geF (pc := 54) t121_54 rfl rfl (by omega) ?_
        refine zs_aload_n (pc := 57) t121_57 rfl ?_
        refine zs_get (pc := 58) t121_58 (by decide) (zk1 (w12s.k fk_zMc_242)) (w12s.p rfl fv_zMc_242_8) ?_
        refine zs_iload (pc := 61) t121_61 rfl ?_
        obtain ⟨w15n, w15⟩ : ∃ n : Nat, w12x6.toInt = (n : Int) := ⟨w12x6.toInt.toNat, by omega⟩
        have w16 := ib248 hI w15n
        refine zs_iald (pc := 63) t121_63 (j := w15n) (by decide) (zk1 (w12s.k fk_zMc_248)) w15 (zk2 (w12s.k fk_zMc_248) (by omega)) ((w12F 248 w15n rfl).trans rfl) ?_
        refine zs_istore (pc := 64) t121_64 (ls' := [(7, .int (zI M 248 w15n)), (0, .ref 242), (1, .ref (257 + 3 * i0)), (2, .int w3v), (3, .int w6v), (4, .int w11v), (5, .ref (257 + 3 * i0 + 2)), (6, .int w12x6)]) (zml mf121 (by decide)) rfl ?_
        refine zs_aload_n (pc := 66) t121_66 rfl ?_
        refine zs_get (pc := 67) t121_67 (by decide) (zk1 (w12s.k fk_zMc_242)) (w12s.p rfl fv_zMc_242_9) ?_
        refine zs_iload (pc := 70) t121_70 rfl ?_
        have w17 := ib249 hI w15n
        refine zs_iald (pc := 72) t121_72 (j := w15n) (by decide) (zk1 (w12s.k fk_zMc_249)) w15 (zk2 (w12s.k fk_zMc_249) (by omega)) ((w12F 249 w15n rfl).trans rfl) ?_
        refine zs_aload_n (pc := 73) t121_73 rfl ?_
        refine zs_get (pc := 74) t121_74 (by decide) (zk1 (w12s.k fk_zMc_242)) (w12s.p rfl fv_zMc_242_3) ?_
        refine zs_iload_n (pc := 77) t121_77 rfl ?_
        refine zs_iload (pc := 78) t121_78 rfl ?_
        obtain ⟨w18v, w18e, w18⟩ := ziadd (a := w3v) (b := (zI M 248 w15n)) rfl rfl (by omega) (by omega)
        refine zs_iadd (pc := 80) t121_80 (c := w18v) w18e ?_
        obtain ⟨w19n, w19⟩ : ∃ n : Nat, w18v.toInt = (n : Int) := ⟨w18v.toInt.toNat, by omega⟩
        have w20 := ib245 hI w19n
        refine zs_iald (pc := 81) t121_81 (j := w19n) (by decide) (zk1 (w12s.k fk_zMc_245)) w19 (zk2 (w12s.k fk_zMc_245) (by omega)) ((w12F 245 w19n rfl).trans rfl) ?_
        obtain ⟨w21v, w21⟩ : ∃ v, v = (zI M 249 w15n) - (zI M 245 w19n) := ⟨_, rfl⟩
        have w21g := zrg w21v
        refine zs_isub (pc := 82) t121_82 (c := w21v) w21.symm ?_
        refine zs_aload_n (pc := 83) t121_83 rfl ?_
        refine zs_get (pc := 84) t121_84 (by decide) (zk1 (w12s.k fk_zMc_242)) (w12s.p rfl fv_zMc_242_4) ?_
        refine zs_iload_n (pc := 87) t121_87 rfl ?_
        refine zs_iload (pc := 88) t121_88 rfl ?_
        obtain ⟨w22v, w22e, w22⟩ := ziadd (a := w6v) (b := (zI M 248 w15n)) rfl rfl (by omega) (by omega)
        refine zs_iadd (pc := 90) t121_90 (c := w22v) w22e ?_
        obtain ⟨w23n, w23⟩ : ∃ n : Nat, w22v.toInt = (n : Int) := ⟨w22v.toInt.toNat, by omega⟩
        have w24 := ib246 hI w23n
        refine zs_iald (pc := 91) t121_91 (j := w23n) (by decide) (zk1 (w12s.k fk_zMc_246)) w23 (zk2 (w12s.k fk_zMc_246) (by omega)) ((w12F 246 w23n rfl).trans rfl) ?_
        obtain ⟨w25v, w25⟩ : ∃ v, v = w21v - (zI M 246 w23n) := ⟨_, rfl⟩
        have w25g := zrg w25v
        refine zs_isub (pc := 92) t121_92 (c := w25v) w25.symm ?_
        refine zs_istore (pc := 93) t121_93 (ls' := [(8, .int w25v), (7, .int (zI M 248 w15n)), (0, .ref 242), (1, .ref (257 + 3 * i0)), (2, .int w3v), (3, .int w6v), (4, .int w11v), (5, .ref (257 + 3 * i0 + 2)), (6, .int w12x6)]) (zml mf121 (by decide)) rfl ?_
        refine zs_iload (pc := 95) t121_95 rfl ?_
        refine zs_aload_n (pc := 97) t121_97 rfl ?_
        refine zs_get (pc := 98) t121_98 (by decide) (zk1 (w12s.k fk_zMc_242)) (zfvi rfl ((w12F 242 5 rfl).trans rfl)) ?_
        refine zs_invS (pc := 101) (as := [.int w25v, .int (zI M 242 5)]) (st := []) t121_101 (by decide) mf54 rfl rfl ⟨by decide, by decide, Nat.le_of_ble_eq_true rfl, Nat.le_of_ble_eq_true rfl⟩ (zs_in (by decide) mf54 (Nat.le_of_ble_eq_true rfl) ?_) (fun _ _ q => q)
        show zGo X l 0 0 0 54 0 [(0, .int w25v), (1, .int (zI M 242 5))] [] w12M _
        refine zs_iload_n (pc := 0) t54_0 rfl ?_
        refine zs_iload_n (pc := 1) t54_1 rfl ?_
        obtain ⟨w26v, w26⟩ : ∃ v, w25v / (zI M 242 5) = v := ⟨_, rfl⟩
        have w26g := zrg w26v
        refine zs_idiv (pc := 2) t54_2 (znz rfl (by omega)) (c := w26v) w26 ?_
        refine zs_istore_n (pc := 3) t54_3 (ls' := [(2, .int w26v), (0, .int w25v), (1, .int (zI M 242 5))]) (zml mf54 (by decide)) rfl ?_
        refine zs_iload_n (pc := 4) t54_4 rfl ?_
        refine zs_iload_n (pc := 5) t54_5 rfl ?_
        obtain ⟨w27v, w27⟩ : ∃ v, w25v ^^^ (zI M 242 5) = v := ⟨_, rfl⟩
        have w27g := zrg w27v
        refine zs_ixor (pc := 6) t54_6 (c := w27v) w27 ?_
        by_cases w28 : 0 ≤ w27v.toInt
        · refine zs_if_geT (pc := 7) t54_7 rfl (by omega) ?_
          refine zs_iload_n (pc := 21) t54_21 rfl ?_
          refine zs_iret (pc := 22) t54_22 mr54 rfl ?_
          show zGo X l 1 0 0 121 104 [(8, .int w25v), (7, .int (zI M 248 w15n)), (0, .ref 242), (1, .ref (257 + 3 * i0)), (2, .int w3v), (3, .int w6v), (4, .int w11v), (5, .ref (257 + 3 * i0 + 2)), (6, .int w12x6)] [.int w26v] w12M _
          refine zs_aload_n (pc := 104) t121_104 rfl ?_
          have w29 := ibT257_0_2 w12I hi0
          refine zs_get (pc := 105) t121_105 (by decide) (zk1 (w12s.k (fT257_0 i0 hi0))) (zfvi rfl rfl) ?_
          by_cases w30 : w26v.toInt = (zI w12M (257 + 3 * i0) 2).toInt
          · refine zs_icmp_eqT (pc := 108) t121_108 rfl rfl (by omega) ?_
            refine zs_iload (pc := 114) t121_114 rfl ?_
            refine zs_iload (pc := 116) t121_116 rfl ?_
            obtain ⟨w31v, w31⟩ : ∃ v, v = w25v - w11v := ⟨_, rfl⟩
            have w31g := zrg w31v
            refine zs_isub (pc := 118) t121_118 (c := w31v) w31.symm ?_
            refine zs_invS (pc := 119) (as := [.int w31v]) (st := []) t121_119 (by decide) mf122 rfl rfl ⟨by decide, by decide, Nat.le_of_ble_eq_true rfl, Nat.le_of_ble_eq_true rfl⟩ (zs_in (by decide) mf122 (Nat.le_of_ble_eq_true rfl) ?_) (fun _ _ q => q)
            show zGo X l 0 0 0 122 0 [(0, .int w31v)] [] w12M _
            refine zs_iload_n (pc := 0) t122_0 rfl ?_
            by_cases w32 : 0 ≤ w31v.toInt
            · refine zs_if_geT (pc := 1) t122_1 rfl (by omega) ?_
              refine zs_iload_n (pc := 9) t122_9 rfl ?_
              refine zs_iret (pc := 10) t122_10 mr122 rfl ?_
              show zGo X l 1 0 0 121 122 [(8, .int w25v), (7, .int (zI M 248 w15n)), (0, .ref 242), (1, .ref (257 + 3 * i0)), (2, .int w3v), (3, .int w6v), (4, .int w11v), (5, .ref (257 + 3 * i0 + 2)), (6, .int w12x6)] [.int w31v] w12M _
              refine zs_istore (pc := 122) t121_122 (ls' := [(9, .int w31v), (8, .int w25v), (7, .int (zI M 248 w15n)), (0, .ref 242), (1, .ref (257 + 3 * i0)), (2, .int w3v), (3, .int w6v), (4, .int w11v), (5, .ref (257 + 3 * i0 + 2)), (6, .int w12x6)]) (zml mf121 (by decide)) rfl ?_
              refine zs_aload_n (pc := 124) t121_124 rfl ?_
              refine zs_get (pc := 125) t121_125 (by decide) (zk1 (w12s.k (fT257_0 i0 hi0))) (w12s.p rfl (fvT257_6 i0 hi0)) ?_
              refine zs_iload (pc := 128) t121_128 rfl ?_
              obtain ⟨w33n, w33⟩ : ∃ n : Nat, (zI M 248 w15n).toInt = (n : Int) := ⟨(zI M 248 w15n).toInt.toNat, by omega⟩
              have w34 := ibT257_1 w12I hi0 w33n
              refine zs_iald (pc := 130) t121_130 (j := w33n) (by omega) (zk1 (w12s.k (fT257_1 i0 hi0))) w33 (zk2 (w12s.k (fT257_1 i0 hi0)) (by omega)) rfl ?_
              by_cases w35 : (zI w12M (257 + 3 * i0 + 1) w33n).toInt < 0
              · refine zs_if_ltT (pc := 131) t121_131 rfl (by omega) ?_
                refine zs_aload_n (pc := 144) t121_144 rfl ?_
                refine zs_get (pc := 145) t121_145 (by decide) (zk1 (w12s.k (fT257_0 i0 hi0))) (w12s.p rfl (fvT257_6 i0 hi0)) ?_
                refine zs_iload (pc := 148) t121_148 rfl ?_
                refine zs_aload_n (pc := 150) t121_150 rfl ?_
                refine zs_get (pc := 151) t121_151 (by decide) (zk1 (w12s.k fk_zMc_242)) (w12s.p rfl fv_zMc_242_7) ?_
                refine zs_iload (pc := 154) t121_154 rfl ?_
                have w36 := ib247 hI w15n
                refine zs_iald (pc := 156) t121_156 (j := w15n) (by decide) (zk1 (w12s.k fk_zMc_247)) w15 (zk2 (w12s.k fk_zMc_247) (by omega)) ((w12F 247 w15n rfl).trans rfl) ?_
                have w37 : zIv cLo cHi (zsI w12M (257 + 3 * i0 + 1) w33n (zI M 247 w15n)) := zIv.put w12I (by rw [(cT257_1 i0 hi0 w33n).1, (cT257_1 i0 hi0 w33n).2]; exact ⟨by omega, by omega⟩)
                refine zs_iast (pc := 157) t121_157 (j := w33n) (by omega) (zk1 (w12s.k (fT257_1 i0 hi0))) w33 (zk2 (w12s.k (fT257_1 i0 hi0)) (by omega)) ?_
                refine zs_aload (pc := 158) t121_158 rfl ?_
                refine zs_iload (pc := 160) t121_160 rfl ?_
                refine zs_iload (pc := 162) t121_162 rfl ?_
                have w38 : zIv cLo cHi (zsI (zsI w12M (257 + 3 * i0 + 1) w33n (zI M 247 w15n)) (257 + 3 * i0 + 2) w33n w31v) := zIv.put w37 (by rw [(cT257_2 i0 hi0 w33n).1, (cT257_2 i0 hi0 w33n).2]; exact (zrg w31v))
                refine zs_iast (pc := 164) t121_164 (j := w33n) (by omega) (zk1 (w12s.k (fT257_2 i0 hi0))) w33 (zk2 (w12s.k (fT257_2 i0 hi0)) (by omega)) ?_
                obtain ⟨w39v, w39e, w39⟩ := ziadd (a := w12x6) (b := Int32.ofInt 1) rfl (show (Int32.ofInt 1).toInt = 1 by decide) (by omega) (by omega)
                refine zs_iinc (pc := 165) t121_165 (ls' := [(6, .int w39v), (9, .int w31v), (8, .int w25v), (7, .int (zI M 248 w15n)), (0, .ref 242), (1, .ref (257 + 3 * i0)), (2, .int w3v), (3, .int w6v), (4, .int w11v), (5, .ref (257 + 3 * i0 + 2))]) (zml mf121 (by decide)) rfl (c := w39v) w39e rfl ?_
                refine zs_goto (pc := 168) t121_168 ?_
                refine zGo.locals (ls' := [(0, .ref 242), (1, .ref (257 + 3 * i0)), (2, .int w3v), (3, .int w6v), (4, .int w11v), (5, .ref (257 + 3 * i0 + 2)), (6, .int w39v)]) (by simp) ?_
                exact w12ih (w12m - 1) (by omega) w39v (zsI (zsI w12M (257 + 3 * i0 + 1) w33n (zI M 247 w15n)) (257 + 3 * i0 + 2) w33n w31v) ⟨by omega, by omega⟩ w12s w38 ((((zFr.refl).trans (w12F.mono rfl)).put (zinW_r (lo := 257) (hi := 316) (by decide) (by omega) (by omega))).put (zinW_r (lo := 257) (hi := 316) (by decide) (by omega) (by omega))) (by omega)
              · refine zs_if_ltF (pc := 131) t121_131 rfl (by omega) ?_
                refine zs_iload (pc := 134) t121_134 rfl ?_
                refine zs_aload (pc := 136) t121_136 rfl ?_
                refine zs_iload (pc := 138) t121_138 rfl ?_
                have w40 := ibT257_2 w12I hi0 w33n
                refine zs_iald (pc := 140) t121_140 (j := w33n) (by omega) (zk1 (w12s.k (fT257_2 i0 hi0))) w33 (zk2 (w12s.k (fT257_2 i0 hi0)) (by omega)) rfl ?_
                by_cases w41 : (zI w12M (257 + 3 * i0 + 2) w33n).toInt ≤ w31v.toInt
                · refine zs_icmp_geT (pc := 141) t121_141 rfl rfl (by omega) ?_
                  obtain ⟨w42v, w42e, w42⟩ := ziadd (a := w12x6) (b := Int32.ofInt 1) rfl (show (Int32.ofInt 1).toInt = 1 by decide) (by omega) (by omega)
                  refine zs_iinc (pc := 165) t121_165 (ls' := [(6, .int w42v), (9, .int w31v), (8, .int w25v), (7, .int (zI M 248 w15n)), (0, .ref 242), (1, .ref (257 + 3 * i0)), (2, .int w3v), (3, .int w6v), (4, .int w11v), (5, .ref (257 + 3 * i0 + 2))]) (zml mf121 (by decide)) rfl (c := w42v) w42e rfl ?_
                  refine zs_goto (pc := 168) t121_168 ?_
                  refine zGo.locals (ls' := [(0, .ref 242), (1, .ref (257 + 3 * i0)), (2, .int w3v), (3, .int w6v), (4, .int w11v), (5, .ref (257 + 3 * i0 + 2)), (6, .int w42v)]) (by simp) ?_
                  exact w12ih (w12m - 1) (by omega) w42v w12M ⟨by omega, by omega⟩ w12s w12I ((zFr.refl).trans (w12F.mono rfl)) (by omega)
                · refine zs_icmp_geF (pc := 141) t121_141 rfl rfl (by omega) ?_
                  refine zs_aload_n (pc := 144) t121_144 rfl ?_
                  refine zs_get (pc := 145) t121_145 (by decide) (zk1 (w12s.k (fT257_0 i0 hi0))) (w12s.p rfl (fvT257_6 i0 hi0)) ?_
                  refine zs_iload (pc := 148) t121_148 rfl ?_
                  refine zs_aload_n (pc := 150) t121_150 rfl ?_
                  refine zs_get (pc := 151) t121_151 (by decide) (zk1 (w12s.k fk_zMc_242)) (w12s.p rfl fv_zMc_242_7) ?_
                  refine zs_iload (pc := 154) t121_154 rfl ?_
                  have w43 := ib247 hI w15n
                  refine zs_iald (pc := 156) t121_156 (j := w15n) (by decide) (zk1 (w12s.k fk_zMc_247)) w15 (zk2 (w12s.k fk_zMc_247) (by omega)) ((w12F 247 w15n rfl).trans rfl) ?_
                  have w44 : zIv cLo cHi (zsI w12M (257 + 3 * i0 + 1) w33n (zI M 247 w15n)) := zIv.put w12I (by rw [(cT257_1 i0 hi0 w33n).1, (cT257_1 i0 hi0 w33n).2]; exact ⟨by omega, by omega⟩)
                  refine zs_iast (pc := 157) t121_157 (j := w33n) (by omega) (zk1 (w12s.k (fT257_1 i0 hi0))) w33 (zk2 (w12s.k (fT257_1 i0 hi0)) (by omega)) ?_
                  refine zs_aload (pc := 158) t121_158 rfl ?_
                  refine zs_iload (pc := 160) t121_160 rfl ?_
                  refine zs_iload (pc := 162) t121_162 rfl ?_
                  have w45 : zIv cLo cHi (zsI (zsI w12M (257 + 3 * i0 + 1) w33n (zI M 247 w15n)) (257 + 3 * i0 + 2) w33n w31v) := zIv.put w44 (by rw [(cT257_2 i0 hi0 w33n).1, (cT257_2 i0 hi0 w33n).2]; exact (zrg w31v))
                  refine zs_iast (pc := 164) t121_164 (j := w33n) (by omega) (zk1 (w12s.k (fT257_2 i0 hi0))) w33 (zk2 (w12s.k (fT257_2 i0 hi0)) (by omega)) ?_
                  obtain ⟨w46v, w46e, w46⟩ := ziadd (a := w12x6) (b := Int32.ofInt 1) rfl (show (Int32.ofInt 1).toInt = 1 by decide) (by omega) (by omega)
                  refine zs_iinc (pc := 165) t121_165 (ls' := [(6, .int w46v), (9, .int w31v), (8, .int w25v), (7, .int (zI M 248 w15n)), (0, .ref 242), (1, .ref (257 + 3 * i0)), (2, .int w3v), (3, .int w6v), (4, .int w11v), (5, .ref (257 + 3 * i0 + 2))]) (zml mf121 (by decide)) rfl (c := w46v) w46e rfl ?_
                  refine zs_goto (pc := 168) t121_168 ?_
                  refine zGo.locals (ls' := [(0, .ref 242), (1, .ref (257 + 3 * i0)), (2, .int w3v), (3, .int w6v), (4, .int w11v), (5, .ref (257 + 3 * i0 + 2)), (6, .int w46v)]) (by simp) ?_
                  exact w12ih (w12m - 1) (by omega) w46v (zsI (zsI w12M (257 + 3 * i0 + 1) w33n (zI M 247 w15n)) (257 + 3 * i0 + 2) w33n w31v) ⟨by omega, by omega⟩ w12s w45 ((((zFr.refl).trans (w12F.mono rfl)).put (zinW_r (lo := 257) (hi := 316) (by decide) (by omega) (by omega))).put (zinW_r (lo := 257) (hi := 316) (by decide) (by omega) (by omega))) (by omega)
            · refine zs_if_geF (pc := 1) t122_1 rfl (by omega) ?_
              refine zs_iload_n (pc := 4) t122_4 rfl ?_
              obtain ⟨w47v, w47e⟩ : ∃ v, -w31v = v := ⟨_, rfl⟩
              have w47 := zrg w47v
              refine zs_ineg (pc := 5) t122_5 (c := w47v) w47e ?_
              refine zs_goto (pc := 6) t122_6 ?_
              refine zs_iret (pc := 10) t122_10 mr122 rfl ?_
              show zGo X l 1 0 0 121 122 [(8, .int w25v), (7, .int (zI M 248 w15n)), (0, .ref 242), (1, .ref (257 + 3 * i0)), (2, .int w3v), (3, .int w6v), (4, .int w11v), (5, .ref (257 + 3 * i0 + 2)), (6, .int w12x6)] [.int w47v] w12M _
              refine zs_istore (pc := 122) t121_122 (ls' := [(9, .int w47v), (8, .int w25v), (7, .int (zI M 248 w15n)), (0, .ref 242), (1, .ref (257 + 3 * i0)), (2, .int w3v), (3, .int w6v), (4, .int w11v), (5, .ref (257 + 3 * i0 + 2)), (6, .int w12x6)]) (zml mf121 (by decide)) rfl ?_
              refine zs_aload_n (pc := 124) t121_124 rfl ?_
              refine zs_get (pc := 125) t121_125 (by decide) (zk1 (w12s.k (fT257_0 i0 hi0))) (w12s.p rfl (fvT257_6 i0 hi0)) ?_
              refine zs_iload (pc := 128) t121_128 rfl ?_
              obtain ⟨w48n, w48⟩ : ∃ n : Nat, (zI M 248 w15n).toInt = (n : Int) := ⟨(zI M 248 w15n).toInt.toNat, by omega⟩
              have w49 := ibT257_1 w12I hi0 w48n
              refine zs_iald (pc := 130) t121_130 (j := w48n) (by omega) (zk1 (w12s.k (fT257_1 i0 hi0))) w48 (zk2 (w12s.k (fT257_1 i0 hi0)) (by omega)) rfl ?_
              by_cases w50 : (zI w12M (257 + 3 * i0 + 1) w48n).toInt < 0
              · refine zs_if_ltT (pc := 131) t121_131 rfl (by omega) ?_
                refine zs_aload_n (pc := 144) t121_144 rfl ?_
                refine zs_get (pc := 145) t121_145 (by decide) (zk1 (w12s.k (fT257_0 i0 hi0))) (w12s.p rfl (fvT257_6 i0 hi0)) ?_
                refine zs_iload (pc := 148) t121_148 rfl ?_
                refine zs_aload_n (pc := 150) t121_150 rfl ?_
                refine zs_get (pc := 151) t121_151 (by decide) (zk1 (w12s.k fk_zMc_242)) (w12s.p rfl fv_zMc_242_7) ?_
                refine zs_iload (pc := 154) t121_154 rfl ?_
                have w51 := ib247 hI w15n
                refine zs_iald (pc := 156) t121_156 (j := w15n) (by decide) (zk1 (w12s.k fk_zMc_247)) w15 (zk2 (w12s.k fk_zMc_247) (by omega)) ((w12F 247 w15n rfl).trans rfl) ?_
                have w52 : zIv cLo cHi (zsI w12M (257 + 3 * i0 + 1) w48n (zI M 247 w15n)) := zIv.put w12I (by rw [(cT257_1 i0 hi0 w48n).1, (cT257_1 i0 hi0 w48n).2]; exact ⟨by omega, by omega⟩)
                refine zs_iast (pc := 157) t121_157 (j := w48n) (by omega) (zk1 (w12s.k (fT257_1 i0 hi0))) w48 (zk2 (w12s.k (fT257_1 i0 hi0)) (by omega)) ?_
                refine zs_aload (pc := 158) t121_158 rfl ?_
                refine zs_iload (pc := 160) t121_160 rfl ?_
                refine zs_iload (pc := 162) t121_162 rfl ?_
                have w53 : zIv cLo cHi (zsI (zsI w12M (257 + 3 * i0 + 1) w48n (zI M 247 w15n)) (257 + 3 * i0 + 2) w48n w47v) := zIv.put w52 (by rw [(cT257_2 i0 hi0 w48n).1, (cT257_2 i0 hi0 w48n).2]; exact (zrg w47v))
                refine zs_iast (pc := 164) t121_164 (j := w48n) (by omega) (zk1 (w12s.k (fT257_2 i0 hi0))) w48 (zk2 (w12s.k (fT257_2 i0 hi0)) (by omega)) ?_
                obtain ⟨w54v, w54e, w54⟩ := ziadd (a := w12x6) (b := Int32.ofInt 1) rfl (show (Int32.ofInt 1).toInt = 1 by decide) (by omega) (by omega)
                refine zs_iinc (pc := 165) t121_165 (ls' := [(6, .int w54v), (9, .int w47v), (8, .int w25v), (7, .int (zI M 248 w15n)), (0, .ref 242), (1, .ref (257 + 3 * i0)), (2, .int w3v), (3, .int w6v), (4, .int w11v), (5, .ref (257 + 3 * i0 + 2))]) (zml mf121 (by decide)) rfl (c := w54v) w54e rfl ?_
                refine zs_goto (pc := 168) t121_168 ?_
                refine zGo.locals (ls' := [(0, .ref 242), (1, .ref (257 + 3 * i0)), (2, .int w3v), (3, .int w6v), (4, .int w11v), (5, .ref (257 + 3 * i0 + 2)), (6, .int w54v)]) (by simp) ?_
                exact w12ih (w12m - 1) (by omega) w54v (zsI (zsI w12M (257 + 3 * i0 + 1) w48n (zI M 247 w15n)) (257 + 3 * i0 + 2) w48n w47v) ⟨by omega, by omega⟩ w12s w53 ((((zFr.refl).trans (w12F.mono rfl)).put (zinW_r (lo := 257) (hi := 316) (by decide) (by omega) (by omega))).put (zinW_r (lo := 257) (hi := 316) (by decide) (by omega) (by omega))) (by omega)
              · refine zs_if_ltF (pc := 131) t121_131 rfl (by omega) ?_
                refine zs_iload (pc := 134) t121_134 rfl ?_
                refine zs_aload (pc := 136) t121_136 rfl ?_
                refine zs_iload (pc := 138) t121_138 rfl ?_
                have w55 := ibT257_2 w12I hi0 w48n
                refine zs_iald (pc := 140) t121_140 (j := w48n) (by omega) (zk1 (w12s.k (fT257_2 i0 hi0))) w48 (zk2 (w12s.k (fT257_2 i0 hi0)) (by omega)) rfl ?_
                by_cases w56 : (zI w12M (257 + 3 * i0 + 2) w48n).toInt ≤ w47v.toInt
                · refine zs_icmp_geT (pc := 141) t121_141 rfl rfl (by omega) ?_
                  obtain ⟨w57v, w57e, w57⟩ := ziadd (a := w12x6) (b := Int32.ofInt 1) rfl (show (Int32.ofInt 1).toInt = 1 by decide) (by omega) (by omega)
                  refine zs_iinc (pc := 165) t121_165 (ls' := [(6, .int w57v), (9, .int w47v), (8, .int w25v), (7, .int (zI M 248 w15n)), (0, .ref 242), (1, .ref (257 + 3 * i0)), (2, .int w3v), (3, .int w6v), (4, .int w11v), (5, .ref (257 + 3 * i0 + 2))]) (zml mf121 (by decide)) rfl (c := w57v) w57e rfl ?_
                  refine zs_goto (pc := 168) t121_168 ?_
                  refine zGo.locals (ls' := [(0, .ref 242), (1, .ref (257 + 3 * i0)), (2, .int w3v), (3, .int w6v), (4, .int w11v), (5, .ref (257 + 3 * i0 + 2)), (6, .int w57v)]) (by simp) ?_
                  exact w12ih (w12m - 1) (by omega) w57v w12M ⟨by omega, by omega⟩ w12s w12I ((zFr.refl).trans (w12F.mono rfl)) (by omega)
                · refine zs_icmp_geF (pc := 141) t121_141 rfl rfl (by omega) ?_
                  refine zs_aload_n (pc := 144) t121_144 rfl ?_
                  refine zs_get (pc := 145) t121_145 (by decide) (zk1 (w12s.k (fT257_0 i0 hi0))) (w12s.p rfl (fvT257_6 i0 hi0)) ?_
                  refine zs_iload (pc := 148) t121_148 rfl ?_
                  refine zs_aload_n (pc := 150) t121_150 rfl ?_
                  refine zs_get (pc := 151) t121_151 (by decide) (zk1 (w12s.k fk_zMc_242)) (w12s.p rfl fv_zMc_242_7) ?_
                  refine zs_iload (pc := 154) t121_154 rfl ?_
                  have w58 := ib247 hI w15n
                  refine zs_iald (pc := 156) t121_156 (j := w15n) (by decide) (zk1 (w12s.k fk_zMc_247)) w15 (zk2 (w12s.k fk_zMc_247) (by omega)) ((w12F 247 w15n rfl).trans rfl) ?_
                  have w59 : zIv cLo cHi (zsI w12M (257 + 3 * i0 + 1) w48n (zI M 247 w15n)) := zIv.put w12I (by rw [(cT257_1 i0 hi0 w48n).1, (cT257_1 i0 hi0 w48n).2]; exact ⟨by omega, by omega⟩)
                  refine zs_iast (pc := 157) t121_157 (j := w48n) (by omega) (zk1 (w12s.k (fT257_1 i0 hi0))) w48 (zk2 (w12s.k (fT257_1 i0 hi0)) (by omega)) ?_
                  refine zs_aload (pc := 158) t121_158 rfl ?_
                  refine zs_iload (pc := 160) t121_160 rfl ?_
                  refine zs_iload (pc := 162) t121_162 rfl ?_
                  have w60 : zIv cLo cHi (zsI (zsI w12M (257 + 3 * i0 + 1) w48n (zI M 247 w15n)) (257 + 3 * i0 + 2) w48n w47v) := zIv.put w59 (by rw [(cT257_2 i0 hi0 w48n).1, (cT257_2 i0 hi0 w48n).2]; exact (zrg w47v))
                  refine zs_iast (pc := 164) t121_164 (j := w48n) (by omega) (zk1 (w12s.k (fT257_2 i0 hi0))) w48 (zk2 (w12s.k (fT257_2 i0 hi0)) (by omega)) ?_
                  obtain ⟨w61v, w61e, w61⟩ := ziadd (a := w12x6) (b := Int32.ofInt 1) rfl (show (Int32.ofInt 1).toInt = 1 by decide) (by omega) (by omega)
                  refine zs_iinc (pc := 165) t121_165 (ls' := [(6, .int w61v), (9, .int w47v), (8, .int w25v), (7, .int (zI M 248 w15n)), (0, .ref 242), (1, .ref (257 + 3 * i0)), (2, .int w3v), (3, .int w6v), (4, .int w11v), (5, .ref (257 + 3 * i0 + 2))]) (zml mf121 (by decide)) rfl (c := w61v) w61e rfl ?_
                  refine zs_goto (pc := 168) t121_168 ?_
                  refine zGo.locals (ls' := [(0, .ref 242), (1, .ref (257 + 3 * i0)), (2, .int w3v), (3, .int w6v), (4, .int w11v), (5, .ref (257 + 3 * i0 + 2)), (6, .int w61v)]) (by simp) ?_
                  exact w12ih (w12m - 1) (by omega) w61v (zsI (zsI w12M (257 + 3 * i0 + 1) w48n (zI M 247 w15n)) (257 + 3 * i0 + 2) w48n w47v) ⟨by omega, by omega⟩ w12s w60 ((((zFr.refl).trans (w12F.mono rfl)).put (zinW_r (lo := 257) (hi := 316) (by decide) (by omega) (by omega))).put (zinW_r (lo := 257) (hi := 316) (by decide) (by omega) (by omega))) (by omega)
          · refine zs_icmp_eqF (pc := 108) t121_108 rfl rfl (by omega) ?_
            refine zs_goto (pc := 111) t121_111 ?_
            obtain ⟨w62v, w62e, w62⟩ := ziadd (a := w12x6) (b := Int32.ofInt 1) rfl (show (Int32.ofInt 1).toInt = 1 by decide) (by omega) (by omega)
            refine zs_iinc (pc := 165) t121_165 (ls' := [(6, .int w62v), (8, .int w25v), (7, .int (zI M 248 w15n)), (0, .ref 242), (1, .ref (257 + 3 * i0)), (2, .int w3v), (3, .int w6v), (4, .int w11v), (5, .ref (257 + 3 * i0 + 2))]) (zml mf121 (by decide)) rfl (c := w62v) w62e rfl ?_
            refine zs_goto (pc := 168) t121_168 ?_
            refine zGo.locals (ls' := [(0, .ref 242), (1, .ref (257 + 3 * i0)), (2, .int w3v), (3, .int w6v), (4, .int w11v), (5, .ref (257 + 3 * i0 + 2)), (6, .int w62v)]) (by simp) ?_
            exact w12ih (w12m - 1) (by omega) w62v w12M ⟨by omega, by omega⟩ w12s w12I ((zFr.refl).trans (w12F.mono rfl)) (by omega)
        · refine zs_if_geF (pc := 7) t54_7 rfl (by omega) ?_
          refine zs_iload_n (pc := 10) t54_10 rfl ?_
          refine zs_iload_n (pc := 11) t54_11 rfl ?_
          obtain ⟨w63v, w63⟩ : ∃ v, w26v * (zI M 242 5) = v := ⟨_, rfl⟩
          have w63g := zrg w63v
          refine zs_imul (pc := 12) t54_12 (c := w63v) w63 ?_
          refine zs_iload_n (pc := 13) t54_13 rfl ?_
          by_cases w64 : w63v.toInt = w25v.toInt
          · refine zs_icmp_eqT (pc := 14) t54_14 rfl rfl (by omega) ?_
            refine zs_iload_n (pc := 21) t54_21 rfl ?_
            refine zs_iret (pc := 22) t54_22 mr54 rfl ?_
            show zGo X l 1 0 0 121 104 [(8, .int w25v), (7, .int (zI M 248 w15n)), (0, .ref 242), (1, .ref (257 + 3 * i0)), (2, .int w3v), (3, .int w6v), (4, .int w11v), (5, .ref (257 + 3 * i0 + 2)), (6, .int w12x6)] [.int w26v] w12M _
            refine zs_aload_n (pc := 104) t121_104 rfl ?_
            have w65 := ibT257_0_2 w12I hi0
            refine zs_get (pc := 105) t121_105 (by decide) (zk1 (w12s.k (fT257_0 i0 hi0))) (zfvi rfl rfl) ?_
            by_cases w66 : w26v.toInt = (zI w12M (257 + 3 * i0) 2).toInt
            · refine zs_icmp_eqT (pc := 108) t121_108 rfl rfl (by omega) ?_
              refine zs_iload (pc := 114) t121_114 rfl ?_
              refine zs_iload (pc := 116) t121_116 rfl ?_
              obtain ⟨w67v, w67⟩ : ∃ v, v = w25v - w11v := ⟨_, rfl⟩
              have w67g := zrg w67v
              refine zs_isub (pc := 118) t121_118 (c := w67v) w67.symm ?_
              refine zs_invS (pc := 119) (as := [.int w67v]) (st := []) t121_119 (by decide) mf122 rfl rfl ⟨by decide, by decide, Nat.le_of_ble_eq_true rfl, Nat.le_of_ble_eq_true rfl⟩ (zs_in (by decide) mf122 (Nat.le_of_ble_eq_true rfl) ?_) (fun _ _ q => q)
              show zGo X l 0 0 0 122 0 [(0, .int w67v)] [] w12M _
              refine zs_iload_n (pc := 0) t122_0 rfl ?_
              by_cases w68 : 0 ≤ w67v.toInt
              · refine zs_if_geT (pc := 1) t122_1 rfl (by omega) ?_
                refine zs_iload_n (pc := 9) t122_9 rfl ?_
                refine zs_iret (pc := 10) t122_10 mr122 rfl ?_
                show zGo X l 1 0 0 121 122 [(8, .int w25v), (7, .int (zI M 248 w15n)), (0, .ref 242), (1, .ref (257 + 3 * i0)), (2, .int w3v), (3, .int w6v), (4, .int w11v), (5, .ref (257 + 3 * i0 + 2)), (6, .int w12x6)] [.int w67v] w12M _
                refine zs_istore (pc := 122) t121_122 (ls' := [(9, .int w67v), (8, .int w25v), (7, .int (zI M 248 w15n)), (0, .ref 242), (1, .ref (257 + 3 * i0)), (2, .int w3v), (3, .int w6v), (4, .int w11v), (5, .ref (257 + 3 * i0 + 2)), (6, .int w12x6)]) (zml mf121 (by decide)) rfl ?_
                refine zs_aload_n (pc := 124) t121_124 rfl ?_
                refine zs_get (pc := 125) t121_125 (by decide) (zk1 (w12s.k (fT257_0 i0 hi0))) (w12s.p rfl (fvT257_6 i0 hi0)) ?_
                refine zs_iload (pc := 128) t121_128 rfl ?_
                obtain ⟨w69n, w69⟩ : ∃ n : Nat, (zI M 248 w15n).toInt = (n : Int) := ⟨(zI M 248 w15n).toInt.toNat, by omega⟩
                have w70 := ibT257_1 w12I hi0 w69n
                refine zs_iald (pc := 130) t121_130 (j := w69n) (by omega) (zk1 (w12s.k (fT257_1 i0 hi0))) w69 (zk2 (w12s.k (fT257_1 i0 hi0)) (by omega)) rfl ?_
                by_cases w71 : (zI w12M (257 + 3 * i0 + 1) w69n).toInt < 0
                · refine zs_if_ltT (pc := 131) t121_131 rfl (by omega) ?_
                  refine zs_aload_n (pc := 144) t121_144 rfl ?_
                  refine zs_get (pc := 145) t121_145 (by decide) (zk1 (w12s.k (fT257_0 i0 hi0))) (w12s.p rfl (fvT257_6 i0 hi0)) ?_
                  refine zs_iload (pc := 148) t121_148 rfl ?_
                  refine zs_aload_n (pc := 150) t121_150 rfl ?_
                  refine zs_get (pc := 151) t121_151 (by decide) (zk1 (w12s.k fk_zMc_242)) (w12s.p rfl fv_zMc_242_7) ?_
                  refine zs_iload (pc := 154) t121_154 rfl ?_
                  have w72 := ib247 hI w15n
                  refine zs_iald (pc := 156) t121_156 (j := w15n) (by decide) (zk1 (w12s.k fk_zMc_247)) w15 (zk2 (w12s.k fk_zMc_247) (by omega)) ((w12F 247 w15n rfl).trans rfl) ?_
                  have w73 : zIv cLo cHi (zsI w12M (257 + 3 * i0 + 1) w69n (zI M 247 w15n)) := zIv.put w12I (by rw [(cT257_1 i0 hi0 w69n).1, (cT257_1 i0 hi0 w69n).2]; exact ⟨by omega, by omega⟩)
                  refine zs_iast (pc := 157) t121_157 (j := w69n) (by omega) (zk1 (w12s.k (fT257_1 i0 hi0))) w69 (zk2 (w12s.k (fT257_1 i0 hi0)) (by omega)) ?_
                  refine zs_aload (pc := 158) t121_158 rfl ?_
                  refine zs_iload (pc := 160) t121_160 rfl ?_
                  refine zs_iload (pc := 162) t121_162 rfl ?_
                  have w74 : zIv cLo cHi (zsI (zsI w12M (257 + 3 * i0 + 1) w69n (zI M 247 w15n)) (257 + 3 * i0 + 2) w69n w67v) := zIv.put w73 (by rw [(cT257_2 i0 hi0 w69n).1, (cT257_2 i0 hi0 w69n).2]; exact (zrg w67v))
                  refine zs_iast (pc := 164) t121_164 (j := w69n) (by omega) (zk1 (w12s.k (fT257_2 i0 hi0))) w69 (zk2 (w12s.k (fT257_2 i0 hi0)) (by omega)) ?_
                  obtain ⟨w75v, w75e, w75⟩ := ziadd (a := w12x6) (b := Int32.ofInt 1) rfl (show (Int32.ofInt 1).toInt = 1 by decide) (by omega) (by omega)
                  refine zs_iinc (pc := 165) t121_165 (ls' := [(6, .int w75v), (9, .int w67v), (8, .int w25v), (7, .int (zI M 248 w15n)), (0, .ref 242), (1, .ref (257 + 3 * i0)), (2, .int w3v), (3, .int w6v), (4, .int w11v), (5, .ref (257 + 3 * i0 + 2))]) (zml mf121 (by decide)) rfl (c := w75v) w75e rfl ?_
                  refine zs_goto (pc := 168) t121_168 ?_
                  refine zGo.locals (ls' := [(0, .ref 242), (1, .ref (257 + 3 * i0)), (2, .int w3v), (3, .int w6v), (4, .int w11v), (5, .ref (257 + 3 * i0 + 2)), (6, .int w75v)]) (by simp) ?_
                  exact w12ih (w12m - 1) (by omega) w75v (zsI (zsI w12M (257 + 3 * i0 + 1) w69n (zI M 247 w15n)) (257 + 3 * i0 + 2) w69n w67v) ⟨by omega, by omega⟩ w12s w74 ((((zFr.refl).trans (w12F.mono rfl)).put (zinW_r (lo := 257) (hi := 316) (by decide) (by omega) (by omega))).put (zinW_r (lo := 257) (hi := 316) (by decide) (by omega) (by omega))) (by omega)
                · refine zs_if_ltF (pc := 131) t121_131 rfl (by omega) ?_
                  refine zs_iload (pc := 134) t121_134 rfl ?_
                  refine zs_aload (pc := 136) t121_136 rfl ?_
                  refine zs_iload (pc := 138) t121_138 rfl ?_
                  have w76 := ibT257_2 w12I hi0 w69n
                  refine zs_iald (pc := 140) t121_140 (j := w69n) (by omega) (zk1 (w12s.k (fT257_2 i0 hi0))) w69 (zk2 (w12s.k (fT257_2 i0 hi0)) (by omega)) rfl ?_
                  by_cases w77 : (zI w12M (257 + 3 * i0 + 2) w69n).toInt ≤ w67v.toInt
                  · refine zs_icmp_geT (pc := 141) t121_141 rfl rfl (by omega) ?_
                    obtain ⟨w78v, w78e, w78⟩ := ziadd (a := w12x6) (b := Int32.ofInt 1) rfl (show (Int32.ofInt 1).toInt = 1 by decide) (by omega) (by omega)
                    refine zs_iinc (pc := 165) t121_165 (ls' := [(6, .int w78v), (9, .int w67v), (8, .int w25v), (7, .int (zI M 248 w15n)), (0, .ref 242), (1, .ref (257 + 3 * i0)), (2, .int w3v), (3, .int w6v), (4, .int w11v), (5, .ref (257 + 3 * i0 + 2))]) (zml mf121 (by decide)) rfl (c := w78v) w78e rfl ?_
                    refine zs_goto (pc := 168) t121_168 ?_
                    refine zGo.locals (ls' := [(0, .ref 242), (1, .ref (257 + 3 * i0)), (2, .int w3v), (3, .int w6v), (4, .int w11v), (5, .ref (257 + 3 * i0 + 2)), (6, .int w78v)]) (by simp) ?_
                    exact w12ih (w12m - 1) (by omega) w78v w12M ⟨by omega, by omega⟩ w12s w12I ((zFr.refl).trans (w12F.mono rfl)) (by omega)
                  · refine zs_icmp_geF (pc := 141) t121_141 rfl rfl (by omega) ?_
                    refine zs_aload_n (pc := 144) t121_144 rfl ?_
                    refine zs_get (pc := 145) t121_145 (by decide) (zk1 (w12s.k (fT257_0 i0 hi0))) (w12s.p rfl (fvT257_6 i0 hi0)) ?_
                    refine zs_iload (pc := 148) t121_148 rfl ?_
                    refine zs_aload_n (pc := 150) t121_150 rfl ?_
                    refine zs_get (pc := 151) t121_151 (by decide) (zk1 (w12s.k fk_zMc_242)) (w12s.p rfl fv_zMc_242_7) ?_
                    refine zs_iload (pc := 154) t121_154 rfl ?_
                    have w79 := ib247 hI w15n
                    refine zs_iald (pc := 156) t121_156 (j := w15n) (by decide) (zk1 (w12s.k fk_zMc_247)) w15 (zk2 (w12s.k fk_zMc_247) (by omega)) ((w12F 247 w15n rfl).trans rfl) ?_
                    have w80 : zIv cLo cHi (zsI w12M (257 + 3 * i0 + 1) w69n (zI M 247 w15n)) := zIv.put w12I (by rw [(cT257_1 i0 hi0 w69n).1, (cT257_1 i0 hi0 w69n).2]; exact ⟨by omega, by omega⟩)
                    refine zs_iast (pc := 157) t121_157 (j := w69n) (by omega) (zk1 (w12s.k (fT257_1 i0 hi0))) w69 (zk2 (w12s.k (fT257_1 i0 hi0)) (by omega)) ?_
                    refine zs_aload (pc := 158) t121_158 rfl ?_
                    refine zs_iload (pc := 160) t121_160 rfl ?_
                    refine zs_iload (pc := 162) t121_162 rfl ?_
                    have w81 : zIv cLo cHi (zsI (zsI w12M (257 + 3 * i0 + 1) w69n (zI M 247 w15n)) (257 + 3 * i0 + 2) w69n w67v) := zIv.put w80 (by rw [(cT257_2 i0 hi0 w69n).1, (cT257_2 i0 hi0 w69n).2]; exact (zrg w67v))
                    refine zs_iast (pc := 164) t121_164 (j := w69n) (by omega) (zk1 (w12s.k (fT257_2 i0 hi0))) w69 (zk2 (w12s.k (fT257_2 i0 hi0)) (by omega)) ?_
                    obtain ⟨w82v, w82e, w82⟩ := ziadd (a := w12x6) (b := Int32.ofInt 1) rfl (show (Int32.ofInt 1).toInt = 1 by decide) (by omega) (by omega)
                    refine zs_iinc (pc := 165) t121_165 (ls' := [(6, .int w82v), (9, .int w67v), (8, .int w25v), (7, .int (zI M 248 w15n)), (0, .ref 242), (1, .ref (257 + 3 * i0)), (2, .int w3v), (3, .int w6v), (4, .int w11v), (5, .ref (257 + 3 * i0 + 2))]) (zml mf121 (by decide)) rfl (c := w82v) w82e rfl ?_
                    refine zs_goto (pc := 168) t121_168 ?_
                    refine zGo.locals (ls' := [(0, .ref 242), (1, .ref (257 + 3 * i0)), (2, .int w3v), (3, .int w6v), (4, .int w11v), (5, .ref (257 + 3 * i0 + 2)), (6, .int w82v)]) (by simp) ?_
                    exact w12ih (w12m - 1) (by omega) w82v (zsI (zsI w12M (257 + 3 * i0 + 1) w69n (zI M 247 w15n)) (257 + 3 * i0 + 2) w69n w67v) ⟨by omega, by omega⟩ w12s w81 ((((zFr.refl).trans (w12F.mono rfl)).put (zinW_r (lo := 257) (hi := 316) (by decide) (by omega) (by omega))).put (zinW_r (lo := 257) (hi := 316) (by decide) (by omega) (by omega))) (by omega)
              · refine zs_if_geF (pc := 1) t122_1 rfl (by omega) ?_
                refine zs_iload_n (pc := 4) t122_4 rfl ?_
                obtain ⟨w83v, w83e⟩ : ∃ v, -w67v = v := ⟨_, rfl⟩
                have w83 := zrg w83v
                refine zs_ineg (pc := 5) t122_5 (c := w83v) w83e ?_
                refine zs_goto (pc := 6) t122_6 ?_
                refine zs_iret (pc := 10) t122_10 mr122 rfl ?_
                show zGo X l 1 0 0 121 122 [(8, .int w25v), (7, .int (zI M 248 w15n)), (0, .ref 242), (1, .ref (257 + 3 * i0)), (2, .int w3v), (3, .int w6v), (4, .int w11v), (5, .ref (257 + 3 * i0 + 2)), (6, .int w12x6)] [.int w83v] w12M _
                refine zs_istore (pc := 122) t121_122 (ls' := [(9, .int w83v), (8, .int w25v), (7, .int (zI M 248 w15n)), (0, .ref 242), (1, .ref (257 + 3 * i0)), (2, .int w3v), (3, .int w6v), (4, .int w11v), (5, .ref (257 + 3 * i0 + 2)), (6, .int w12x6)]) (zml mf121 (by decide)) rfl ?_
                refine zs_aload_n (pc := 124) t121_124 rfl ?_
                refine zs_get (pc := 125) t121_125 (by decide) (zk1 (w12s.k (fT257_0 i0 hi0))) (w12s.p rfl (fvT257_6 i0 hi0)) ?_
                refine zs_iload (pc := 128) t121_128 rfl ?_
                obtain ⟨w84n, w84⟩ : ∃ n : Nat, (zI M 248 w15n).toInt = (n : Int) := ⟨(zI M 248 w15n).toInt.toNat, by omega⟩
                have w85 := ibT257_1 w12I hi0 w84n
                refine zs_iald (pc := 130) t121_130 (j := w84n) (by omega) (zk1 (w12s.k (fT257_1 i0 hi0))) w84 (zk2 (w12s.k (fT257_1 i0 hi0)) (by omega)) rfl ?_
                by_cases w86 : (zI w12M (257 + 3 * i0 + 1) w84n).toInt < 0
                · refine zs_if_ltT (pc := 131) t121_131 rfl (by omega) ?_
                  refine zs_aload_n (pc := 144) t121_144 rfl ?_
                  refine zs_get (pc := 145) t121_145 (by decide) (zk1 (w12s.k (fT257_0 i0 hi0))) (w12s.p rfl (fvT257_6 i0 hi0)) ?_
                  refine zs_iload (pc := 148) t121_148 rfl ?_
                  refine zs_aload_n (pc := 150) t121_150 rfl ?_
                  refine zs_get (pc := 151) t121_151 (by decide) (zk1 (w12s.k fk_zMc_242)) (w12s.p rfl fv_zMc_242_7) ?_
                  refine zs_iload (pc := 154) t121_154 rfl ?_
                  have w87 := ib247 hI w15n
                  refine zs_iald (pc := 156) t121_156 (j := w15n) (by decide) (zk1 (w12s.k fk_zMc_247)) w15 (zk2 (w12s.k fk_zMc_247) (by omega)) ((w12F 247 w15n rfl).trans rfl) ?_
                  have w88 : zIv cLo cHi (zsI w12M (257 + 3 * i0 + 1) w84n (zI M 247 w15n)) := zIv.put w12I (by rw [(cT257_1 i0 hi0 w84n).1, (cT257_1 i0 hi0 w84n).2]; exact ⟨by omega, by omega⟩)
                  refine zs_iast (pc := 157) t121_157 (j := w84n) (by omega) (zk1 (w12s.k (fT257_1 i0 hi0))) w84 (zk2 (w12s.k (fT257_1 i0 hi0)) (by omega)) ?_
                  refine zs_aload (pc := 158) t121_158 rfl ?_
                  refine zs_iload (pc := 160) t121_160 rfl ?_
                  refine zs_iload (pc := 162) t121_162 rfl ?_
                  have w89 : zIv cLo cHi (zsI (zsI w12M (257 + 3 * i0 + 1) w84n (zI M 247 w15n)) (257 + 3 * i0 + 2) w84n w83v) := zIv.put w88 (by rw [(cT257_2 i0 hi0 w84n).1, (cT257_2 i0 hi0 w84n).2]; exact (zrg w83v))
                  refine zs_iast (pc := 164) t121_164 (j := w84n) (by omega) (zk1 (w12s.k (fT257_2 i0 hi0))) w84 (zk2 (w12s.k (fT257_2 i0 hi0)) (by omega)) ?_
                  obtain ⟨w90v, w90e, w90⟩ := ziadd (a := w12x6) (b := Int32.ofInt 1) rfl (show (Int32.ofInt 1).toInt = 1 by decide) (by omega) (by omega)
                  refine zs_iinc (pc := 165) t121_165 (ls' := [(6, .int w90v), (9, .int w83v), (8, .int w25v), (7, .int (zI M 248 w15n)), (0, .ref 242), (1, .ref (257 + 3 * i0)), (2, .int w3v), (3, .int w6v), (4, .int w11v), (5, .ref (257 + 3 * i0 + 2))]) (zml mf121 (by decide)) rfl (c := w90v) w90e rfl ?_
                  refine zs_goto (pc := 168) t121_168 ?_
                  refine zGo.locals (ls' := [(0, .ref 242), (1, .ref (257 + 3 * i0)), (2, .int w3v), (3, .int w6v), (4, .int w11v), (5, .ref (257 + 3 * i0 + 2)), (6, .int w90v)]) (by simp) ?_
                  exact w12ih (w12m - 1) (by omega) w90v (zsI (zsI w12M (257 + 3 * i0 + 1) w84n (zI M 247 w15n)) (257 + 3 * i0 + 2) w84n w83v) ⟨by omega, by omega⟩ w12s w89 ((((zFr.refl).trans (w12F.mono rfl)).put (zinW_r (lo := 257) (hi := 316) (by decide) (by omega) (by omega))).put (zinW_r (lo := 257) (hi := 316) (by decide) (by omega) (by omega))) (by omega)
                · refine zs_if_ltF (pc := 131) t121_131 rfl (by omega) ?_
                  refine zs_iload (pc := 134) t121_134 rfl ?_
                  refine zs_aload (pc := 136) t121_136 rfl ?_
                  refine zs_iload (pc := 138) t121_138 rfl ?_
                  have w91 := ibT257_2 w12I hi0 w84n
                  refine zs_iald (pc := 140) t121_140 (j := w84n) (by omega) (zk1 (w12s.k (fT257_2 i0 hi0))) w84 (zk2 (w12s.k (fT257_2 i0 hi0)) (by omega)) rfl ?_
                  by_cases w92 : (zI w12M (257 + 3 * i0 + 2) w84n).toInt ≤ w83v.toInt
                  · refine zs_icmp_geT (pc := 141) t121_141 rfl rfl (by omega) ?_
                    obtain ⟨w93v, w93e, w93⟩ := ziadd (a := w12x6) (b := Int32.ofInt 1) rfl (show (Int32.ofInt 1).toInt = 1 by decide) (by omega) (by omega)
                    refine zs_iinc (pc := 165) t121_165 (ls' := [(6, .int w93v), (9, .int w83v), (8, .int w25v), (7, .int (zI M 248 w15n)), (0, .ref 242), (1, .ref (257 + 3 * i0)), (2, .int w3v), (3, .int w6v), (4, .int w11v), (5, .ref (257 + 3 * i0 + 2))]) (zml mf121 (by decide)) rfl (c := w93v) w93e rfl ?_
                    refine zs_goto (pc := 168) t121_168 ?_
                    refine zGo.locals (ls' := [(0, .ref 242), (1, .ref (257 + 3 * i0)), (2, .int w3v), (3, .int w6v), (4, .int w11v), (5, .ref (257 + 3 * i0 + 2)), (6, .int w93v)]) (by simp) ?_
                    exact w12ih (w12m - 1) (by omega) w93v w12M ⟨by omega, by omega⟩ w12s w12I ((zFr.refl).trans (w12F.mono rfl)) (by omega)
                  · refine zs_icmp_geF (pc := 141) t121_141 rfl rfl (by omega) ?_
                    refine zs_aload_n (pc := 144) t121_144 rfl ?_
                    refine zs_get (pc := 145) t121_145 (by decide) (zk1 (w12s.k (fT257_0 i0 hi0))) (w12s.p rfl (fvT257_6 i0 hi0)) ?_
                    refine zs_iload (pc := 148) t121_148 rfl ?_
                    refine zs_aload_n (pc := 150) t121_150 rfl ?_
                    refine zs_get (pc := 151) t121_151 (by decide) (zk1 (w12s.k fk_zMc_242)) (w12s.p rfl fv_zMc_242_7) ?_
                    refine zs_iload (pc := 154) t121_154 rfl ?_
                    have w94 := ib247 hI w15n
                    refine zs_iald (pc := 156) t121_156 (j := w15n) (by decide) (zk1 (w12s.k fk_zMc_247)) w15 (zk2 (w12s.k fk_zMc_247) (by omega)) ((w12F 247 w15n rfl).trans rfl) ?_
                    have w95 : zIv cLo cHi (zsI w12M (257 + 3 * i0 + 1) w84n (zI M 247 w15n)) := zIv.put w12I (by rw [(cT257_1 i0 hi0 w84n).1, (cT257_1 i0 hi0 w84n).2]; exact ⟨by omega, by omega⟩)
                    refine zs_iast (pc := 157) t121_157 (j := w84n) (by omega) (zk1 (w12s.k (fT257_1 i0 hi0))) w84 (zk2 (w12s.k (fT257_1 i0 hi0)) (by omega)) ?_
                    refine zs_aload (pc := 158) t121_158 rfl ?_
                    refine zs_iload (pc := 160) t121_160 rfl ?_
                    refine zs_iload (pc := 162) t121_162 rfl ?_
                    have w96 : zIv cLo cHi (zsI (zsI w12M (257 + 3 * i0 + 1) w84n (zI M 247 w15n)) (257 + 3 * i0 + 2) w84n w83v) := zIv.put w95 (by rw [(cT257_2 i0 hi0 w84n).1, (cT257_2 i0 hi0 w84n).2]; exact (zrg w83v))
                    refine zs_iast (pc := 164) t121_164 (j := w84n) (by omega) (zk1 (w12s.k (fT257_2 i0 hi0))) w84 (zk2 (w12s.k (fT257_2 i0 hi0)) (by omega)) ?_
                    obtain ⟨w97v, w97e, w97⟩ := ziadd (a := w12x6) (b := Int32.ofInt 1) rfl (show (Int32.ofInt 1).toInt = 1 by decide) (by omega) (by omega)
                    refine zs_iinc (pc := 165) t121_165 (ls' := [(6, .int w97v), (9, .int w83v), (8, .int w25v), (7, .int (zI M 248 w15n)), (0, .ref 242), (1, .ref (257 + 3 * i0)), (2, .int w3v), (3, .int w6v), (4, .int w11v), (5, .ref (257 + 3 * i0 + 2))]) (zml mf121 (by decide)) rfl (c := w97v) w97e rfl ?_
                    refine zs_goto (pc := 168) t121_168 ?_
                    refine zGo.locals (ls' := [(0, .ref 242), (1, .ref (257 + 3 * i0)), (2, .int w3v), (3, .int w6v), (4, .int w11v), (5, .ref (257 + 3 * i0 + 2)), (6, .int w97v)]) (by simp) ?_
                    exact w12ih (w12m - 1) (by omega) w97v (zsI (zsI w12M (257 + 3 * i0 + 1) w84n (zI M 247 w15n)) (257 + 3 * i0 + 2) w84n w83v) ⟨by omega, by omega⟩ w12s w96 ((((zFr.refl).trans (w12F.mono rfl)).put (zinW_r (lo := 257) (hi := 316) (by decide) (by omega) (by omega))).put (zinW_r (lo := 257) (hi := 316) (by decide) (by omega) (by omega))) (by omega)
            · refine zs_icmp_eqF (pc := 108) t121_108 rfl rfl (by omega) ?_
              refine zs_goto (pc := 111) t121_111 ?_
              obtain ⟨w98v, w98e, w98⟩ := ziadd (a := w12x6) (b := Int32.ofInt 1) rfl (show (Int32.ofInt 1).toInt = 1 by decide) (by omega) (by omega)
              refine zs_iinc (pc := 165) t121_165 (ls' := [(6, .int w98v), (8, .int w25v), (7, .int (zI M 248 w15n)), (0, .ref 242), (1, .ref (257 + 3 * i0)), (2, .int w3v), (3, .int w6v), (4, .int w11v), (5, .ref (257 + 3 * i0 + 2))]) (zml mf121 (by decide)) rfl (c := w98v) w98e rfl ?_
              refine zs_goto (pc := 168) t121_168 ?_
              refine zGo.locals (ls' := [(0, .ref 242), (1, .ref (257 + 3 * i0)), (2, .int w3v), (3, .int w6v), (4, .int w11v), (5, .ref (257 + 3 * i0 + 2)), (6, .int w98v)]) (by simp) ?_
              exact w12ih (w12m - 1) (by omega) w98v w12M ⟨by omega, by omega⟩ w12s w12I ((zFr.refl).trans (w12F.mono rfl)) (by omega)
          · refine zs_icmp_eqF (pc := 14) t54_14 rfl rfl (by omega) ?_
            refine zs_iload_n (pc := 17) t54_17 rfl ?_
            refine zs_iconst (pc := 18) t54_18 (v := 1) (by decide) ?_
            obtain ⟨w99v, w99⟩ : ∃ v, v = w26v - (1 : Int32) := ⟨_, rfl⟩
            have w99g := zrg w99v
            refine zs_isub (pc := 19) t54_19 (c := w99v) w99.symm ?_
            refine zs_iret (pc := 20) t54_20 mr54 rfl ?_
            show zGo X l 1 0 0 121 104 [(8, .int w25v), (7, .int (zI M 248 w15n)), (0, .ref 242), (1, .ref (257 + 3 * i0)), (2, .int w3v), (3, .int w6v), (4, .int w11v), (5, .ref (257 + 3 * i0 + 2)), (6, .int w12x6)] [.int w99v] w12M _
            refine zs_aload_n (pc := 104) t121_104 rfl ?_
            have w100 := ibT257_0_2 w12I hi0
            refine zs_get (pc := 105) t121_105 (by decide) (zk1 (w12s.k (fT257_0 i0 hi0))) (zfvi rfl rfl) ?_
            by_cases w101 : w99v.toInt = (zI w12M (257 + 3 * i0) 2).toInt
            · refine zs_icmp_eqT (pc := 108) t121_108 rfl rfl (by omega) ?_
              refine zs_iload (pc := 114) t121_114 rfl ?_
              refine zs_iload (pc := 116) t121_116 rfl ?_
              obtain ⟨w102v, w102⟩ : ∃ v, v = w25v - w11v := ⟨_, rfl⟩
              have w102g := zrg w102v
              refine zs_isub (pc := 118) t121_118 (c := w102v) w102.symm ?_
              refine zs_invS (pc := 119) (as := [.int w102v]) (st := []) t121_119 (by decide) mf122 rfl rfl ⟨by decide, by decide, Nat.le_of_ble_eq_true rfl, Nat.le_of_ble_eq_true rfl⟩ (zs_in (by decide) mf122 (Nat.le_of_ble_eq_true rfl) ?_) (fun _ _ q => q)
              show zGo X l 0 0 0 122 0 [(0, .int w102v)] [] w12M _
              refine zs_iload_n (pc := 0) t122_0 rfl ?_
              by_cases w103 : 0 ≤ w102v.toInt
              · refine zs_if_geT (pc := 1) t122_1 rfl (by omega) ?_
                refine zs_iload_n (pc := 9) t122_9 rfl ?_
                refine zs_iret (pc := 10) t122_10 mr122 rfl ?_
                show zGo X l 1 0 0 121 122 [(8, .int w25v), (7, .int (zI M 248 w15n)), (0, .ref 242), (1, .ref (257 + 3 * i0)), (2, .int w3v), (3, .int w6v), (4, .int w11v), (5, .ref (257 + 3 * i0 + 2)), (6, .int w12x6)] [.int w102v] w12M _
                refine zs_istore (pc := 122) t121_122 (ls' := [(9, .int w102v), (8, .int w25v), (7, .int (zI M 248 w15n)), (0, .ref 242), (1, .ref (257 + 3 * i0)), (2, .int w3v), (3, .int w6v), (4, .int w11v), (5, .ref (257 + 3 * i0 + 2)), (6, .int w12x6)]) (zml mf121 (by decide)) rfl ?_
                refine zs_aload_n (pc := 124) t121_124 rfl ?_
                refine zs_get (pc := 125) t121_125 (by decide) (zk1 (w12s.k (fT257_0 i0 hi0))) (w12s.p rfl (fvT257_6 i0 hi0)) ?_
                refine zs_iload (pc := 128) t121_128 rfl ?_
                obtain ⟨w104n, w104⟩ : ∃ n : Nat, (zI M 248 w15n).toInt = (n : Int) := ⟨(zI M 248 w15n).toInt.toNat, by omega⟩
                have w105 := ibT257_1 w12I hi0 w104n
                refine zs_iald (pc := 130) t121_130 (j := w104n) (by omega) (zk1 (w12s.k (fT257_1 i0 hi0))) w104 (zk2 (w12s.k (fT257_1 i0 hi0)) (by omega)) rfl ?_
                by_cases w106 : (zI w12M (257 + 3 * i0 + 1) w104n).toInt < 0
                · refine zs_if_ltT (pc := 131) t121_131 rfl (by omega) ?_
                  refine zs_aload_n (pc := 144) t121_144 rfl ?_
                  refine zs_get (pc := 145) t121_145 (by decide) (zk1 (w12s.k (fT257_0 i0 hi0))) (w12s.p rfl (fvT257_6 i0 hi0)) ?_
                  refine zs_iload (pc := 148) t121_148 rfl ?_
                  refine zs_aload_n (pc := 150) t121_150 rfl ?_
                  refine zs_get (pc := 151) t121_151 (by decide) (zk1 (w12s.k fk_zMc_242)) (w12s.p rfl fv_zMc_242_7) ?_
                  refine zs_iload (pc := 154) t121_154 rfl ?_
                  have w107 := ib247 hI w15n
                  refine zs_iald (pc := 156) t121_156 (j := w15n) (by decide) (zk1 (w12s.k fk_zMc_247)) w15 (zk2 (w12s.k fk_zMc_247) (by omega)) ((w12F 247 w15n rfl).trans rfl) ?_
                  have w108 : zIv cLo cHi (zsI w12M (257 + 3 * i0 + 1) w104n (zI M 247 w15n)) := zIv.put w12I (by rw [(cT257_1 i0 hi0 w104n).1, (cT257_1 i0 hi0 w104n).2]; exact ⟨by omega, by omega⟩)
                  refine zs_iast (pc := 157) t121_157 (j := w104n) (by omega) (zk1 (w12s.k (fT257_1 i0 hi0))) w104 (zk2 (w12s.k (fT257_1 i0 hi0)) (by omega)) ?_
                  refine zs_aload (pc := 158) t121_158 rfl ?_
                  refine zs_iload (pc := 160) t121_160 rfl ?_
                  refine zs_iload (pc := 162) t121_162 rfl ?_
                  have w109 : zIv cLo cHi (zsI (zsI w12M (257 + 3 * i0 + 1) w104n (zI M 247 w15n)) (257 + 3 * i0 + 2) w104n w102v) := zIv.put w108 (by rw [(cT257_2 i0 hi0 w104n).1, (cT257_2 i0 hi0 w104n).2]; exact (zrg w102v))
                  refine zs_iast (pc := 164) t121_164 (j := w104n) (by omega) (zk1 (w12s.k (fT257_2 i0 hi0))) w104 (zk2 (w12s.k (fT257_2 i0 hi0)) (by omega)) ?_
                  obtain ⟨w110v, w110e, w110⟩ := ziadd (a := w12x6) (b := Int32.ofInt 1) rfl (show (Int32.ofInt 1).toInt = 1 by decide) (by omega) (by omega)
                  refine zs_iinc (pc := 165) t121_165 (ls' := [(6, .int w110v), (9, .int w102v), (8, .int w25v), (7, .int (zI M 248 w15n)), (0, .ref 242), (1, .ref (257 + 3 * i0)), (2, .int w3v), (3, .int w6v), (4, .int w11v), (5, .ref (257 + 3 * i0 + 2))]) (zml mf121 (by decide)) rfl (c := w110v) w110e rfl ?_
                  refine zs_goto (pc := 168) t121_168 ?_
                  refine zGo.locals (ls' := [(0, .ref 242), (1, .ref (257 + 3 * i0)), (2, .int w3v), (3, .int w6v), (4, .int w11v), (5, .ref (257 + 3 * i0 + 2)), (6, .int w110v)]) (by simp) ?_
                  exact w12ih (w12m - 1) (by omega) w110v (zsI (zsI w12M (257 + 3 * i0 + 1) w104n (zI M 247 w15n)) (257 + 3 * i0 + 2) w104n w102v) ⟨by omega, by omega⟩ w12s w109 ((((zFr.refl).trans (w12F.mono rfl)).put (zinW_r (lo := 257) (hi := 316) (by decide) (by omega) (by omega))).put (zinW_r (lo := 257) (hi := 316) (by decide) (by omega) (by omega))) (by omega)
                · refine zs_if_ltF (pc := 131) t121_131 rfl (by omega) ?_
                  refine zs_iload (pc := 134) t121_134 rfl ?_
                  refine zs_aload (pc := 136) t121_136 rfl ?_
                  refine zs_iload (pc := 138) t121_138 rfl ?_
                  have w111 := ibT257_2 w12I hi0 w104n
                  refine zs_iald (pc := 140) t121_140 (j := w104n) (by omega) (zk1 (w12s.k (fT257_2 i0 hi0))) w104 (zk2 (w12s.k (fT257_2 i0 hi0)) (by omega)) rfl ?_
                  by_cases w112 : (zI w12M (257 + 3 * i0 + 2) w104n).toInt ≤ w102v.toInt
                  · refine zs_icmp_geT (pc := 141) t121_141 rfl rfl (by omega) ?_
                    obtain ⟨w113v, w113e, w113⟩ := ziadd (a := w12x6) (b := Int32.ofInt 1) rfl (show (Int32.ofInt 1).toInt = 1 by decide) (by omega) (by omega)
                    refine zs_iinc (pc := 165) t121_165 (ls' := [(6, .int w113v), (9, .int w102v), (8, .int w25v), (7, .int (zI M 248 w15n)), (0, .ref 242), (1, .ref (257 + 3 * i0)), (2, .int w3v), (3, .int w6v), (4, .int w11v), (5, .ref (257 + 3 * i0 + 2))]) (zml mf121 (by decide)) rfl (c := w113v) w113e rfl ?_
                    refine zs_goto (pc := 168) t121_168 ?_
                    refine zGo.locals (ls' := [(0, .ref 242), (1, .ref (257 + 3 * i0)), (2, .int w3v), (3, .int w6v), (4, .int w11v), (5, .ref (257 + 3 * i0 + 2)), (6, .int w113v)]) (by simp) ?_
                    exact w12ih (w12m - 1) (by omega) w113v w12M ⟨by omega, by omega⟩ w12s w12I ((zFr.refl).trans (w12F.mono rfl)) (by omega)
                  · refine zs_icmp_geF (pc := 141) t121_141 rfl rfl (by omega) ?_
                    refine zs_aload_n (pc := 144) t121_144 rfl ?_
                    refine zs_get (pc := 145) t121_145 (by decide) (zk1 (w12s.k (fT257_0 i0 hi0))) (w12s.p rfl (fvT257_6 i0 hi0)) ?_
                    refine zs_iload (pc := 148) t121_148 rfl ?_
                    refine zs_aload_n (pc := 150) t121_150 rfl ?_
                    refine zs_get (pc := 151) t121_151 (by decide) (zk1 (w12s.k fk_zMc_242)) (w12s.p rfl fv_zMc_242_7) ?_
                    refine zs_iload (pc := 154) t121_154 rfl ?_
                    have w114 := ib247 hI w15n
                    refine zs_iald (pc := 156) t121_156 (j := w15n) (by decide) (zk1 (w12s.k fk_zMc_247)) w15 (zk2 (w12s.k fk_zMc_247) (by omega)) ((w12F 247 w15n rfl).trans rfl) ?_
                    have w115 : zIv cLo cHi (zsI w12M (257 + 3 * i0 + 1) w104n (zI M 247 w15n)) := zIv.put w12I (by rw [(cT257_1 i0 hi0 w104n).1, (cT257_1 i0 hi0 w104n).2]; exact ⟨by omega, by omega⟩)
                    refine zs_iast (pc := 157) t121_157 (j := w104n) (by omega) (zk1 (w12s.k (fT257_1 i0 hi0))) w104 (zk2 (w12s.k (fT257_1 i0 hi0)) (by omega)) ?_
                    refine zs_aload (pc := 158) t121_158 rfl ?_
                    refine zs_iload (pc := 160) t121_160 rfl ?_
                    refine zs_iload (pc := 162) t121_162 rfl ?_
                    have w116 : zIv cLo cHi (zsI (zsI w12M (257 + 3 * i0 + 1) w104n (zI M 247 w15n)) (257 + 3 * i0 + 2) w104n w102v) := zIv.put w115 (by rw [(cT257_2 i0 hi0 w104n).1, (cT257_2 i0 hi0 w104n).2]; exact (zrg w102v))
                    refine zs_iast (pc := 164) t121_164 (j := w104n) (by omega) (zk1 (w12s.k (fT257_2 i0 hi0))) w104 (zk2 (w12s.k (fT257_2 i0 hi0)) (by omega)) ?_
                    obtain ⟨w117v, w117e, w117⟩ := ziadd (a := w12x6) (b := Int32.ofInt 1) rfl (show (Int32.ofInt 1).toInt = 1 by decide) (by omega) (by omega)
                    refine zs_iinc (pc := 165) t121_165 (ls' := [(6, .int w117v), (9, .int w102v), (8, .int w25v), (7, .int (zI M 248 w15n)), (0, .ref 242), (1, .ref (257 + 3 * i0)), (2, .int w3v), (3, .int w6v), (4, .int w11v), (5, .ref (257 + 3 * i0 + 2))]) (zml mf121 (by decide)) rfl (c := w117v) w117e rfl ?_
                    refine zs_goto (pc := 168) t121_168 ?_
                    refine zGo.locals (ls' := [(0, .ref 242), (1, .ref (257 + 3 * i0)), (2, .int w3v), (3, .int w6v), (4, .int w11v), (5, .ref (257 + 3 * i0 + 2)), (6, .int w117v)]) (by simp) ?_
                    exact w12ih (w12m - 1) (by omega) w117v (zsI (zsI w12M (257 + 3 * i0 + 1) w104n (zI M 247 w15n)) (257 + 3 * i0 + 2) w104n w102v) ⟨by omega, by omega⟩ w12s w116 ((((zFr.refl).trans (w12F.mono rfl)).put (zinW_r (lo := 257) (hi := 316) (by decide) (by omega) (by omega))).put (zinW_r (lo := 257) (hi := 316) (by decide) (by omega) (by omega))) (by omega)
              · refine zs_if_geF (pc := 1) t122_1 rfl (by omega) ?_
                refine zs_iload_n (pc := 4) t122_4 rfl ?_
                obtain ⟨w118v, w118e⟩ : ∃ v, -w102v = v := ⟨_, rfl⟩
                have w118 := zrg w118v
                refine zs_ineg (pc := 5) t122_5 (c := w118v) w118e ?_
                refine zs_goto (pc := 6) t122_6 ?_
                refine zs_iret (pc := 10) t122_10 mr122 rfl ?_
                show zGo X l 1 0 0 121 122 [(8, .int w25v), (7, .int (zI M 248 w15n)), (0, .ref 242), (1, .ref (257 + 3 * i0)), (2, .int w3v), (3, .int w6v), (4, .int w11v), (5, .ref (257 + 3 * i0 + 2)), (6, .int w12x6)] [.int w118v] w12M _
                refine zs_istore (pc := 122) t121_122 (ls' := [(9, .int w118v), (8, .int w25v), (7, .int (zI M 248 w15n)), (0, .ref 242), (1, .ref (257 + 3 * i0)), (2, .int w3v), (3, .int w6v), (4, .int w11v), (5, .ref (257 + 3 * i0 + 2)), (6, .int w12x6)]) (zml mf121 (by decide)) rfl ?_
                refine zs_aload_n (pc := 124) t121_124 rfl ?_
                refine zs_get (pc := 125) t121_125 (by decide) (zk1 (w12s.k (fT257_0 i0 hi0))) (w12s.p rfl (fvT257_6 i0 hi0)) ?_
                refine zs_iload (pc := 128) t121_128 rfl ?_
                obtain ⟨w119n, w119⟩ : ∃ n : Nat, (zI M 248 w15n).toInt = (n : Int) := ⟨(zI M 248 w15n).toInt.toNat, by omega⟩
                have w120 := ibT257_1 w12I hi0 w119n
                refine zs_iald (pc := 130) t121_130 (j := w119n) (by omega) (zk1 (w12s.k (fT257_1 i0 hi0))) w119 (zk2 (w12s.k (fT257_1 i0 hi0)) (by omega)) rfl ?_
                by_cases w121 : (zI w12M (257 + 3 * i0 + 1) w119n).toInt < 0
                · refine zs_if_ltT (pc := 131) t121_131 rfl (by omega) ?_
                  refine zs_aload_n (pc := 144) t121_144 rfl ?_
                  refine zs_get (pc := 145) t121_145 (by decide) (zk1 (w12s.k (fT257_0 i0 hi0))) (w12s.p rfl (fvT257_6 i0 hi0)) ?_
                  refine zs_iload (pc := 148) t121_148 rfl ?_
                  refine zs_aload_n (pc := 150) t121_150 rfl ?_
                  refine zs_get (pc := 151) t121_151 (by decide) (zk1 (w12s.k fk_zMc_242)) (w12s.p rfl fv_zMc_242_7) ?_
                  refine zs_iload (pc := 154) t121_154 rfl ?_
                  have w122 := ib247 hI w15n
                  refine zs_iald (pc := 156) t121_156 (j := w15n) (by decide) (zk1 (w12s.k fk_zMc_247)) w15 (zk2 (w12s.k fk_zMc_247) (by omega)) ((w12F 247 w15n rfl).trans rfl) ?_
                  have w123 : zIv cLo cHi (zsI w12M (257 + 3 * i0 + 1) w119n (zI M 247 w15n)) := zIv.put w12I (by rw [(cT257_1 i0 hi0 w119n).1, (cT257_1 i0 hi0 w119n).2]; exact ⟨by omega, by omega⟩)
                  refine zs_iast (pc := 157) t121_157 (j := w119n) (by omega) (zk1 (w12s.k (fT257_1 i0 hi0))) w119 (zk2 (w12s.k (fT257_1 i0 hi0)) (by omega)) ?_
                  refine zs_aload (pc := 158) t121_158 rfl ?_
                  refine zs_iload (pc := 160) t121_160 rfl ?_
                  refine zs_iload (pc := 162) t121_162 rfl ?_
                  have w124 : zIv cLo cHi (zsI (zsI w12M (257 + 3 * i0 + 1) w119n (zI M 247 w15n)) (257 + 3 * i0 + 2) w119n w118v) := zIv.put w123 (by rw [(cT257_2 i0 hi0 w119n).1, (cT257_2 i0 hi0 w119n).2]; exact (zrg w118v))
                  refine zs_iast (pc := 164) t121_164 (j := w119n) (by omega) (zk1 (w12s.k (fT257_2 i0 hi0))) w119 (zk2 (w12s.k (fT257_2 i0 hi0)) (by omega)) ?_
                  obtain ⟨w125v, w125e, w125⟩ := ziadd (a := w12x6) (b := Int32.ofInt 1) rfl (show (Int32.ofInt 1).toInt = 1 by decide) (by omega) (by omega)
                  refine zs_iinc (pc := 165) t121_165 (ls' := [(6, .int w125v), (9, .int w118v), (8, .int w25v), (7, .int (zI M 248 w15n)), (0, .ref 242), (1, .ref (257 + 3 * i0)), (2, .int w3v), (3, .int w6v), (4, .int w11v), (5, .ref (257 + 3 * i0 + 2))]) (zml mf121 (by decide)) rfl (c := w125v) w125e rfl ?_
                  refine zs_goto (pc := 168) t121_168 ?_
                  refine zGo.locals (ls' := [(0, .ref 242), (1, .ref (257 + 3 * i0)), (2, .int w3v), (3, .int w6v), (4, .int w11v), (5, .ref (257 + 3 * i0 + 2)), (6, .int w125v)]) (by simp) ?_
                  exact w12ih (w12m - 1) (by omega) w125v (zsI (zsI w12M (257 + 3 * i0 + 1) w119n (zI M 247 w15n)) (257 + 3 * i0 + 2) w119n w118v) ⟨by omega, by omega⟩ w12s w124 ((((zFr.refl).trans (w12F.mono rfl)).put (zinW_r (lo := 257) (hi := 316) (by decide) (by omega) (by omega))).put (zinW_r (lo := 257) (hi := 316) (by decide) (by omega) (by omega))) (by omega)
                · refine zs_if_ltF (pc := 131) t121_131 rfl (by omega) ?_
                  refine zs_iload (pc := 134) t121_134 rfl ?_
                  refine zs_aload (pc := 136) t121_136 rfl ?_
                  refine zs_iload (pc := 138) t121_138 rfl ?_
                  have w126 := ibT257_2 w12I hi0 w119n
                  refine zs_iald (pc := 140) t121_140 (j := w119n) (by omega) (zk1 (w12s.k (fT257_2 i0 hi0))) w119 (zk2 (w12s.k (fT257_2 i0 hi0)) (by omega)) rfl ?_
                  by_cases w127 : (zI w12M (257 + 3 * i0 + 2) w119n).toInt ≤ w118v.toInt
                  · refine zs_icmp_geT (pc := 141) t121_141 rfl rfl (by omega) ?_
                    obtain ⟨w128v, w128e, w128⟩ := ziadd (a := w12x6) (b := Int32.ofInt 1) rfl (show (Int32.ofInt 1).toInt = 1 by decide) (by omega) (by omega)
                    refine zs_iinc (pc := 165) t121_165 (ls' := [(6, .int w128v), (9, .int w118v), (8, .int w25v), (7, .int (zI M 248 w15n)), (0, .ref 242), (1, .ref (257 + 3 * i0)), (2, .int w3v), (3, .int w6v), (4, .int w11v), (5, .ref (257 + 3 * i0 + 2))]) (zml mf121 (by decide)) rfl (c := w128v) w128e rfl ?_
                    refine zs_goto (pc := 168) t121_168 ?_
                    refine zGo.locals (ls' := [(0, .ref 242), (1, .ref (257 + 3 * i0)), (2, .int w3v), (3, .int w6v), (4, .int w11v), (5, .ref (257 + 3 * i0 + 2)), (6, .int w128v)]) (by simp) ?_
                    exact w12ih (w12m - 1) (by omega) w128v w12M ⟨by omega, by omega⟩ w12s w12I ((zFr.refl).trans (w12F.mono rfl)) (by omega)
                  · refine zs_icmp_geF (pc := 141) t121_141 rfl rfl (by omega) ?_
                    refine zs_aload_n (pc := 144) t121_144 rfl ?_
                    refine zs_get (pc := 145) t121_145 (by decide) (zk1 (w12s.k (fT257_0 i0 hi0))) (w12s.p rfl (fvT257_6 i0 hi0)) ?_
                    refine zs_iload (pc := 148) t121_148 rfl ?_
                    refine zs_aload_n (pc := 150) t121_150 rfl ?_
                    refine zs_get (pc := 151) t121_151 (by decide) (zk1 (w12s.k fk_zMc_242)) (w12s.p rfl fv_zMc_242_7) ?_
                    refine zs_iload (pc := 154) t121_154 rfl ?_
                    have w129 := ib247 hI w15n
                    refine zs_iald (pc := 156) t121_156 (j := w15n) (by decide) (zk1 (w12s.k fk_zMc_247)) w15 (zk2 (w12s.k fk_zMc_247) (by omega)) ((w12F 247 w15n rfl).trans rfl) ?_
                    have w130 : zIv cLo cHi (zsI w12M (257 + 3 * i0 + 1) w119n (zI M 247 w15n)) := zIv.put w12I (by rw [(cT257_1 i0 hi0 w119n).1, (cT257_1 i0 hi0 w119n).2]; exact ⟨by omega, by omega⟩)
                    refine zs_iast (pc := 157) t121_157 (j := w119n) (by omega) (zk1 (w12s.k (fT257_1 i0 hi0))) w119 (zk2 (w12s.k (fT257_1 i0 hi0)) (by omega)) ?_
                    refine zs_aload (pc := 158) t121_158 rfl ?_
                    refine zs_iload (pc := 160) t121_160 rfl ?_
                    refine zs_iload (pc := 162) t121_162 rfl ?_
                    have w131 : zIv cLo cHi (zsI (zsI w12M (257 + 3 * i0 + 1) w119n (zI M 247 w15n)) (257 + 3 * i0 + 2) w119n w118v) := zIv.put w130 (by rw [(cT257_2 i0 hi0 w119n).1, (cT257_2 i0 hi0 w119n).2]; exact (zrg w118v))
                    refine zs_iast (pc := 164) t121_164 (j := w119n) (by omega) (zk1 (w12s.k (fT257_2 i0 hi0))) w119 (zk2 (w12s.k (fT257_2 i0 hi0)) (by omega)) ?_
                    obtain ⟨w132v, w132e, w132⟩ := ziadd (a := w12x6) (b := Int32.ofInt 1) rfl (show (Int32.ofInt 1).toInt = 1 by decide) (by omega) (by omega)
                    refine zs_iinc (pc := 165) t121_165 (ls' := [(6, .int w132v), (9, .int w118v), (8, .int w25v), (7, .int (zI M 248 w15n)), (0, .ref 242), (1, .ref (257 + 3 * i0)), (2, .int w3v), (3, .int w6v), (4, .int w11v), (5, .ref (257 + 3 * i0 + 2))]) (zml mf121 (by decide)) rfl (c := w132v) w132e rfl ?_
                    refine zs_goto (pc := 168) t121_168 ?_
                    refine zGo.locals (ls' := [(0, .ref 242), (1, .ref (257 + 3 * i0)), (2, .int w3v), (3, .int w6v), (4, .int w11v), (5, .ref (257 + 3 * i0 + 2)), (6, .int w132v)]) (by simp) ?_
                    exact w12ih (w12m - 1) (by omega) w132v (zsI (zsI w12M (257 + 3 * i0 + 1) w119n (zI M 247 w15n)) (257 + 3 * i0 + 2) w119n w118v) ⟨by omega, by omega⟩ w12s w131 ((((zFr.refl).trans (w12F.mono rfl)).put (zinW_r (lo := 257) (hi := 316) (by decide) (by omega) (by omega))).put (zinW_r (lo := 257) (hi := 316) (by decide) (by omega) (by omega))) (by omega)
            · refine zs_icmp_eqF (pc := 108) t121_108 rfl rfl (by omega) ?_
              refine zs_goto (pc := 111) t121_111 ?_
              obtain ⟨w133v, w133e, w133⟩ := ziadd (a := w12x6) (b := Int32.ofInt 1) rfl (show (Int32.ofInt 1).toInt = 1 by decide) (by omega) (by omega)
              refine zs_iinc (pc := 165) t121_165 (ls' := [(6, .int w133v), (8, .int w25v), (7, .int (zI M 248 w15n)), (0, .ref 242), (1, .ref (257 + 3 * i0)), (2, .int w3v), (3, .int w6v), (4, .int w11v), (5, .ref (257 + 3 * i0 + 2))]) (zml mf121 (by decide)) rfl (c := w133v) w133e rfl ?_
              refine zs_goto (pc := 168) t121_168 ?_
              refine zGo.locals (ls' := [(0, .ref 242), (1, .ref (257 + 3 * i0)), (2, .int w3v), (3, .int w6v), (4, .int w11v), (5, .ref (257 + 3 * i0 + 2)), (6, .int w133v)]) (by simp) ?_
              exact w12ih (w12m - 1) (by omega) w133v w12M ⟨by omega, by omega⟩ w12s w12I ((zFr.refl).trans (w12F.mono rfl)) (by omega)
  refine zGo.locals (ls' := [(0, .ref 242), (1, .ref (257 + 3 * i0)), (2, .int w3v), (3, .int w6v), (4, .int w11v), (5, .ref (257 + 3 * i0 + 2)), (6, .int (0 : Int32))]) (by simp) ?_
  have w134 := li0
  exact w12L ((60 - 0 : Int).toNat) (0 : Int32) M ⟨by decide, by decide⟩ hs hI zFr.refl (by omega)
theorem C123_242_T257 {X : zX} {l : Launch} {M : zM} {Q : Option Value → zM → Prop} (hs : zSk zMc M) (hI : zIv cLo cHi M) {i0 : Nat} (hi0 : i0 < 20) (hQ : ∀ M', zSk zMc M' → zIv cLo cHi M' → zFr [(242, 254, none)] M M' → Q none M') : zCall X l 0 0 0 123 [.ref 242, .ref (257 + 3 * i0)] M Q := by
  refine zs_in (by decide) mf123 (Nat.le_of_ble_eq_true rfl) ?_
  show zGo X l 0 0 0 123 0 [(0, .ref 242), (1, .ref (257 + 3 * i0))] [] M _
  refine zs_iconst (pc := 0) t123_0 (v := 0) (by decide) ?_
  refine zs_istore_n (pc := 1) t123_1 (ls' := [(2, .int (0 : Int32)), (0, .ref 242), (1, .ref (257 + 3 * i0))]) (zml mf123 (by decide)) rfl ?_
  refine zs_iconst (pc := 2) t123_2 (v := 0) (by decide) ?_
  refine zs_istore_n (pc := 3) t123_3 (ls' := [(3, .int (0 : Int32)), (2, .int (0 : Int32)), (0, .ref 242), (1, .ref (257 + 3 * i0))]) (zml mf123 (by decide)) rfl ?_
  have w1L : ∀ (m : Nat) (w1x2 : Int32) (w1x3 : Int32) (w1M : zM), (0 ≤ w1x2.toInt ∧ w1x2.toInt ≤ 60) → (0 ≤ w1x3.toInt ∧ w1x3.toInt ≤ 60) → zSk zMc w1M → zIv cLo cHi w1M → zFr [(242, 254, none)] M w1M → (w1x2.toInt ≤ w1x3.toInt) → 60 - w1x3.toInt ≤ (m : Int) → zGo X l 0 0 0 123 4 [(0, .ref 242), (1, .ref (257 + 3 * i0)), (2, .int w1x2), (3, .int w1x3)] [] w1M Q := by
    intro m
    induction m using Nat.strongRecOn with
    | ind w1m w1ih =>
      intro w1x2 w1x3 w1M w1b2 w1b3 w1s w1I w1F w1r0 w1q
      refine zs_iload_n (pc := 4) t123_4 rfl ?_
      refine zs_aload_n (pc := 5) t123_5 rfl ?_
      have w2 := ib242_6 w1I
      refine zs_get (pc := 6) t123_6 (by decide) (zk1 (w1s.k fk_zMc_242)) (zfvi rfl rfl) ?_
      by_cases w3 : (zI w1M 242 6).toInt ≤ w1x3.toInt
      · refine zs_icmp_geT (pc := 9) t123_9 rfl rfl (by omega) ?_
        refine zs_aload_n (pc := 77) t123_77 rfl ?_
        refine zs_iload_n (pc := 78) t123_78 rfl ?_
        have w4 : zIv cLo cHi (zsI w1M 242 6 w1x2) := zIv.put w1I (show 0 ≤ w1x2.toInt ∧ w1x2.toInt ≤ 60 from ⟨by omega, by omega⟩)
        refine zs_putI (pc := 79) t123_79 (zk1 (w1s.k fk_zMc_242)) rfl ?_
        exact zs_vret (pc := 82) t123_82 mr123 (hQ _ w1s w4 (((zFr.refl).trans (w1F.mono rfl)).put rfl))
      · refine zs_icmp_geF (pc := 9) t123_9 rfl rfl (by omega) ?_
        refine zs_aload_n (pc := 12) t123_12 rfl ?_
        refine zs_get (pc := 13) t123_13 (by decide) (zk1 (w1s.k (fT257_0 i0 hi0))) (w1s.p rfl (fvT257_6 i0 hi0)) ?_
        refine zs_aload_n (pc := 16) t123_16 rfl ?_
        refine zs_get (pc := 17) t123_17 (by decide) (zk1 (w1s.k fk_zMc_242)) (w1s.p rfl fv_zMc_242_8) ?_
        refine zs_iload_n (pc := 20) t123_20 rfl ?_
        obtain ⟨w5n, w5⟩ : ∃ n : Nat, w1x3.toInt = (n : Int) := ⟨w1x3.toInt.toNat, by omega⟩
        have w6 := ib248 w1I w5n
        refine zs_iald (pc := 21) t123_21 (j := w5n) (by decide) (zk1 (w1s.k fk_zMc_248)) w5 (zk2 (w1s.k fk_zMc_248) (by omega)) rfl ?_
        obtain ⟨w7n, w7⟩ : ∃ n : Nat, (zI w1M 248 w5n).toInt = (n : Int) := ⟨(zI w1M 248 w5n).toInt.toNat, by omega⟩
        have w8 := ibT257_1 w1I hi0 w7n
        refine zs_iald (pc := 22) t123_22 (j := w7n) (by omega) (zk1 (w1s.k (fT257_1 i0 hi0))) w7 (zk2 (w1s.k (fT257_1 i0 hi0)) (by omega)) rfl ?_
        refine zs_aload_n (pc := 23) t123_23 rfl ?_
        refine zs_get (pc := 24) t123_24 (by decide) (zk1 (w1s.k fk_zMc_242)) (w1s.p rfl fv_zMc_242_7) ?_
        refine zs_iload_n (pc := 27) t123_27 rfl ?_
        have w9 := ib247 w1I w5n
        refine zs_iald (pc := 28) t123_28 (j := w5n) (by decide) (zk1 (w1s.k fk_zMc_247)) w5 (zk2 (w1s.k fk_zMc_247) (by omega)) rfl ?_
        by_cases w10 : (zI w1M (257 + 3 * i0 + 1) w7n).toInt = (zI w1M 247 w5n).toInt
        · refine zs_icmp_eqT (pc := 29) t123_29 rfl rfl (by omega) ?_
          obtain ⟨w11v, w11e, w11⟩ := ziadd (a := w1x3) (b := Int32.ofInt 1) rfl (show (Int32.ofInt 1).toInt = 1 by decide) (by omega) (by omega)
          refine zs_iinc (pc := 71) t123_71 (ls' := [(3, .int w11v), (0, .ref 242), (1, .ref (257 + 3 * i0)), (2, .int w1x2)]) (zml mf123 (by decide)) rfl (c := w11v) w11e rfl ?_
          refine zs_goto (pc := 74) t123_74 ?_
          refine zGo.locals (ls' := [(0, .ref 242), (1, .ref (257 + 3 * i0)), (2, .int w1x2), (3, .int w11v)]) (by simp) ?_
          exact w1ih (w1m - 1) (by omega) w1x2 w11v w1M ⟨by omega, by omega⟩ ⟨by omega, by omega⟩ w1s w1I ((zFr.refl).trans (w1F.mono rfl)) (by omega) (by omega)
        · refine zs_icmp_eqF (pc := 29) t123_29 rfl rfl (by omega) ?_
          refine zs_aload_n (pc := 32) t123_32 rfl ?_
          refine zs_get (pc := 33) t123_33 (by decide) (zk1 (w1s.k fk_zMc_242)) (w1s.p rfl fv_zMc_242_7) ?_
          refine zs_iload_n (pc := 36) t123_36 rfl ?_
          refine zs_aload_n (pc := 37) t123_37 rfl ?_
          refine zs_get (pc := 38) t123_38 (by decide) (zk1 (w1s.k fk_zMc_242)) (w1s.p rfl fv_zMc_242_7) ?_
          refine zs_iload_n (pc := 41) t123_41 rfl ?_
          refine zs_iald (pc := 42) t123_42 (j := w5n) (by decide) (zk1 (w1s.k fk_zMc_247)) w5 (zk2 (w1s.k fk_zMc_247) (by omega)) rfl ?_
          obtain ⟨w12n, w12⟩ : ∃ n : Nat, w1x2.toInt = (n : Int) := ⟨w1x2.toInt.toNat, by omega⟩
          have w13 : zIv cLo cHi (zsI w1M 247 w12n (zI w1M 247 w5n)) := zIv.put w1I (show 0 ≤ (zI w1M 247 w5n).toInt ∧ (zI w1M 247 w5n).toInt ≤ 59 from ⟨by omega, by omega⟩)
          refine zs_iast (pc := 43) t123_43 (j := w12n) (by decide) (zk1 (w1s.k fk_zMc_247)) w12 (zk2 (w1s.k fk_zMc_247) (by omega)) ?_
          refine zs_aload_n (pc := 44) t123_44 rfl ?_
          refine zs_get (pc := 45) t123_45 (by decide) (zk1 (w1s.k fk_zMc_242)) (w1s.p rfl fv_zMc_242_8) ?_
          refine zs_iload_n (pc := 48) t123_48 rfl ?_
          refine zs_aload_n (pc := 49) t123_49 rfl ?_
          refine zs_get (pc := 50) t123_50 (by decide) (zk1 (w1s.k fk_zMc_242)) (w1s.p rfl fv_zMc_242_8) ?_
          refine zs_iload_n (pc := 53) t123_53 rfl ?_
          refine zs_iald (pc := 54) t123_54 (j := w5n) (by decide) (zk1 (w1s.k fk_zMc_248)) w5 (zk2 (w1s.k fk_zMc_248) (by omega)) ((zIo (by decide)).trans rfl) ?_
          have w14 : zIv cLo cHi (zsI (zsI w1M 247 w12n (zI w1M 247 w5n)) 248 w12n (zI w1M 248 w5n)) := zIv.put w13 (show 0 ≤ (zI w1M 248 w5n).toInt ∧ (zI w1M 248 w5n).toInt ≤ 7 from ⟨by omega, by omega⟩)
          refine zs_iast (pc := 55) t123_55 (j := w12n) (by decide) (zk1 (w1s.k fk_zMc_248)) w12 (zk2 (w1s.k fk_zMc_248) (by omega)) ?_
          refine zs_aload_n (pc := 56) t123_56 rfl ?_
          refine zs_get (pc := 57) t123_57 (by decide) (zk1 (w1s.k fk_zMc_242)) (w1s.p rfl fv_zMc_242_9) ?_
          refine zs_iload_n (pc := 60) t123_60 rfl ?_
          refine zs_aload_n (pc := 61) t123_61 rfl ?_
          refine zs_get (pc := 62) t123_62 (by decide) (zk1 (w1s.k fk_zMc_242)) (w1s.p rfl fv_zMc_242_9) ?_
          refine zs_iload_n (pc := 65) t123_65 rfl ?_
          have w15 := ib249 w1I w5n
          refine zs_iald (pc := 66) t123_66 (j := w5n) (by decide) (zk1 (w1s.k fk_zMc_249)) w5 (zk2 (w1s.k fk_zMc_249) (by omega)) ((zIo (by decide)).trans ((zIo (by decide)).trans rfl)) ?_
          have w16 : zIv cLo cHi (zsI (zsI (zsI w1M 247 w12n (zI w1M 247 w5n)) 248 w12n (zI w1M 248 w5n)) 249 w12n (zI w1M 249 w5n)) := zIv.put w14 (show (-2147483648) ≤ (zI w1M 249 w5n).toInt ∧ (zI w1M 249 w5n).toInt ≤ 2147483647 from (zrg (zI w1M 249 w5n)))
          refine zs_iast (pc := 67) t123_67 (j := w12n) (by decide) (zk1 (w1s.k fk_zMc_249)) w12 (zk2 (w1s.k fk_zMc_249) (by omega)) ?_
          obtain ⟨w17v, w17e, w17⟩ := ziadd (a := w1x2) (b := Int32.ofInt 1) rfl (show (Int32.ofInt 1).toInt = 1 by decide) (by omega) (by omega)
          refine zs_iinc (pc := 68) t123_68 (ls' := [(2, .int w17v), (0, .ref 242), (1, .ref (257 + 3 * i0)), (3, .int w1x3)]) (zml mf123 (by decide)) rfl (c := w17v) w17e rfl ?_
          obtain ⟨w18v, w18e, w18⟩ := ziadd (a := w1x3) (b := Int32.ofInt 1) rfl (show (Int32.ofInt 1).toInt = 1 by decide) (by omega) (by omega)
          refine zs_iinc (pc := 71) t123_71 (ls' := [(3, .int w18v), (2, .int w17v), (0, .ref 242), (1, .ref (257 + 3 * i0))]) (zml mf123 (by decide)) rfl (c := w18v) w18e rfl ?_
          refine zs_goto (pc := 74) t123_74 ?_
          refine zGo.locals (ls' := [(0, .ref 242), (1, .ref (257 + 3 * i0)), (2, .int w17v), (3, .int w18v)]) (by simp) ?_
          exact w1ih (w1m - 1) (by omega) w17v w18v (zsI (zsI (zsI w1M 247 w12n (zI w1M 247 w5n)) 248 w12n (zI w1M 248 w5n)) 249 w12n (zI w1M 249 w5n)) ⟨by omega, by omega⟩ ⟨by omega, by omega⟩ w1s w16 (((((zFr.refl).trans (w1F.mono rfl)).put rfl).put rfl).put rfl) (by omega) (by omega)
  refine zGo.locals (ls' := [(0, .ref 242), (1, .ref (257 + 3 * i0)), (2, .int (0 : Int32)), (3, .int (0 : Int32))]) (by simp) ?_
  have w19 := li0
  have w20 := li0
  exact w1L ((60 - 0 : Int).toNat) (0 : Int32) (0 : Int32) M ⟨by decide, by decide⟩ ⟨by decide, by decide⟩ hs hI zFr.refl (by omega) (by omega)
theorem C111_241 {X : zX} {l : Launch} {M : zM} {Q : Option Value → zM → Prop} {a : Int32} (hs : zSk zMc M) (hI : zIv cLo cHi M) (hQ : ∀ (M' : zM) (v : Int32), zSk zMc M' → zIv cLo cHi M' → zFr [(241, 241, some 4), (241, 241, some 5), (256, 256, none), (242, 254, none)] M M' → (-1) ≤ v.toInt → v.toInt ≤ 286 → Q (some (.int v)) M') : zCall X l 2 0 0 111 [.ref 241, .int a] M Q := by
  have ga := zrg a
  refine zs_in (by decide) mf111 (Nat.le_of_ble_eq_true rfl) ?_
  show zGo X l 2 0 0 111 0 [(0, .ref 241), (1, .int a)] [] M _
  refine zs_iconst (pc := 0) t111_0 (v := -1) (by decide) ?_
  refine zs_istore_n (pc := 1) t111_1 (ls' := [(2, .int (-1 : Int32)), (0, .ref 241), (1, .int a)]) (zml mf111 (by decide)) rfl ?_
  refine zs_aload_n (pc := 2) t111_2 rfl ?_
  refine zs_get (pc := 3) t111_3 (by decide) (zk1 (hs.k fk_zMc_241)) (hs.p rfl fv_zMc_241_0) ?_
  refine zs_invV (pc := 6) (k := 242) (as' := []) (st := []) t111_6 mf112 rfl rfl (Or.inl ⟨by decide, (zk1 (hs.k fk_zMc_242))⟩) ⟨by decide, by decide, Nat.le_of_ble_eq_true rfl, Nat.le_of_ble_eq_true rfl⟩ (C112_242 hs hI ?_) (fun _ _ q => q)
  intro w1v w1a w1b
  show zGo X l 2 0 0 111 9 [(2, .int (-1 : Int32)), (0, .ref 241), (1, .int a)] [.int w1v] M _
  refine zs_istore_n (pc := 9) t111_9 (ls' := [(3, .int w1v), (2, .int (-1 : Int32)), (0, .ref 241), (1, .int a)]) (zml mf111 (by decide)) rfl ?_
  refine zs_aload_n (pc := 10) t111_10 rfl ?_
  refine zs_iload_n (pc := 11) t111_11 rfl ?_
  refine zs_iconst (pc := 12) t111_12 (v := 1) (by decide) ?_
  obtain ⟨w2v, w2⟩ : ∃ v, v = a - (1 : Int32) := ⟨_, rfl⟩
  have w2g := zrg w2v
  refine zs_isub (pc := 13) t111_13 (c := w2v) w2.symm ?_
  have w3 : zIv cLo cHi (zsI M 241 4 w2v) := zIv.put hI (show (-2147483648) ≤ w2v.toInt ∧ w2v.toInt ≤ 2147483647 from (zrg w2v))
  refine zs_putI (pc := 14) t111_14 (zk1 (hs.k fk_zMc_241)) rfl ?_
  refine zs_iconst (pc := 17) t111_17 (v := 0) (by decide) ?_
  refine zs_istore (pc := 18) t111_18 (ls' := [(4, .int (0 : Int32)), (3, .int w1v), (2, .int (-1 : Int32)), (0, .ref 241), (1, .int a)]) (zml mf111 (by decide)) rfl ?_
  have w4L : ∀ (m : Nat) (w4x2 : Int32) (w4x4 : Int32) (w4M : zM), ((-1) ≤ w4x2.toInt ∧ w4x2.toInt ≤ 286) → (0 ≤ w4x4.toInt ∧ w4x4.toInt ≤ 287) → zSk zMc w4M → zIv cLo cHi w4M → zFr [(241, 241, some 4), (241, 241, some 5), (256, 256, none), (242, 254, none)] (zsI M 241 4 w2v) w4M → 287 - w4x4.toInt ≤ (m : Int) → zGo X l 2 0 0 111 20 [(0, .ref 241), (1, .int a), (2, .int w4x2), (3, .int w1v), (4, .int w4x4)] [] w4M Q := by
    intro m
    induction m using Nat.strongRecOn with
    | ind w4m w4ih =>
      intro w4x2 w4x4 w4M w4b2 w4b4 w4s w4I w4F w4q
      refine zs_iload (pc := 20) t111_20 rfl ?_
      refine zs_aload_n (pc := 22) t111_22 rfl ?_
      refine zs_get (pc := 23) t111_23 (by decide) (zk1 (w4s.k fk_zMc_241)) (w4s.p rfl fv_zMc_241_0) ?_
      refine zs_invV (pc := 26) (k := 242) (as' := []) (st := [.int w4x4]) t111_26 mf110 rfl rfl (Or.inl ⟨by decide, (zk1 (w4s.k fk_zMc_242))⟩) ⟨by decide, by decide, Nat.le_of_ble_eq_true rfl, Nat.le_of_ble_eq_true rfl⟩ (zs_in (by decide) mf110 (Nat.le_of_ble_eq_true rfl) ?_) (fun _ _ q => q)
      show zGo X l 0 0 0 110 0 [(0, .ref 242)] [] w4M _
      refine zs_aload_n (pc := 0) t110_0 rfl ?_
      have w5 := ib242_0 w4I
      refine zs_get (pc := 1) t110_1 (by decide) (zk1 (w4s.k fk_zMc_242)) (zfvi rfl rfl) ?_
      refine zs_iret (pc := 4) t110_4 mr110 rfl ?_
      show zGo X l 2 0 0 111 29 [(0, .ref 241), (1, .int a), (2, .int w4x2), (3, .int w1v), (4, .int w4x4)] [.int (zI w4M 242 0), .int w4x4] w4M _
      by_cases w6 : (zI w4M 242 0).toInt ≤ w4x4.toInt
      · refine zs_icmp_geT (pc := 29) t111_29 rfl rfl (by omega) ?_
        refine zs_iload_n (pc := 125) t111_125 rfl ?_
        exact zs_iret (pc := 126) t111_126 mr111 rfl (hQ _ _ w4s w4I (((zFr.refl).put rfl).trans (w4F.mono rfl)) (by omega) (by omega))
      · refine zs_icmp_geF (pc := 29) t111_29 rfl rfl (by omega) ?_
        refine zs_aload_n (pc := 32) t111_32 rfl ?_
        have w7 := ib241_4 w4I
        refine zs_get (pc := 33) t111_33 (by decide) (zk1 (w4s.k fk_zMc_241)) (zfvi rfl rfl) ?_
        refine zs_iload_n (pc := 36) t111_36 rfl ?_
        by_cases w8 : w1v.toInt ≤ (zI w4M 241 4).toInt
        · refine zs_icmp_geT (pc := 37) t111_37 rfl rfl (by omega) ?_
          refine zs_iload_n (pc := 125) t111_125 rfl ?_
          exact zs_iret (pc := 126) t111_126 mr111 rfl (hQ _ _ w4s w4I (((zFr.refl).put rfl).trans (w4F.mono rfl)) (by omega) (by omega))
        · refine zs_icmp_geF (pc := 37) t111_37 rfl rfl (by omega) ?_
          refine zs_aload_n (pc := 40) t111_40 rfl ?_
          refine zs_get (pc := 41) t111_41 (by decide) (zk1 (w4s.k fk_zMc_241)) (w4s.p rfl fv_zMc_241_3) ?_
          refine zs_iload (pc := 44) t111_44 rfl ?_
          obtain ⟨w9n, w9⟩ : ∃ n : Nat, w4x4.toInt = (n : Int) := ⟨w4x4.toInt.toNat, by omega⟩
          have w10 := ib256 w4I w9n
          refine zs_iald (pc := 46) t111_46 (j := w9n) (by decide) (zk1 (w4s.k fk_zMc_256)) w9 (zk2 (w4s.k fk_zMc_256) (by omega)) rfl ?_
          refine zs_aload_n (pc := 47) t111_47 rfl ?_
          refine zs_get (pc := 48) t111_48 (by decide) (zk1 (w4s.k fk_zMc_241)) (zfvi rfl rfl) ?_
          by_cases w11 : (zI w4M 241 4).toInt < (zI w4M 256 w9n).toInt
          · refine zs_icmp_gtT (pc := 51) t111_51 rfl rfl (by omega) ?_
            refine zs_aload_n (pc := 57) t111_57 rfl ?_
            refine zs_get (pc := 58) t111_58 (by decide) (zk1 (w4s.k fk_zMc_241)) (w4s.p rfl fv_zMc_241_0) ?_
            refine zs_iload (pc := 61) t111_61 rfl ?_
            refine zs_invV (pc := 63) (k := 242) (as' := [.int w4x4]) (st := []) t111_63 mf114 rfl rfl (Or.inl ⟨by decide, (zk1 (w4s.k fk_zMc_242))⟩) ⟨by decide, by decide, Nat.le_of_ble_eq_true rfl, Nat.le_of_ble_eq_true rfl⟩ (C114_242 w4s w4I ?_) (fun _ _ q => q)
            intro w12M w12s w12I w12F
            show zGo X l 2 0 0 111 66 [(0, .ref 241), (1, .int a), (2, .int w4x2), (3, .int w1v), (4, .int w4x4)] [] w12M _
            refine zs_aload_n (pc := 66) t111_66 rfl ?_
            refine zs_get (pc := 67) t111_67 (by decide) (zk1 (w12s.k fk_zMc_241)) (w12s.p rfl fv_zMc_241_3) ?_
            refine zs_iload (pc := 70) t111_70 rfl ?_
            refine zs_aload_n (pc := 72) t111_72 rfl ?_
            refine zs_get (pc := 73) t111_73 (by decide) (zk1 (w12s.k fk_zMc_241)) (w12s.p rfl fv_zMc_241_0) ?_
            refine zs_invV (pc := 76) (k := 242) (as' := []) (st := [.int w4x4, .ref 256]) t111_76 mf118 rfl rfl (Or.inl ⟨by decide, (zk1 (w12s.k fk_zMc_242))⟩) ⟨by decide, by decide, Nat.le_of_ble_eq_true rfl, Nat.le_of_ble_eq_true rfl⟩ (zs_in (by decide) mf118 (Nat.le_of_ble_eq_true rfl) ?_) (fun _ _ q => q)
            show zGo X l 0 0 0 118 0 [(0, .ref 242)] [] w12M _
            refine zs_aload_n (pc := 0) t118_0 rfl ?_
            have w13 := ib242_17 w12I
            refine zs_get (pc := 1) t118_1 (by decide) (zk1 (w12s.k fk_zMc_242)) (zfvi rfl rfl) ?_
            refine zs_iret (pc := 4) t118_4 mr118 rfl ?_
            show zGo X l 2 0 0 111 79 [(0, .ref 241), (1, .int a), (2, .int w4x2), (3, .int w1v), (4, .int w4x4)] [.int (zI w12M 242 17), .int w4x4, .ref 256] w12M _
            obtain ⟨w14n, w14⟩ : ∃ n : Nat, w4x4.toInt = (n : Int) := ⟨w4x4.toInt.toNat, by omega⟩
            have w15 : zIv cLo cHi (zsI w12M 256 w14n (zI w12M 242 17)) := zIv.put w12I (show (-2147483648) ≤ (zI w12M 242 17).toInt ∧ (zI w12M 242 17).toInt ≤ 2147483647 from (zrg (zI w12M 242 17)))
            refine zs_iast (pc := 79) t111_79 (j := w14n) (by decide) (zk1 (w12s.k fk_zMc_256)) w14 (zk2 (w12s.k fk_zMc_256) (by omega)) ?_
            refine zs_aload_n (pc := 80) t111_80 rfl ?_
            refine zs_get (pc := 81) t111_81 (by decide) (zk1 (w12s.k fk_zMc_241)) (w12s.p rfl fv_zMc_241_0) ?_
            refine zs_invV (pc := 84) (k := 242) (as' := []) (st := []) t111_84 mf118 rfl rfl (Or.inl ⟨by decide, (zk1 (w12s.k fk_zMc_242))⟩) ⟨by decide, by decide, Nat.le_of_ble_eq_true rfl, Nat.le_of_ble_eq_true rfl⟩ (zs_in (by decide) mf118 (Nat.le_of_ble_eq_true rfl) ?_) (fun _ _ q => q)
            show zGo X l 0 0 0 118 0 [(0, .ref 242)] [] (zsI w12M 256 w14n (zI w12M 242 17)) _
            refine zs_aload_n (pc := 0) t118_0 rfl ?_
            refine zs_get (pc := 1) t118_1 (by decide) (zk1 (w12s.k fk_zMc_242)) (zfvi rfl ((zIo (by decide)).trans rfl)) ?_
            refine zs_iret (pc := 4) t118_4 mr118 rfl ?_
            show zGo X l 2 0 0 111 87 [(0, .ref 241), (1, .int a), (2, .int w4x2), (3, .int w1v), (4, .int w4x4)] [.int (zI w12M 242 17)] (zsI w12M 256 w14n (zI w12M 242 17)) _
            refine zs_aload_n (pc := 87) t111_87 rfl ?_
            refine zs_get (pc := 88) t111_88 (by decide) (zk1 (w12s.k fk_zMc_241)) (zfvi rfl ((zIo (by decide)).trans ((w12F 241 4 rfl).trans rfl))) ?_
            by_cases w16 : (zI w12M 242 17).toInt ≤ (zI w4M 241 4).toInt
            · refine zs_icmp_leT (pc := 91) t111_91 rfl rfl (by omega) ?_
              obtain ⟨w17v, w17e, w17⟩ := ziadd (a := w4x4) (b := Int32.ofInt 1) rfl (show (Int32.ofInt 1).toInt = 1 by decide) (by omega) (by omega)
              refine zs_iinc (pc := 119) t111_119 (ls' := [(4, .int w17v), (0, .ref 241), (1, .int a), (2, .int w4x2), (3, .int w1v)]) (zml mf111 (by decide)) rfl (c := w17v) w17e rfl ?_
              refine zs_goto (pc := 122) t111_122 ?_
              refine zGo.locals (ls' := [(0, .ref 241), (1, .int a), (2, .int w4x2), (3, .int w1v), (4, .int w17v)]) (by simp) ?_
              exact w4ih (w4m - 1) (by omega) w4x2 w17v (zsI w12M 256 w14n (zI w12M 242 17)) ⟨by omega, by omega⟩ ⟨by omega, by omega⟩ w12s w15 ((((zFr.refl).trans (w4F.mono rfl)).trans (w12F.mono rfl)).put rfl) (by omega)
            · refine zs_icmp_leF (pc := 91) t111_91 rfl rfl (by omega) ?_
              refine zs_iload (pc := 94) t111_94 rfl ?_
              refine zs_istore_n (pc := 96) t111_96 (ls' := [(2, .int w4x4), (0, .ref 241), (1, .int a), (3, .int w1v), (4, .int w4x4)]) (zml mf111 (by decide)) rfl ?_
              refine zs_aload_n (pc := 97) t111_97 rfl ?_
              refine zs_aload_n (pc := 98) t111_98 rfl ?_
              refine zs_get (pc := 99) t111_99 (by decide) (zk1 (w12s.k fk_zMc_241)) (w12s.p rfl fv_zMc_241_0) ?_
              refine zs_invV (pc := 102) (k := 242) (as' := []) (st := [.ref 241]) t111_102 mf118 rfl rfl (Or.inl ⟨by decide, (zk1 (w12s.k fk_zMc_242))⟩) ⟨by decide, by decide, Nat.le_of_ble_eq_true rfl, Nat.le_of_ble_eq_true rfl⟩ (zs_in (by decide) mf118 (Nat.le_of_ble_eq_true rfl) ?_) (fun _ _ q => q)
              show zGo X l 0 0 0 118 0 [(0, .ref 242)] [] (zsI w12M 256 w14n (zI w12M 242 17)) _
              refine zs_aload_n (pc := 0) t118_0 rfl ?_
              refine zs_get (pc := 1) t118_1 (by decide) (zk1 (w12s.k fk_zMc_242)) (zfvi rfl ((zIo (by decide)).trans rfl)) ?_
              refine zs_iret (pc := 4) t118_4 mr118 rfl ?_
              show zGo X l 2 0 0 111 105 [(2, .int w4x4), (0, .ref 241), (1, .int a), (3, .int w1v), (4, .int w4x4)] [.int (zI w12M 242 17), .ref 241] (zsI w12M 256 w14n (zI w12M 242 17)) _
              have w18 : zIv cLo cHi (zsI (zsI w12M 256 w14n (zI w12M 242 17)) 241 4 (zI w12M 242 17)) := zIv.put w15 (show (-2147483648) ≤ (zI w12M 242 17).toInt ∧ (zI w12M 242 17).toInt ≤ 2147483647 from (zrg (zI w12M 242 17)))
              refine zs_putI (pc := 105) t111_105 (zk1 (w12s.k fk_zMc_241)) rfl ?_
              refine zs_aload_n (pc := 108) t111_108 rfl ?_
              refine zs_aload_n (pc := 109) t111_109 rfl ?_
              refine zs_get (pc := 110) t111_110 (by decide) (zk1 (w12s.k fk_zMc_241)) (w12s.p rfl fv_zMc_241_0) ?_
              refine zs_invV (pc := 113) (k := 242) (as' := []) (st := [.ref 241]) t111_113 mf119 rfl rfl (Or.inl ⟨by decide, (zk1 (w12s.k fk_zMc_242))⟩) ⟨by decide, by decide, Nat.le_of_ble_eq_true rfl, Nat.le_of_ble_eq_true rfl⟩ (zs_in (by decide) mf119 (Nat.le_of_ble_eq_true rfl) ?_) (fun _ _ q => q)
              show zGo X l 0 0 0 119 0 [(0, .ref 242)] [] (zsI (zsI w12M 256 w14n (zI w12M 242 17)) 241 4 (zI w12M 242 17)) _
              refine zs_aload_n (pc := 0) t119_0 rfl ?_
              have w19 := ib242_18 w12I
              refine zs_get (pc := 1) t119_1 (by decide) (zk1 (w12s.k fk_zMc_242)) (zfvi rfl ((zIo (by decide)).trans ((zIo (by decide)).trans rfl))) ?_
              refine zs_iret (pc := 4) t119_4 mr119 rfl ?_
              show zGo X l 2 0 0 111 116 [(2, .int w4x4), (0, .ref 241), (1, .int a), (3, .int w1v), (4, .int w4x4)] [.int (zI w12M 242 18), .ref 241] (zsI (zsI w12M 256 w14n (zI w12M 242 17)) 241 4 (zI w12M 242 17)) _
              have w20 : zIv cLo cHi (zsI (zsI (zsI w12M 256 w14n (zI w12M 242 17)) 241 4 (zI w12M 242 17)) 241 5 (zI w12M 242 18)) := zIv.put w18 (show (-2147483648) ≤ (zI w12M 242 18).toInt ∧ (zI w12M 242 18).toInt ≤ 2147483647 from (zrg (zI w12M 242 18)))
              refine zs_putI (pc := 116) t111_116 (zk1 (w12s.k fk_zMc_241)) rfl ?_
              obtain ⟨w21v, w21e, w21⟩ := ziadd (a := w4x4) (b := Int32.ofInt 1) rfl (show (Int32.ofInt 1).toInt = 1 by decide) (by omega) (by omega)
              refine zs_iinc (pc := 119) t111_119 (ls' := [(4, .int w21v), (2, .int w4x4), (0, .ref 241), (1, .int a), (3, .int w1v)]) (zml mf111 (by decide)) rfl (c := w21v) w21e rfl ?_
              refine zs_goto (pc := 122) t111_122 ?_
              refine zGo.locals (ls' := [(0, .ref 241), (1, .int a), (2, .int w4x4), (3, .int w1v), (4, .int w21v)]) (by simp) ?_
              exact w4ih (w4m - 1) (by omega) w4x4 w21v (zsI (zsI (zsI w12M 256 w14n (zI w12M 242 17)) 241 4 (zI w12M 242 17)) 241 5 (zI w12M 242 18)) ⟨by omega, by omega⟩ ⟨by omega, by omega⟩ w12s w20 ((((((zFr.refl).trans (w4F.mono rfl)).trans (w12F.mono rfl)).put rfl).put rfl).put rfl) (by omega)
          · refine zs_icmp_gtF (pc := 51) t111_51 rfl rfl (by omega) ?_
            refine zs_goto (pc := 54) t111_54 ?_
            obtain ⟨w22v, w22e, w22⟩ := ziadd (a := w4x4) (b := Int32.ofInt 1) rfl (show (Int32.ofInt 1).toInt = 1 by decide) (by omega) (by omega)
            refine zs_iinc (pc := 119) t111_119 (ls' := [(4, .int w22v), (0, .ref 241), (1, .int a), (2, .int w4x2), (3, .int w1v)]) (zml mf111 (by decide)) rfl (c := w22v) w22e rfl ?_
            refine zs_goto (pc := 122) t111_122 ?_
            refine zGo.locals (ls' := [(0, .ref 241), (1, .int a), (2, .int w4x2), (3, .int w1v), (4, .int w22v)]) (by simp) ?_
            exact w4ih (w4m - 1) (by omega) w4x2 w22v w4M ⟨by omega, by omega⟩ ⟨by omega, by omega⟩ w4s w4I ((zFr.refl).trans (w4F.mono rfl)) (by omega)
  refine zGo.locals (ls' := [(0, .ref 241), (1, .int a), (2, .int (-1 : Int32)), (3, .int w1v), (4, .int (0 : Int32))]) (by simp) ?_
  have w23 := lin1
  have w24 := li0
  exact w4L ((287 - 0 : Int).toNat) (-1 : Int32) (0 : Int32) (zsI M 241 4 w2v) ⟨by decide, by decide⟩ ⟨by decide, by decide⟩ hs w3 zFr.refl (by omega)
theorem C106_241_7 {X : zX} {l : Launch} {M : zM} {Q : Option Value → zM → Prop} {a b : Int32} (hs : zSk zMc M) (hI : zIv cLo cHi M) (hQ : ∀ M', zSk zMc M' → zIv cLo cHi M' → zFr [(241, 241, none), (256, 256, none), (242, 254, none), (257, 316, none)] M M' → Q none M') : zCall X l 4 0 0 106 [.ref 241, .ref 7, .int a, .int b] M Q := by
  have ga := zrg a
  have gb := zrg b
  refine zs_in (by decide) mf106 (Nat.le_of_ble_eq_true rfl) ?_
  show zGo X l 4 0 0 106 0 [(0, .ref 241), (1, .ref 7), (2, .int a), (3, .int b)] [] M _
  refine zs_aload_n (pc := 0) t106_0 rfl ?_
  refine zs_get (pc := 1) t106_1 (by decide) (zk1 (hs.k fk_zMc_241)) (hs.p rfl fv_zMc_241_0) ?_
  refine zs_aload_n (pc := 4) t106_4 rfl ?_
  refine zs_iload_n (pc := 5) t106_5 rfl ?_
  refine zs_invV (pc := 6) (k := 242) (as' := [.ref 7, .int a]) (st := []) t106_6 mf107 rfl rfl (Or.inl ⟨by decide, (zk1 (hs.k fk_zMc_242))⟩) ⟨by decide, by decide, Nat.le_of_ble_eq_true rfl, Nat.le_of_ble_eq_true rfl⟩ (C107_242_7 hs hI ?_) (fun _ _ q => q)
  intro w1M w1s w1I w1F
  show zGo X l 4 0 0 106 9 [(0, .ref 241), (1, .ref 7), (2, .int a), (3, .int b)] [] w1M _
  refine zs_iconst (pc := 9) t106_9 (v := 0) (by decide) ?_
  refine zs_istore (pc := 10) t106_10 (ls' := [(4, .int (0 : Int32)), (0, .ref 241), (1, .ref 7), (2, .int a), (3, .int b)]) (zml mf106 (by decide)) rfl ?_
  have w2L : ∀ (m : Nat) (w2x4 : Int32) (w2M : zM), (0 ≤ w2x4.toInt ∧ w2x4.toInt ≤ 287) → zSk zMc w2M → zIv cLo cHi w2M → zFr [(241, 241, none), (256, 256, none), (242, 254, none), (257, 316, none)] w1M w2M → 287 - w2x4.toInt ≤ (m : Int) → zGo X l 4 0 0 106 12 [(0, .ref 241), (1, .ref 7), (2, .int a), (3, .int b), (4, .int w2x4)] [] w2M Q := by
    intro m
    induction m using Nat.strongRecOn with
    | ind w2m w2ih =>
      intro w2x4 w2M w2b4 w2s w2I w2F w2q
      refine zs_iload (pc := 12) t106_12 rfl ?_
      refine zs_aload_n (pc := 14) t106_14 rfl ?_
      refine zs_get (pc := 15) t106_15 (by decide) (zk1 (w2s.k fk_zMc_241)) (w2s.p rfl fv_zMc_241_0) ?_
      refine zs_invV (pc := 18) (k := 242) (as' := []) (st := [.int w2x4]) t106_18 mf110 rfl rfl (Or.inl ⟨by decide, (zk1 (w2s.k fk_zMc_242))⟩) ⟨by decide, by decide, Nat.le_of_ble_eq_true rfl, Nat.le_of_ble_eq_true rfl⟩ (zs_in (by decide) mf110 (Nat.le_of_ble_eq_true rfl) ?_) (fun _ _ q => q)
      show zGo X l 0 0 0 110 0 [(0, .ref 242)] [] w2M _
      refine zs_aload_n (pc := 0) t110_0 rfl ?_
      have w3 := ib242_0 w2I
      refine zs_get (pc := 1) t110_1 (by decide) (zk1 (w2s.k fk_zMc_242)) (zfvi rfl rfl) ?_
      refine zs_iret (pc := 4) t110_4 mr110 rfl ?_
      show zGo X l 4 0 0 106 21 [(0, .ref 241), (1, .ref 7), (2, .int a), (3, .int b), (4, .int w2x4)] [.int (zI w2M 242 0), .int w2x4] w2M _
      by_cases w4 : (zI w2M 242 0).toInt ≤ w2x4.toInt
      · refine zs_icmp_geT (pc := 21) t106_21 rfl rfl (by omega) ?_
        refine zs_aload_n (pc := 39) t106_39 rfl ?_
        refine zs_iconst (pc := 40) t106_40 (v := 0) (by decide) ?_
        have w5 : zIv cLo cHi (zsI w2M 241 2 (0 : Int32)) := zIv.put w2I (show 0 ≤ (0 : Int32).toInt ∧ (0 : Int32).toInt ≤ 20 from ⟨by decide, by decide⟩)
        refine zs_putI (pc := 41) t106_41 (zk1 (w2s.k fk_zMc_241)) rfl ?_
        have w6L : ∀ (m : Nat) (w6M : zM), zSk zMc w6M → zIv cLo cHi w6M → zFr [(241, 241, none), (256, 256, none), (242, 254, none), (257, 316, none)] (zsI w2M 241 2 (0 : Int32)) w6M → 20 - (zI w6M 241 2).toInt ≤ (m : Int) → zGo X l 4 0 0 106 44 [(0, .ref 241), (1, .ref 7), (2, .int a), (3, .int b)] [] w6M Q := by
          intro m
          induction m using Nat.strongRecOn with
          | ind w6m w6ih =>
            intro w6M w6s w6I w6F w6q
            refine zs_aload_n (pc := 44) t106_44 rfl ?_
            have w7 := ib241_2 w6I
            refine zs_get (pc := 45) t106_45 (by decide) (zk1 (w6s.k fk_zMc_241)) (zfvi rfl rfl) ?_
            refine zs_bipush (pc := 48) t106_48 (v := 20) (by decide) ?_
            by_cases w8 : 20 ≤ (zI w6M 241 2).toInt
            · refine zs_icmp_geT (pc := 50) t106_50 rfl li20 (by omega) ?_
              exact zs_vret (pc := 142) t106_142 mr106 (hQ _ w6s w6I (((((zFr.refl).trans (w1F.mono rfl)).trans (w2F.mono rfl)).put rfl).trans (w6F.mono rfl)))
            · refine zs_icmp_geF (pc := 50) t106_50 rfl li20 (by omega) ?_
              refine zs_aload_n (pc := 53) t106_53 rfl ?_
              refine zs_iload_n (pc := 54) t106_54 rfl ?_
              refine zs_invV (pc := 55) (k := 241) (as' := [.int b]) (st := []) t106_55 mf111 rfl rfl (Or.inl ⟨by decide, (zk1 (w6s.k fk_zMc_241))⟩) ⟨by decide, by decide, Nat.le_of_ble_eq_true rfl, Nat.le_of_ble_eq_true rfl⟩ (C111_241 w6s w6I ?_) (fun _ _ q => q)
              intro w9M w9v w9s w9I w9F w9a w9b
              show zGo X l 4 0 0 106 58 [(0, .ref 241), (1, .ref 7), (2, .int a), (3, .int b)] [.int w9v] w9M _
              refine zs_istore (pc := 58) t106_58 (ls' := [(4, .int w9v), (0, .ref 241), (1, .ref 7), (2, .int a), (3, .int b)]) (zml mf106 (by decide)) rfl ?_
              refine zs_iload (pc := 60) t106_60 rfl ?_
              refine zs_iconst (pc := 62) t106_62 (v := -1) (by decide) ?_
              by_cases w10 : w9v.toInt ≠ (-1)
              · refine zs_icmp_neT (pc := 63) t106_63 rfl lin1 (by omega) ?_
                refine zs_aload_n (pc := 69) t106_69 rfl ?_
                refine zs_get (pc := 70) t106_70 (by decide) (zk1 (w9s.k fk_zMc_241)) (w9s.p rfl fv_zMc_241_1) ?_
                refine zs_aload_n (pc := 73) t106_73 rfl ?_
                refine zs_get (pc := 74) t106_74 (by decide) (zk1 (w9s.k fk_zMc_241)) (zfvi rfl ((w9F 241 2 rfl).trans rfl)) ?_
                obtain ⟨w11n, w11⟩ : ∃ n : Nat, (zI w6M 241 2).toInt = (n : Int) := ⟨(zI w6M 241 2).toInt.toNat, by omega⟩
                have w12 : w11n < 20 := by omega
                refine zs_aald (pc := 77) t106_77 (j := w11n) (Or.inr (zk1 (w9s.k fk_zMc_255))) w11 (zk2 (w9s.k fk_zMc_255) (by omega)) (w9s.a (fpT257 w11n w12)) ?_
                refine zs_astore (pc := 78) t106_78 (ls' := [(5, .ref (257 + 3 * w11n)), (4, .int w9v), (0, .ref 241), (1, .ref 7), (2, .int a), (3, .int b)]) (zml mf106 (by decide)) rfl ?_
                refine zs_aload (pc := 80) t106_80 rfl ?_
                refine zs_aload_n (pc := 82) t106_82 rfl ?_
                refine zs_get (pc := 83) t106_83 (by decide) (zk1 (w9s.k fk_zMc_241)) (w9s.p rfl fv_zMc_241_0) ?_
                refine zs_iload (pc := 86) t106_86 rfl ?_
                refine zs_invV (pc := 88) (k := 242) (as' := [.int w9v]) (st := [.ref (257 + 3 * w11n)]) t106_88 mf115 rfl rfl (Or.inl ⟨by decide, (zk1 (w9s.k fk_zMc_242))⟩) ⟨by decide, by decide, Nat.le_of_ble_eq_true rfl, Nat.le_of_ble_eq_true rfl⟩ (zs_in (by decide) mf115 (Nat.le_of_ble_eq_true rfl) ?_) (fun _ _ q => q)
                show zGo X l 0 0 0 115 0 [(0, .ref 242), (1, .int w9v)] [] w9M _
                refine zs_iload_n (pc := 0) t115_0 rfl ?_
                refine zs_if_ltF (pc := 1) t115_1 rfl (by omega) ?_
                refine zs_iload_n (pc := 4) t115_4 rfl ?_
                refine zs_aload_n (pc := 5) t115_5 rfl ?_
                have w13 := ib242_0 w9I
                refine zs_get (pc := 6) t115_6 (by decide) (zk1 (w9s.k fk_zMc_242)) (zfvi rfl rfl) ?_
                by_cases w14 : (zI w9M 242 0).toInt ≤ w9v.toInt
                · refine zs_icmp_geT (pc := 9) t115_9 rfl rfl (by omega) ?_
                  refine zs_iconst (pc := 21) t115_21 (v := 0) (by decide) ?_
                  refine zs_iret (pc := 22) t115_22 mr115 (by decide) ?_
                  show zGo X l 4 0 0 106 91 [(5, .ref (257 + 3 * w11n)), (4, .int w9v), (0, .ref 241), (1, .ref 7), (2, .int a), (3, .int b)] [.int (0 : Int32), .ref (257 + 3 * w11n)] w9M _
                  refine zs_aload_n (pc := 91) t106_91 rfl ?_
                  refine zs_get (pc := 92) t106_92 (by decide) (zk1 (w9s.k fk_zMc_241)) (w9s.p rfl fv_zMc_241_0) ?_
                  refine zs_iload (pc := 95) t106_95 rfl ?_
                  refine zs_invV (pc := 97) (k := 242) (as' := [.int w9v]) (st := [.int (0 : Int32), .ref (257 + 3 * w11n)]) t106_97 mf116 rfl rfl (Or.inl ⟨by decide, (zk1 (w9s.k fk_zMc_242))⟩) ⟨by decide, by decide, Nat.le_of_ble_eq_true rfl, Nat.le_of_ble_eq_true rfl⟩ (zs_in (by decide) mf116 (Nat.le_of_ble_eq_true rfl) ?_) (fun _ _ q => q)
                  show zGo X l 0 0 0 116 0 [(0, .ref 242), (1, .int w9v)] [] w9M _
                  refine zs_iload_n (pc := 0) t116_0 rfl ?_
                  refine zs_if_ltF (pc := 1) t116_1 rfl (by omega) ?_
                  refine zs_iload_n (pc := 4) t116_4 rfl ?_
                  refine zs_aload_n (pc := 5) t116_5 rfl ?_
                  refine zs_get (pc := 6) t116_6 (by decide) (zk1 (w9s.k fk_zMc_242)) (zfvi rfl rfl) ?_
                  by_cases w15 : (zI w9M 242 0).toInt ≤ w9v.toInt
                  · refine zs_icmp_geT (pc := 9) t116_9 rfl rfl (by omega) ?_
                    refine zs_iconst (pc := 21) t116_21 (v := 0) (by decide) ?_
                    refine zs_iret (pc := 22) t116_22 mr116 (by decide) ?_
                    show zGo X l 4 0 0 106 100 [(5, .ref (257 + 3 * w11n)), (4, .int w9v), (0, .ref 241), (1, .ref 7), (2, .int a), (3, .int b)] [.int (0 : Int32), .int (0 : Int32), .ref (257 + 3 * w11n)] w9M _
                    refine zs_aload_n (pc := 100) t106_100 rfl ?_
                    have w16 := ib241_5 w9I
                    refine zs_get (pc := 101) t106_101 (by decide) (zk1 (w9s.k fk_zMc_241)) (zfvi rfl rfl) ?_
                    refine zs_aload_n (pc := 104) t106_104 rfl ?_
                    have w17 := ib241_4 w9I
                    refine zs_get (pc := 105) t106_105 (by decide) (zk1 (w9s.k fk_zMc_241)) (zfvi rfl rfl) ?_
                    refine zs_invV (pc := 108) (k := (257 + 3 * w11n)) (as' := [.int (0 : Int32), .int (0 : Int32), .int (zI w9M 241 5), .int (zI w9M 241 4)]) (st := []) t106_108 mf120 rfl rfl (Or.inl ⟨by decide, (zk1 (w9s.k (fT257_0 w11n w12)))⟩) ⟨by decide, by decide, Nat.le_of_ble_eq_true rfl, Nat.le_of_ble_eq_true rfl⟩ (C120_T257 w9s w9I w12 ⟨by decide, by decide⟩ ⟨by decide, by decide⟩ ?_) (fun _ _ q => q)
                    intro w18M w18s w18I w18F
                    show zGo X l 4 0 0 106 111 [(5, .ref (257 + 3 * w11n)), (4, .int w9v), (0, .ref 241), (1, .ref 7), (2, .int a), (3, .int b)] [] w18M _
                    refine zs_aload_n (pc := 111) t106_111 rfl ?_
                    refine zs_get (pc := 112) t106_112 (by decide) (zk1 (w18s.k fk_zMc_241)) (w18s.p rfl fv_zMc_241_0) ?_
                    refine zs_aload (pc := 115) t106_115 rfl ?_
                    refine zs_invV (pc := 117) (k := 242) (as' := [.ref (257 + 3 * w11n)]) (st := []) t106_117 mf121 rfl rfl (Or.inl ⟨by decide, (zk1 (w18s.k fk_zMc_242))⟩) ⟨by decide, by decide, Nat.le_of_ble_eq_true rfl, Nat.le_of_ble_eq_true rfl⟩ (C121_242_T257 w18s w18I w12 ?_) (fun _ _ q => q)
                    intro w19M w19s w19I w19F
                    show zGo X l 4 0 0 106 120 [(5, .ref (257 + 3 * w11n)), (4, .int w9v), (0, .ref 241), (1, .ref 7), (2, .int a), (3, .int b)] [] w19M _
                    refine zs_aload_n (pc := 120) t106_120 rfl ?_
                    refine zs_get (pc := 121) t106_121 (by decide) (zk1 (w19s.k fk_zMc_241)) (w19s.p rfl fv_zMc_241_0) ?_
                    refine zs_aload (pc := 124) t106_124 rfl ?_
                    refine zs_invV (pc := 126) (k := 242) (as' := [.ref (257 + 3 * w11n)]) (st := []) t106_126 mf123 rfl rfl (Or.inl ⟨by decide, (zk1 (w19s.k fk_zMc_242))⟩) ⟨by decide, by decide, Nat.le_of_ble_eq_true rfl, Nat.le_of_ble_eq_true rfl⟩ (C123_242_T257 w19s w19I w12 ?_) (fun _ _ q => q)
                    intro w20M w20s w20I w20F
                    show zGo X l 4 0 0 106 129 [(5, .ref (257 + 3 * w11n)), (4, .int w9v), (0, .ref 241), (1, .ref 7), (2, .int a), (3, .int b)] [] w20M _
                    refine zs_aload_n (pc := 129) t106_129 rfl ?_
                    refine zs_dup (pc := 130) t106_130 rfl ?_
                    refine zs_get (pc := 131) t106_131 (by decide) (zk1 (w20s.k fk_zMc_241)) (zfvi rfl ((w20F 241 2 rfl).trans ((w19F 241 2 rfl).trans ((w18F 241 2 rfl).trans ((w9F 241 2 rfl).trans rfl))))) ?_
                    refine zs_iconst (pc := 134) t106_134 (v := 1) (by decide) ?_
                    obtain ⟨w21v, w21e, w21⟩ := ziadd (a := (zI w6M 241 2)) (b := (1 : Int32)) rfl li1 (by omega) (by omega)
                    refine zs_iadd (pc := 135) t106_135 (c := w21v) w21e ?_
                    have w22 : zIv cLo cHi (zsI w20M 241 2 w21v) := zIv.put w20I (show 0 ≤ w21v.toInt ∧ w21v.toInt ≤ 20 from ⟨by omega, by omega⟩)
                    refine zs_putI (pc := 136) t106_136 (zk1 (w20s.k fk_zMc_241)) rfl ?_
                    refine zs_goto (pc := 139) t106_139 ?_
                    refine zGo.locals (ls' := [(0, .ref 241), (1, .ref 7), (2, .int a), (3, .int b)]) (by simp) ?_
                    exact w6ih (w6m - 1) (by omega) (zsI w20M 241 2 w21v) w20s w22 (((((((zFr.refl).trans (w6F.mono rfl)).trans (w9F.mono rfl)).trans (w18F.mono rfl)).trans (w19F.mono rfl)).trans (w20F.mono rfl)).put rfl) (by rw [show zI (zsI w20M 241 2 w21v) 241 2 = w21v from zIs]; omega)
                  · refine zs_icmp_geF (pc := 9) t116_9 rfl rfl (by omega) ?_
                    refine zs_aload_n (pc := 12) t116_12 rfl ?_
                    refine zs_get (pc := 13) t116_13 (by decide) (zk1 (w9s.k fk_zMc_242)) (w9s.p rfl fv_zMc_242_2) ?_
                    refine zs_iload_n (pc := 16) t116_16 rfl ?_
                    obtain ⟨w23n, w23⟩ : ∃ n : Nat, w9v.toInt = (n : Int) := ⟨w9v.toInt.toNat, by omega⟩
                    have w24 := ib244 w9I w23n
                    refine zs_iald (pc := 17) t116_17 (j := w23n) (by decide) (zk1 (w9s.k fk_zMc_244)) w23 (zk2 (w9s.k fk_zMc_244) (by omega)) rfl ?_
                    refine zs_goto (pc := 18) t116_18 ?_
                    refine zs_iret (pc := 22) t116_22 mr116 rfl ?_
                    show zGo X l 4 0 0 106 100 [(5, .ref (257 + 3 * w11n)), (4, .int w9v), (0, .ref 241), (1, .ref 7), (2, .int a), (3, .int b)] [.int (zI w9M 244 w23n), .int (0 : Int32), .ref (257 + 3 * w11n)] w9M _
                    refine zs_aload_n (pc := 100) t106_100 rfl ?_
                    have w25 := ib241_5 w9I
                    refine zs_get (pc := 101) t106_101 (by decide) (zk1 (w9s.k fk_zMc_241)) (zfvi rfl rfl) ?_
                    refine zs_aload_n (pc := 104) t106_104 rfl ?_
                    have w26 := ib241_4 w9I
                    refine zs_get (pc := 105) t106_105 (by decide) (zk1 (w9s.k fk_zMc_241)) (zfvi rfl rfl) ?_
                    refine zs_invV (pc := 108) (k := (257 + 3 * w11n)) (as' := [.int (0 : Int32), .int (zI w9M 244 w23n), .int (zI w9M 241 5), .int (zI w9M 241 4)]) (st := []) t106_108 mf120 rfl rfl (Or.inl ⟨by decide, (zk1 (w9s.k (fT257_0 w11n w12)))⟩) ⟨by decide, by decide, Nat.le_of_ble_eq_true rfl, Nat.le_of_ble_eq_true rfl⟩ (C120_T257 w9s w9I w12 ⟨by decide, by decide⟩ ⟨by omega, by omega⟩ ?_) (fun _ _ q => q)
                    intro w27M w27s w27I w27F
                    show zGo X l 4 0 0 106 111 [(5, .ref (257 + 3 * w11n)), (4, .int w9v), (0, .ref 241), (1, .ref 7), (2, .int a), (3, .int b)] [] w27M _
                    refine zs_aload_n (pc := 111) t106_111 rfl ?_
                    refine zs_get (pc := 112) t106_112 (by decide) (zk1 (w27s.k fk_zMc_241)) (w27s.p rfl fv_zMc_241_0) ?_
                    refine zs_aload (pc := 115) t106_115 rfl ?_
                    refine zs_invV (pc := 117) (k := 242) (as' := [.ref (257 + 3 * w11n)]) (st := []) t106_117 mf121 rfl rfl (Or.inl ⟨by decide, (zk1 (w27s.k fk_zMc_242))⟩) ⟨by decide, by decide, Nat.le_of_ble_eq_true rfl, Nat.le_of_ble_eq_true rfl⟩ (C121_242_T257 w27s w27I w12 ?_) (fun _ _ q => q)
                    intro w28M w28s w28I w28F
                    show zGo X l 4 0 0 106 120 [(5, .ref (257 + 3 * w11n)), (4, .int w9v), (0, .ref 241), (1, .ref 7), (2, .int a), (3, .int b)] [] w28M _
                    refine zs_aload_n (pc := 120) t106_120 rfl ?_
                    refine zs_get (pc := 121) t106_121 (by decide) (zk1 (w28s.k fk_zMc_241)) (w28s.p rfl fv_zMc_241_0) ?_
                    refine zs_aload (pc := 124) t106_124 rfl ?_
                    refine zs_invV (pc := 126) (k := 242) (as' := [.ref (257 + 3 * w11n)]) (st := []) t106_126 mf123 rfl rfl (Or.inl ⟨by decide, (zk1 (w28s.k fk_zMc_242))⟩) ⟨by decide, by decide, Nat.le_of_ble_eq_true rfl, Nat.le_of_ble_eq_true rfl⟩ (C123_242_T257 w28s w28I w12 ?_) (fun _ _ q => q)
                    intro w29M w29s w29I w29F
                    show zGo X l 4 0 0 106 129 [(5, .ref (257 + 3 * w11n)), (4, .int w9v), (0, .ref 241), (1, .ref 7), (2, .int a), (3, .int b)] [] w29M _
                    refine zs_aload_n (pc := 129) t106_129 rfl ?_
                    refine zs_dup (pc := 130) t106_130 rfl ?_
                    refine zs_get (pc := 131) t106_131 (by decide) (zk1 (w29s.k fk_zMc_241)) (zfvi rfl ((w29F 241 2 rfl).trans ((w28F 241 2 rfl).trans ((w27F 241 2 rfl).trans ((w9F 241 2 rfl).trans rfl))))) ?_
                    refine zs_iconst (pc := 134) t106_134 (v := 1) (by decide) ?_
                    obtain ⟨w30v, w30e, w30⟩ := ziadd (a := (zI w6M 241 2)) (b := (1 : Int32)) rfl li1 (by omega) (by omega)
                    refine zs_iadd (pc := 135) t106_135 (c := w30v) w30e ?_
                    have w31 : zIv cLo cHi (zsI w29M 241 2 w30v) := zIv.put w29I (show 0 ≤ w30v.toInt ∧ w30v.toInt ≤ 20 from ⟨by omega, by omega⟩)
                    refine zs_putI (pc := 136) t106_136 (zk1 (w29s.k fk_zMc_241)) rfl ?_
                    refine zs_goto (pc := 139) t106_139 ?_
                    refine zGo.locals (ls' := [(0, .ref 241), (1, .ref 7), (2, .int a), (3, .int b)]) (by simp) ?_
                    exact w6ih (w6m - 1) (by omega) (zsI w29M 241 2 w30v) w29s w31 (((((((zFr.refl).trans (w6F.mono rfl)).trans (w9F.mono rfl)).trans (w27F.mono rfl)).trans (w28F.mono rfl)).trans (w29F.mono rfl)).put rfl) (by rw [show zI (zsI w29M 241 2 w30v) 241 2 = w30v from zIs]; omega)
                · refine zs_icmp_geF (pc := 9) t115_9 rfl rfl (by omega) ?_
                  refine zs_aload_n (pc := 12) t115_12 rfl ?_
                  refine zs_get (pc := 13) t115_13 (by decide) (zk1 (w9s.k fk_zMc_242)) (w9s.p rfl fv_zMc_242_1) ?_
                  refine zs_iload_n (pc := 16) t115_16 rfl ?_
                  obtain ⟨w32n, w32⟩ : ∃ n : Nat, w9v.toInt = (n : Int) := ⟨w9v.toInt.toNat, by omega⟩
                  have w33 := ib243 w9I w32n
                  refine zs_iald (pc := 17) t115_17 (j := w32n) (by decide) (zk1 (w9s.k fk_zMc_243)) w32 (zk2 (w9s.k fk_zMc_243) (by omega)) rfl ?_
                  refine zs_goto (pc := 18) t115_18 ?_
                  refine zs_iret (pc := 22) t115_22 mr115 rfl ?_
                  show zGo X l 4 0 0 106 91 [(5, .ref (257 + 3 * w11n)), (4, .int w9v), (0, .ref 241), (1, .ref 7), (2, .int a), (3, .int b)] [.int (zI w9M 243 w32n), .ref (257 + 3 * w11n)] w9M _
                  refine zs_aload_n (pc := 91) t106_91 rfl ?_
                  refine zs_get (pc := 92) t106_92 (by decide) (zk1 (w9s.k fk_zMc_241)) (w9s.p rfl fv_zMc_241_0) ?_
                  refine zs_iload (pc := 95) t106_95 rfl ?_
                  refine zs_invV (pc := 97) (k := 242) (as' := [.int w9v]) (st := [.int (zI w9M 243 w32n), .ref (257 + 3 * w11n)]) t106_97 mf116 rfl rfl (Or.inl ⟨by decide, (zk1 (w9s.k fk_zMc_242))⟩) ⟨by decide, by decide, Nat.le_of_ble_eq_true rfl, Nat.le_of_ble_eq_true rfl⟩ (zs_in (by decide) mf116 (Nat.le_of_ble_eq_true rfl) ?_) (fun _ _ q => q)
                  show zGo X l 0 0 0 116 0 [(0, .ref 242), (1, .int w9v)] [] w9M _
                  refine zs_iload_n (pc := 0) t116_0 rfl ?_
                  refine zs_if_ltF (pc := 1) t116_1 rfl (by omega) ?_
                  refine zs_iload_n (pc := 4) t116_4 rfl ?_
                  refine zs_aload_n (pc := 5) t116_5 rfl ?_
                  refine zs_get (pc := 6) t116_6 (by decide) (zk1 (w9s.k fk_zMc_242)) (zfvi rfl rfl) ?_
                  by_cases w34 : (zI w9M 242 0).toInt ≤ w9v.toInt
                  · refine zs_icmp_geT (pc := 9) t116_9 rfl rfl (by omega) ?_
                    refine zs_iconst (pc := 21) t116_21 (v := 0) (by decide) ?_
                    refine zs_iret (pc := 22) t116_22 mr116 (by decide) ?_
                    show zGo X l 4 0 0 106 100 [(5, .ref (257 + 3 * w11n)), (4, .int w9v), (0, .ref 241), (1, .ref 7), (2, .int a), (3, .int b)] [.int (0 : Int32), .int (zI w9M 243 w32n), .ref (257 + 3 * w11n)] w9M _
                    refine zs_aload_n (pc := 100) t106_100 rfl ?_
                    have w35 := ib241_5 w9I
                    refine zs_get (pc := 101) t106_101 (by decide) (zk1 (w9s.k fk_zMc_241)) (zfvi rfl rfl) ?_
                    refine zs_aload_n (pc := 104) t106_104 rfl ?_
                    have w36 := ib241_4 w9I
                    refine zs_get (pc := 105) t106_105 (by decide) (zk1 (w9s.k fk_zMc_241)) (zfvi rfl rfl) ?_
                    refine zs_invV (pc := 108) (k := (257 + 3 * w11n)) (as' := [.int (zI w9M 243 w32n), .int (0 : Int32), .int (zI w9M 241 5), .int (zI w9M 241 4)]) (st := []) t106_108 mf120 rfl rfl (Or.inl ⟨by decide, (zk1 (w9s.k (fT257_0 w11n w12)))⟩) ⟨by decide, by decide, Nat.le_of_ble_eq_true rfl, Nat.le_of_ble_eq_true rfl⟩ (C120_T257 w9s w9I w12 ⟨by omega, by omega⟩ ⟨by decide, by decide⟩ ?_) (fun _ _ q => q)
                    intro w37M w37s w37I w37F
                    show zGo X l 4 0 0 106 111 [(5, .ref (257 + 3 * w11n)), (4, .int w9v), (0, .ref 241), (1, .ref 7), (2, .int a), (3, .int b)] [] w37M _
                    refine zs_aload_n (pc := 111) t106_111 rfl ?_
                    refine zs_get (pc := 112) t106_112 (by decide) (zk1 (w37s.k fk_zMc_241)) (w37s.p rfl fv_zMc_241_0) ?_
                    refine zs_aload (pc := 115) t106_115 rfl ?_
                    refine zs_invV (pc := 117) (k := 242) (as' := [.ref (257 + 3 * w11n)]) (st := []) t106_117 mf121 rfl rfl (Or.inl ⟨by decide, (zk1 (w37s.k fk_zMc_242))⟩) ⟨by decide, by decide, Nat.le_of_ble_eq_true rfl, Nat.le_of_ble_eq_true rfl⟩ (C121_242_T257 w37s w37I w12 ?_) (fun _ _ q => q)
                    intro w38M w38s w38I w38F
                    show zGo X l 4 0 0 106 120 [(5, .ref (257 + 3 * w11n)), (4, .int w9v), (0, .ref 241), (1, .ref 7), (2, .int a), (3, .int b)] [] w38M _
                    refine zs_aload_n (pc := 120) t106_120 rfl ?_
                    refine zs_get (pc := 121) t106_121 (by decide) (zk1 (w38s.k fk_zMc_241)) (w38s.p rfl fv_zMc_241_0) ?_
                    refine zs_aload (pc := 124) t106_124 rfl ?_
                    refine zs_invV (pc := 126) (k := 242) (as' := [.ref (257 + 3 * w11n)]) (st := []) t106_126 mf123 rfl rfl (Or.inl ⟨by decide, (zk1 (w38s.k fk_zMc_242))⟩) ⟨by decide, by decide, Nat.le_of_ble_eq_true rfl, Nat.le_of_ble_eq_true rfl⟩ (C123_242_T257 w38s w38I w12 ?_) (fun _ _ q => q)
                    intro w39M w39s w39I w39F
                    show zGo X l 4 0 0 106 129 [(5, .ref (257 + 3 * w11n)), (4, .int w9v), (0, .ref 241), (1, .ref 7), (2, .int a), (3, .int b)] [] w39M _
                    refine zs_aload_n (pc := 129) t106_129 rfl ?_
                    refine zs_dup (pc := 130) t106_130 rfl ?_
                    refine zs_get (pc := 131) t106_131 (by decide) (zk1 (w39s.k fk_zMc_241)) (zfvi rfl ((w39F 241 2 rfl).trans ((w38F 241 2 rfl).trans ((w37F 241 2 rfl).trans ((w9F 241 2 rfl).trans rfl))))) ?_
                    refine zs_iconst (pc := 134) t106_134 (v := 1) (by decide) ?_
                    obtain ⟨w40v, w40e, w40⟩ := ziadd (a := (zI w6M 241 2)) (b := (1 : Int32)) rfl li1 (by omega) (by omega)
                    refine zs_iadd (pc := 135) t106_135 (c := w40v) w40e ?_
                    have w41 : zIv cLo cHi (zsI w39M 241 2 w40v) := zIv.put w39I (show 0 ≤ w40v.toInt ∧ w40v.toInt ≤ 20 from ⟨by omega, by omega⟩)
                    refine zs_putI (pc := 136) t106_136 (zk1 (w39s.k fk_zMc_241)) rfl ?_
                    refine zs_goto (pc := 139) t106_139 ?_
                    refine zGo.locals (ls' := [(0, .ref 241), (1, .ref 7), (2, .int a), (3, .int b)]) (by simp) ?_
                    exact w6ih (w6m - 1) (by omega) (zsI w39M 241 2 w40v) w39s w41 (((((((zFr.refl).trans (w6F.mono rfl)).trans (w9F.mono rfl)).trans (w37F.mono rfl)).trans (w38F.mono rfl)).trans (w39F.mono rfl)).put rfl) (by rw [show zI (zsI w39M 241 2 w40v) 241 2 = w40v from zIs]; omega)
                  · refine zs_icmp_geF (pc := 9) t116_9 rfl rfl (by omega) ?_
                    refine zs_aload_n (pc := 12) t116_12 rfl ?_
                    refine zs_get (pc := 13) t116_13 (by decide) (zk1 (w9s.k fk_zMc_242)) (w9s.p rfl fv_zMc_242_2) ?_
                    refine zs_iload_n (pc := 16) t116_16 rfl ?_
                    have w42 := ib244 w9I w32n
                    refine zs_iald (pc := 17) t116_17 (j := w32n) (by decide) (zk1 (w9s.k fk_zMc_244)) w32 (zk2 (w9s.k fk_zMc_244) (by omega)) rfl ?_
                    refine zs_goto (pc := 18) t116_18 ?_
                    refine zs_iret (pc := 22) t116_22 mr116 rfl ?_
                    show zGo X l 4 0 0 106 100 [(5, .ref (257 + 3 * w11n)), (4, .int w9v), (0, .ref 241), (1, .ref 7), (2, .int a), (3, .int b)] [.int (zI w9M 244 w32n), .int (zI w9M 243 w32n), .ref (257 + 3 * w11n)] w9M _
                    refine zs_aload_n (pc := 100) t106_100 rfl ?_
                    have w43 := ib241_5 w9I
                    refine zs_get (pc := 101) t106_101 (by decide) (zk1 (w9s.k fk_zMc_241)) (zfvi rfl rfl) ?_
                    refine zs_aload_n (pc := 104) t106_104 rfl ?_
                    have w44 := ib241_4 w9I
                    refine zs_get (pc := 105) t106_105 (by decide) (zk1 (w9s.k fk_zMc_241)) (zfvi rfl rfl) ?_
                    refine zs_invV (pc := 108) (k := (257 + 3 * w11n)) (as' := [.int (zI w9M 243 w32n), .int (zI w9M 244 w32n), .int (zI w9M 241 5), .int (zI w9M 241 4)]) (st := []) t106_108 mf120 rfl rfl (Or.inl ⟨by decide, (zk1 (w9s.k (fT257_0 w11n w12)))⟩) ⟨by decide, by decide, Nat.le_of_ble_eq_true rfl, Nat.le_of_ble_eq_true rfl⟩ (C120_T257 w9s w9I w12 ⟨by omega, by omega⟩ ⟨by omega, by omega⟩ ?_) (fun _ _ q => q)
                    intro w45M w45s w45I w45F
                    show zGo X l 4 0 0 106 111 [(5, .ref (257 + 3 * w11n)), (4, .int w9v), (0, .ref 241), (1, .ref 7), (2, .int a), (3, .int b)] [] w45M _
                    refine zs_aload_n (pc := 111) t106_111 rfl ?_
                    refine zs_get (pc := 112) t106_112 (by decide) (zk1 (w45s.k fk_zMc_241)) (w45s.p rfl fv_zMc_241_0) ?_
                    refine zs_aload (pc := 115) t106_115 rfl ?_
                    refine zs_invV (pc := 117) (k := 242) (as' := [.ref (257 + 3 * w11n)]) (st := []) t106_117 mf121 rfl rfl (Or.inl ⟨by decide, (zk1 (w45s.k fk_zMc_242))⟩) ⟨by decide, by decide, Nat.le_of_ble_eq_true rfl, Nat.le_of_ble_eq_true rfl⟩ (C121_242_T257 w45s w45I w12 ?_) (fun _ _ q => q)
                    intro w46M w46s w46I w46F
                    show zGo X l 4 0 0 106 120 [(5, .ref (257 + 3 * w11n)), (4, .int w9v), (0, .ref 241), (1, .ref 7), (2, .int a), (3, .int b)] [] w46M _
                    refine zs_aload_n (pc := 120) t106_120 rfl ?_
                    refine zs_get (pc := 121) t106_121 (by decide) (zk1 (w46s.k fk_zMc_241)) (w46s.p rfl fv_zMc_241_0) ?_
                    refine zs_aload (pc := 124) t106_124 rfl ?_
                    refine zs_invV (pc := 126) (k := 242) (as' := [.ref (257 + 3 * w11n)]) (st := []) t106_126 mf123 rfl rfl (Or.inl ⟨by decide, (zk1 (w46s.k fk_zMc_242))⟩) ⟨by decide, by decide, Nat.le_of_ble_eq_true rfl, Nat.le_of_ble_eq_true rfl⟩ (C123_242_T257 w46s w46I w12 ?_) (fun _ _ q => q)
                    intro w47M w47s w47I w47F
                    show zGo X l 4 0 0 106 129 [(5, .ref (257 + 3 * w11n)), (4, .int w9v), (0, .ref 241), (1, .ref 7), (2, .int a), (3, .int b)] [] w47M _
                    refine zs_aload_n (pc := 129) t106_129 rfl ?_
                    refine zs_dup (pc := 130) t106_130 rfl ?_
                    refine zs_get (pc := 131) t106_131 (by decide) (zk1 (w47s.k fk_zMc_241)) (zfvi rfl ((w47F 241 2 rfl).trans ((w46F 241 2 rfl).trans ((w45F 241 2 rfl).trans ((w9F 241 2 rfl).trans rfl))))) ?_
                    refine zs_iconst (pc := 134) t106_134 (v := 1) (by decide) ?_
                    obtain ⟨w48v, w48e, w48⟩ := ziadd (a := (zI w6M 241 2)) (b := (1 : Int32)) rfl li1 (by omega) (by omega)
                    refine zs_iadd (pc := 135) t106_135 (c := w48v) w48e ?_
                    have w49 : zIv cLo cHi (zsI w47M 241 2 w48v) := zIv.put w47I (show 0 ≤ w48v.toInt ∧ w48v.toInt ≤ 20 from ⟨by omega, by omega⟩)
                    refine zs_putI (pc := 136) t106_136 (zk1 (w47s.k fk_zMc_241)) rfl ?_
                    refine zs_goto (pc := 139) t106_139 ?_
                    refine zGo.locals (ls' := [(0, .ref 241), (1, .ref 7), (2, .int a), (3, .int b)]) (by simp) ?_
                    exact w6ih (w6m - 1) (by omega) (zsI w47M 241 2 w48v) w47s w49 (((((((zFr.refl).trans (w6F.mono rfl)).trans (w9F.mono rfl)).trans (w45F.mono rfl)).trans (w46F.mono rfl)).trans (w47F.mono rfl)).put rfl) (by rw [show zI (zsI w47M 241 2 w48v) 241 2 = w48v from zIs]; omega)
              · refine zs_icmp_neF (pc := 63) t106_63 rfl lin1 (by omega) ?_
                refine zs_goto (pc := 66) t106_66 ?_
                exact zs_vret (pc := 142) t106_142 mr106 (hQ _ w9s w9I ((((((zFr.refl).trans (w1F.mono rfl)).trans (w2F.mono rfl)).put rfl).trans (w6F.mono rfl)).trans (w9F.mono rfl)))
        refine zGo.locals (ls' := [(0, .ref 241), (1, .ref 7), (2, .int a), (3, .int b)]) (by simp) ?_
        have w50 := li0
        exact w6L (20) (zsI w2M 241 2 (0 : Int32)) w2s w5 zFr.refl (by rw [show zI (zsI w2M 241 2 (0 : Int32)) 241 2 = (0 : Int32) from zIs]; omega)
      · refine zs_icmp_geF (pc := 21) t106_21 rfl rfl (by omega) ?_
        refine zs_aload_n (pc := 24) t106_24 rfl ?_
        refine zs_get (pc := 25) t106_25 (by decide) (zk1 (w2s.k fk_zMc_241)) (w2s.p rfl fv_zMc_241_3) ?_
        refine zs_iload (pc := 28) t106_28 rfl ?_
        refine zs_bipush (pc := 30) t106_30 (v := 8) (by decide) ?_
        obtain ⟨w51n, w51⟩ : ∃ n : Nat, w2x4.toInt = (n : Int) := ⟨w2x4.toInt.toNat, by omega⟩
        have w52 : zIv cLo cHi (zsI w2M 256 w51n (8 : Int32)) := zIv.put w2I (show (-2147483648) ≤ (8 : Int32).toInt ∧ (8 : Int32).toInt ≤ 2147483647 from (zrg (8 : Int32)))
        refine zs_iast (pc := 32) t106_32 (j := w51n) (by decide) (zk1 (w2s.k fk_zMc_256)) w51 (zk2 (w2s.k fk_zMc_256) (by omega)) ?_
        obtain ⟨w53v, w53e, w53⟩ := ziadd (a := w2x4) (b := Int32.ofInt 1) rfl (show (Int32.ofInt 1).toInt = 1 by decide) (by omega) (by omega)
        refine zs_iinc (pc := 33) t106_33 (ls' := [(4, .int w53v), (0, .ref 241), (1, .ref 7), (2, .int a), (3, .int b)]) (zml mf106 (by decide)) rfl (c := w53v) w53e rfl ?_
        refine zs_goto (pc := 36) t106_36 ?_
        refine zGo.locals (ls' := [(0, .ref 241), (1, .ref 7), (2, .int a), (3, .int b), (4, .int w53v)]) (by simp) ?_
        exact w2ih (w2m - 1) (by omega) w53v (zsI w2M 256 w51n (8 : Int32)) ⟨by omega, by omega⟩ w2s w52 (((zFr.refl).trans (w2F.mono rfl)).put rfl) (by omega)
  refine zGo.locals (ls' := [(0, .ref 241), (1, .ref 7), (2, .int a), (3, .int b), (4, .int (0 : Int32))]) (by simp) ?_
  have w54 := li0
  exact w2L ((287 - 0 : Int).toNat) (0 : Int32) w1M ⟨by decide, by decide⟩ w1s w1I zFr.refl (by omega)
