set_option maxHeartbeats 8000000 in
theorem V121_257 {X : zX} {l : Launch} {M : zM} {Q : Option Value → zM → Prop} (hs : zSk zMc M) (hI : zIv cLo cHi M) {i0 : Nat} (hi0 : i0 < 20) {F : Nat → Int} {L : Nat → Bool} {φ : Nat → Nat} {n : Nat} {v0 : Int} (x0 : zWF F) (x1 : zPn M 242 245 246 F) (x2 : zVt M 242 247 248 249 F L n φ) (x3 : zBe F L ((zI M (257 + 3 * i0) 0).toInt, (zI M (257 + 3 * i0) 1).toInt, (zI M (257 + 3 * i0) 2).toInt) v0) (x4 : ∀ l : Nat, l < 8 → (zI M (257 + 3 * i0 + 1) l).toInt = -2) (hQ : ∀ M', zSk zMc M' → zIv cLo cHi M' → zFr [(257, 316, none)] M M' → (zTo M M' (257 + 3 * i0) ∧ ∀ l : Nat, l < 8 → zNr F L ((zI M (257 + 3 * i0) 0).toInt, (zI M (257 + 3 * i0) 1).toInt, (zI M (257 + 3 * i0) 2).toInt) l (zI M' (257 + 3 * i0 + 1) l).toInt) → Q none M') : zCall X l 1 0 0 121 [.ref 242, .ref (257 + 3 * i0)] M Q := by
  refine zs_in (by decide) mf121 (Nat.le_of_ble_eq_true rfl) ?_
  show zGo X l 1 0 0 121 0 [(0, .ref 242), (1, .ref (257 + 3 * i0))] [] M _
  have f1 := x0.1
  have f3 := x0.2.2.2
  have xw := x1.1
  have xm := x2.1
  have xl := x2.2.1
  have xr : -F 5 ≤ (zI M (257 + 3 * i0) 0).toInt ∧ (zI M (257 + 3 * i0) 0).toInt ≤ F 5 ∧ -F 6 ≤ (zI M (257 + 3 * i0) 1).toInt ∧ (zI M (257 + 3 * i0) 1).toInt ≤ F 6 := x3.1
  have hb : -150000000 ≤ (zI M (257 + 3 * i0) 2).toInt * F 7 ∧ (zI M (257 + 3 * i0) 2).toInt * F 7 ≤ 150000000 := x3.b x0
  refine zs_aload_n (pc := 0) t121_0 rfl ?_
  have w1 := ibT257_0_0 hI hi0
  refine zs_get (pc := 1) t121_1 (by decide) (zk1 (hs.k (fT257_0 i0 hi0))) (zfvi rfl rfl) ?_
  refine zs_iconst (pc := 4) t121_4 (v := 3) (by decide) ?_
  obtain ⟨w2v, w2e, w2⟩ := ziadd (a := (zI M (257 + 3 * i0) 0)) (b := (3 : Int32)) rfl li3 (by omega) (by omega)
  refine zs_iadd (pc := 5) t121_5 (c := w2v) w2e ?_
  refine zs_bipush (pc := 6) t121_6 (v := 8) (by decide) ?_
  obtain ⟨w3v, w3⟩ : ∃ v, w2v * (8 : Int32) = v := ⟨_, rfl⟩
  have w3g : w3v.toInt = ((zI M (257 + 3 * i0) 0).toInt + 3) * 8 := by rw [← w3]; exact zmulc w2 li8 (by omega) (by omega)
  refine zs_imul (pc := 8) t121_8 (c := w3v) w3 ?_
  refine zs_istore_n (pc := 9) t121_9 (ls' := [(2, .int w3v), (0, .ref 242), (1, .ref (257 + 3 * i0))]) (zml mf121 (by decide)) rfl ?_
  refine zs_aload_n (pc := 10) t121_10 rfl ?_
  have w4 := ibT257_0_1 hI hi0
  refine zs_get (pc := 11) t121_11 (by decide) (zk1 (hs.k (fT257_0 i0 hi0))) (zfvi rfl rfl) ?_
  refine zs_bipush (pc := 14) t121_14 (v := 20) (by decide) ?_
  obtain ⟨w5v, w5e, w5⟩ := ziadd (a := (zI M (257 + 3 * i0) 1)) (b := (20 : Int32)) rfl li20 (by omega) (by omega)
  refine zs_iadd (pc := 16) t121_16 (c := w5v) w5e ?_
  refine zs_bipush (pc := 17) t121_17 (v := 8) (by decide) ?_
  obtain ⟨w6v, w6⟩ : ∃ v, w5v * (8 : Int32) = v := ⟨_, rfl⟩
  have w6g : w6v.toInt = ((zI M (257 + 3 * i0) 1).toInt + 20) * 8 := by rw [← w6]; exact zmulc w5 li8 (by omega) (by omega)
  refine zs_imul (pc := 19) t121_19 (c := w6v) w6 ?_
  refine zs_istore_n (pc := 20) t121_20 (ls' := [(3, .int w6v), (2, .int w3v), (0, .ref 242), (1, .ref (257 + 3 * i0))]) (zml mf121 (by decide)) rfl ?_
  refine zs_aload_n (pc := 21) t121_21 rfl ?_
  have w7 := zrg (zI M (257 + 3 * i0) 2)
  refine zs_get (pc := 22) t121_22 (by decide) (zk1 (hs.k (fT257_0 i0 hi0))) (zfvi rfl rfl) ?_
  refine zs_aload_n (pc := 25) t121_25 rfl ?_
  have w8 := ib242_5 hI
  refine zs_get (pc := 26) t121_26 (by decide) (zk1 (hs.k fk_zMc_242)) (zfvi rfl rfl) ?_
  obtain ⟨w9v, w9⟩ : ∃ v, (zI M (257 + 3 * i0) 2) * (zI M 242 5) = v := ⟨_, rfl⟩
  have w9g := zrg w9v
  refine zs_imul (pc := 29) t121_29 (c := w9v) w9 ?_
  refine zs_aload_n (pc := 30) t121_30 rfl ?_
  refine zs_get (pc := 31) t121_31 (by decide) (zk1 (hs.k fk_zMc_242)) (zfvi rfl rfl) ?_
  refine zs_iconst (pc := 34) t121_34 (v := 2) (by decide) ?_
  obtain ⟨w10v, w10⟩ : ∃ v, (zI M 242 5) / (2 : Int32) = v := ⟨_, rfl⟩
  have w10g : w10v.toInt = (zI M 242 5).toInt / 2 := by rw [← w10]; exact zdivp rfl li2 (by omega) (by decide)
  refine zs_idiv (pc := 35) t121_35 (by decide) (c := w10v) w10 ?_
  obtain ⟨w11v, w11⟩ : ∃ v, v = w9v + w10v := ⟨_, rfl⟩
  have w11g := zrg w11v
  refine zs_iadd (pc := 36) t121_36 (c := w11v) w11.symm ?_
  refine zs_istore (pc := 37) t121_37 (ls' := [(4, .int w11v), (3, .int w6v), (2, .int w3v), (0, .ref 242), (1, .ref (257 + 3 * i0))]) (zml mf121 (by decide)) rfl ?_
  refine zs_aload_n (pc := 39) t121_39 rfl ?_
  refine zs_get (pc := 40) t121_40 (by decide) (zk1 (hs.k (fT257_0 i0 hi0))) (hs.p rfl (fvT257_7 i0 hi0)) ?_
  refine zs_astore (pc := 43) t121_43 (ls' := [(5, .ref (257 + 3 * i0 + 2)), (4, .int w11v), (3, .int w6v), (2, .int w3v), (0, .ref 242), (1, .ref (257 + 3 * i0))]) (zml mf121 (by decide)) rfl ?_
  refine zs_iconst (pc := 45) t121_45 (v := 0) (by decide) ?_
  refine zs_istore (pc := 46) t121_46 (ls' := [(6, .int (0 : Int32)), (5, .ref (257 + 3 * i0 + 2)), (4, .int w11v), (3, .int w6v), (2, .int w3v), (0, .ref 242), (1, .ref (257 + 3 * i0))]) (zml mf121 (by decide)) rfl ?_
  have hmid : w11v.toInt = (zI M (257 + 3 * i0) 2).toInt * F 7 + F 7 / 2 := mid.mk w9 w10g w11 rfl xw hb.1 hb.2 (by omega) (by omega)
  have hmb : -150001000 ≤ w11v.toInt ∧ w11v.toInt ≤ 150001000 := by omega
  have w12L : ∀ (m : Nat) (w12x6 : Int32) (w12M : zM), (0 ≤ w12x6.toInt ∧ w12x6.toInt ≤ 60) → zSk zMc w12M → zIv cLo cHi w12M → zFr [(257, 316, none)] M w12M → (w12x6.toInt ≤ n) → (∀ i : Nat, (i : Int) = w12x6.toInt → zNh M w12M F φ ((zI M (257 + 3 * i0) 0).toInt, (zI M (257 + 3 * i0) 1).toInt, (zI M (257 + 3 * i0) 2).toInt) (257 + 3 * i0) i) → 60 - w12x6.toInt ≤ (m : Int) → zGo X l 1 0 0 121 48 [(0, .ref 242), (1, .ref (257 + 3 * i0)), (2, .int w3v), (3, .int w6v), (4, .int w11v), (5, .ref (257 + 3 * i0 + 2)), (6, .int w12x6)] [] w12M Q := by
    intro m
    induction m using Nat.strongRecOn with
    | ind w12m w12ih =>
      intro w12x6 w12M w12b6 w12s w12I w12F w12r0 w12t0 w12q
      obtain ⟨w13n, w13⟩ : ∃ n : Nat, w12x6.toInt = (n : Int) := ⟨(w12x6.toInt).toNat, by omega⟩
      have hT := w12t0 w13n (by omega)
      have hc2 : (zI w12M (257 + 3 * i0) 2).toInt = (zI M (257 + 3 * i0) 2).toInt := congrArg Int32.toInt (hT.1 _ 2 (by omega) (by omega))
      refine zs_iload (pc := 48) t121_48 rfl ?_
      refine zs_aload_n (pc := 50) t121_50 rfl ?_
      have w14 := ib242_6 hI
      refine zs_get (pc := 51) t121_51 (by decide) (zk1 (w12s.k fk_zMc_242)) (zfvi rfl ((w12F 242 6 rfl).trans rfl)) ?_
      by_cases w15 : (zI M 242 6).toInt ≤ w12x6.toInt
      · refine zs_icmp_geT (pc := 54) t121_54 rfl rfl (by omega) ?_
        exact zs_vret (pc := 171) t121_171 mr121 (hQ _ w12s w12I ((zFr.refl).trans (w12F.mono rfl)) ((w12t0 n (by omega)).end rfl x2))
      · refine zs_icmp_geF (pc := 54) t121_54 rfl rfl (by omega) ?_
        refine zs_aload_n (pc := 57) t121_57 rfl ?_
        refine zs_get (pc := 58) t121_58 (by decide) (zk1 (w12s.k fk_zMc_242)) (w12s.p rfl fv_zMc_242_8) ?_
        refine zs_iload (pc := 61) t121_61 rfl ?_
        have w16 := ib248 hI w13n
        have hv := x2.2.2.1 w13n (by omega)
        have hv1 := hv.1
        have hv3 := hv.2.2.1
        have hv4 := hv.2.2.2.1
        have hv5 := hv.2.2.2.2
        have hw := x0.2.2.1 (φ w13n) hv1
        obtain ⟨w17n, w17⟩ : ∃ n : Nat, (zI M 248 w13n).toInt = (n : Int) := ⟨((zI M 248 w13n).toInt).toNat, by omega⟩
        have hx := x0.2.1 w17n (by omega)
        have hb := pLf.b (F := F) (l := w17n) (t := (zI M (257 + 3 * i0) 1).toInt) (k := (zI M (257 + 3 * i0) 0).toInt) hx.1 hx.2.1 (by omega) (by omega) (by omega) (by omega)
        refine zs_iald (pc := 63) t121_63 (j := w13n) (by decide) (zk1 (w12s.k fk_zMc_248)) (show w12x6.toInt = ((w13n : Nat) : Int) by omega) (zk2 (w12s.k fk_zMc_248) (by omega)) ((w12F 248 w13n rfl).trans rfl) ?_
        refine zs_istore (pc := 64) t121_64 (ls' := [(7, .int (zI M 248 w13n)), (0, .ref 242), (1, .ref (257 + 3 * i0)), (2, .int w3v), (3, .int w6v), (4, .int w11v), (5, .ref (257 + 3 * i0 + 2)), (6, .int w12x6)]) (zml mf121 (by decide)) rfl ?_
        refine zs_aload_n (pc := 66) t121_66 rfl ?_
        refine zs_get (pc := 67) t121_67 (by decide) (zk1 (w12s.k fk_zMc_242)) (w12s.p rfl fv_zMc_242_9) ?_
        refine zs_iload (pc := 70) t121_70 rfl ?_
        have w18 := zrg (zI M 249 w13n)
        refine zs_iald (pc := 72) t121_72 (j := w13n) (by decide) (zk1 (w12s.k fk_zMc_249)) (show w12x6.toInt = ((w13n : Nat) : Int) by omega) (zk2 (w12s.k fk_zMc_249) (by omega)) ((w12F 249 w13n rfl).trans rfl) ?_
        refine zs_aload_n (pc := 73) t121_73 rfl ?_
        refine zs_get (pc := 74) t121_74 (by decide) (zk1 (w12s.k fk_zMc_242)) (w12s.p rfl fv_zMc_242_3) ?_
        refine zs_iload_n (pc := 77) t121_77 rfl ?_
        refine zs_iload (pc := 78) t121_78 rfl ?_
        obtain ⟨w19v, w19e, w19⟩ := ziadd (a := w3v) (b := (zI M 248 w13n)) w3g rfl (by omega) (by omega)
        refine zs_iadd (pc := 80) t121_80 (c := w19v) w19e ?_
        obtain ⟨w20n, w20⟩ : ∃ n : Nat, w19v.toInt = (n : Int) := ⟨w19v.toInt.toNat, by omega⟩
        have w21 := zrg (zI M 245 w20n)
        have w22 := x1.2.1 w17n w20n (zI M (257 + 3 * i0) 0).toInt (by omega) (by omega) (by omega) (by omega)
        have w23 : -98802099 ≤ (zI M 245 w20n).toInt ∧ (zI M 245 w20n).toInt ≤ 98802099 := by omega
        refine zs_iald (pc := 81) t121_81 (j := w20n) (by decide) (zk1 (w12s.k fk_zMc_245)) w20 (zk2 (w12s.k fk_zMc_245) (by omega)) ((w12F 245 w20n rfl).trans rfl) ?_
        obtain ⟨w24v, w24e, w24⟩ := zisub (a := (zI M 249 w13n)) (b := (zI M 245 w20n)) rfl rfl (by omega) (by omega)
        refine zs_isub (pc := 82) t121_82 (c := w24v) w24e ?_
        refine zs_aload_n (pc := 83) t121_83 rfl ?_
        refine zs_get (pc := 84) t121_84 (by decide) (zk1 (w12s.k fk_zMc_242)) (w12s.p rfl fv_zMc_242_4) ?_
        refine zs_iload_n (pc := 87) t121_87 rfl ?_
        refine zs_iload (pc := 88) t121_88 rfl ?_
        obtain ⟨w25v, w25e, w25⟩ := ziadd (a := w6v) (b := (zI M 248 w13n)) w6g rfl (by omega) (by omega)
        refine zs_iadd (pc := 90) t121_90 (c := w25v) w25e ?_
        obtain ⟨w26n, w26⟩ : ∃ n : Nat, w25v.toInt = (n : Int) := ⟨w25v.toInt.toNat, by omega⟩
        have w27 := zrg (zI M 246 w26n)
        have w28 := x1.2.2 w17n w26n (zI M (257 + 3 * i0) 1).toInt (by omega) (by omega) (by omega) (by omega)
        have w29 : -98901 ≤ (zI M 246 w26n).toInt ∧ (zI M 246 w26n).toInt ≤ 98901 := by omega
        refine zs_iald (pc := 91) t121_91 (j := w26n) (by decide) (zk1 (w12s.k fk_zMc_246)) w26 (zk2 (w12s.k fk_zMc_246) (by omega)) ((w12F 246 w26n rfl).trans rfl) ?_
        obtain ⟨w30v, w30e, w30⟩ := zisub (a := w24v) (b := (zI M 246 w26n)) w24 rfl (by omega) (by omega)
        refine zs_isub (pc := 92) t121_92 (c := w30v) w30e ?_
        refine zs_istore (pc := 93) t121_93 (ls' := [(8, .int w30v), (7, .int (zI M 248 w13n)), (0, .ref 242), (1, .ref (257 + 3 * i0)), (2, .int w3v), (3, .int w6v), (4, .int w11v), (5, .ref (257 + 3 * i0 + 2)), (6, .int w12x6)]) (zml mf121 (by decide)) rfl ?_
        refine zs_iload (pc := 95) t121_95 rfl ?_
        refine zs_aload_n (pc := 97) t121_97 rfl ?_
        refine zs_get (pc := 98) t121_98 (by decide) (zk1 (w12s.k fk_zMc_242)) (zfvi rfl ((w12F 242 5 rfl).trans rfl)) ?_
        have w31 : w30v.toInt = (((zI M 249 w13n).toInt - (zI M 245 w20n).toInt) - (zI M 246 w26n).toInt) := w30
        have w32 : w30v.toInt = (((zI M 249 w13n).toInt - (zI M 245 w20n).toInt) - (zI M 246 w26n).toInt) := w30
        refine zs_invS (pc := 101) (as := [.int w30v, .int (zI M 242 5)]) (st := []) t121_101 (by decide) mf54 rfl rfl ⟨by decide, by decide, Nat.le_of_ble_eq_true rfl, Nat.le_of_ble_eq_true rfl⟩ (X54 w12s w12I ⟨by omega, by omega⟩ ?_) (fun _ _ q => q)
        intro w33v w33x0
        have w33g := zrg w33v
        have hf : w30v.toInt = F (31 + 4 * φ w13n) - pLf F w17n (zI M (257 + 3 * i0) 1).toInt (zI M (257 + 3 * i0) 0).toInt := by unfold pLf; omega
        have hc : w33v.toInt = cel F (zI M (257 + 3 * i0) 0).toInt (zI M (257 + 3 * i0) 1).toInt (φ w13n) := by
          rw [w33x0, hf, show (zI M 242 5).toInt = F 7 by omega]
          unfold cel
          rw [show (F (30 + 4 * φ w13n)).toNat = w17n by omega]
        show zGo X l 1 0 0 121 104 [(8, .int w30v), (7, .int (zI M 248 w13n)), (0, .ref 242), (1, .ref (257 + 3 * i0)), (2, .int w3v), (3, .int w6v), (4, .int w11v), (5, .ref (257 + 3 * i0 + 2)), (6, .int w12x6)] [.int w33v] w12M _
        refine zs_aload_n (pc := 104) t121_104 rfl ?_
        have w34 := zrg (zI w12M (257 + 3 * i0) 2)
        refine zs_get (pc := 105) t121_105 (by decide) (zk1 (w12s.k (fT257_0 i0 hi0))) (zfvi rfl rfl) ?_
        by_cases w35 : w33v.toInt = (zI w12M (257 + 3 * i0) 2).toInt
        · refine zs_icmp_eqT (pc := 108) t121_108 rfl rfl (by omega) ?_
          refine zs_iload (pc := 114) t121_114 rfl ?_
          refine zs_iload (pc := 116) t121_116 rfl ?_
          obtain ⟨w36v, w36e, w36⟩ := zisub (a := w30v) (b := w11v) w30 rfl (by omega) (by omega)
          refine zs_isub (pc := 118) t121_118 (c := w36v) w36e ?_
          refine zs_invS (pc := 119) (as := [.int w36v]) (st := []) t121_119 (by decide) mf122 rfl rfl ⟨by decide, by decide, Nat.le_of_ble_eq_true rfl, Nat.le_of_ble_eq_true rfl⟩ (zs_in (by decide) mf122 (Nat.le_of_ble_eq_true rfl) ?_) (fun _ _ q => q)
          show zGo X l 0 0 0 122 0 [(0, .int w36v)] [] w12M _
          refine zs_iload_n (pc := 0) t122_0 rfl ?_
          by_cases w37 : 0 ≤ ((((zI M 249 w13n).toInt - (zI M 245 w20n).toInt) - (zI M 246 w26n).toInt) - w11v.toInt)
          · refine zs_if_geT (pc := 1) t122_1 w36 (by omega) ?_
            refine zs_iload_n (pc := 9) t122_9 rfl ?_
            refine zs_iret (pc := 10) t122_10 mr122 rfl ?_
            show zGo X l 1 0 0 121 122 [(8, .int w30v), (7, .int (zI M 248 w13n)), (0, .ref 242), (1, .ref (257 + 3 * i0)), (2, .int w3v), (3, .int w6v), (4, .int w11v), (5, .ref (257 + 3 * i0 + 2)), (6, .int w12x6)] [.int w36v] w12M _
            refine zs_istore (pc := 122) t121_122 (ls' := [(9, .int w36v), (8, .int w30v), (7, .int (zI M 248 w13n)), (0, .ref 242), (1, .ref (257 + 3 * i0)), (2, .int w3v), (3, .int w6v), (4, .int w11v), (5, .ref (257 + 3 * i0 + 2)), (6, .int w12x6)]) (zml mf121 (by decide)) rfl ?_
            refine zs_aload_n (pc := 124) t121_124 rfl ?_
            refine zs_get (pc := 125) t121_125 (by decide) (zk1 (w12s.k (fT257_0 i0 hi0))) (w12s.p rfl (fvT257_6 i0 hi0)) ?_
            refine zs_iload (pc := 128) t121_128 rfl ?_
            have w38 := ibT257_1 w12I hi0 w17n
            refine zs_iald (pc := 130) t121_130 (j := w17n) (by omega) (zk1 (w12s.k (fT257_1 i0 hi0))) (show (zI M 248 w13n).toInt = ((w17n : Nat) : Int) by omega) (zk2 (w12s.k (fT257_1 i0 hi0)) (by omega)) rfl ?_
            by_cases w39 : (zI w12M (257 + 3 * i0 + 1) w17n).toInt < 0
            · refine zs_if_ltT (pc := 131) t121_131 rfl (by omega) ?_
              refine zs_aload_n (pc := 144) t121_144 rfl ?_
              refine zs_get (pc := 145) t121_145 (by decide) (zk1 (w12s.k (fT257_0 i0 hi0))) (w12s.p rfl (fvT257_6 i0 hi0)) ?_
              refine zs_iload (pc := 148) t121_148 rfl ?_
              refine zs_aload_n (pc := 150) t121_150 rfl ?_
              refine zs_get (pc := 151) t121_151 (by decide) (zk1 (w12s.k fk_zMc_242)) (w12s.p rfl fv_zMc_242_7) ?_
              refine zs_iload (pc := 154) t121_154 rfl ?_
              have w40 := ib247 hI w13n
              refine zs_iald (pc := 156) t121_156 (j := w13n) (by decide) (zk1 (w12s.k fk_zMc_247)) (show w12x6.toInt = ((w13n : Nat) : Int) by omega) (zk2 (w12s.k fk_zMc_247) (by omega)) ((w12F 247 w13n rfl).trans rfl) ?_
              have w41 : zIv cLo cHi (zsI w12M (257 + 3 * i0 + 1) w17n (zI M 247 w13n)) := zIv.put w12I (by rw [(cT257_1 i0 hi0 w17n).1, (cT257_1 i0 hi0 w17n).2]; exact ⟨by omega, by omega⟩)
              refine zs_iast (pc := 157) t121_157 (j := w17n) (by omega) (zk1 (w12s.k (fT257_1 i0 hi0))) (show (zI M 248 w13n).toInt = ((w17n : Nat) : Int) by omega) (zk2 (w12s.k (fT257_1 i0 hi0)) (by omega)) ?_
              refine zs_aload (pc := 158) t121_158 rfl ?_
              refine zs_iload (pc := 160) t121_160 rfl ?_
              refine zs_iload (pc := 162) t121_162 rfl ?_
              have w42 : zIv cLo cHi (zsI (zsI w12M (257 + 3 * i0 + 1) w17n (zI M 247 w13n)) (257 + 3 * i0 + 2) w17n w36v) := zIv.put w41 (by rw [(cT257_2 i0 hi0 w17n).1, (cT257_2 i0 hi0 w17n).2]; exact zrg w36v)
              refine zs_iast (pc := 164) t121_164 (j := w17n) (by omega) (zk1 (w12s.k (fT257_2 i0 hi0))) (show (zI M 248 w13n).toInt = ((w17n : Nat) : Int) by omega) (zk2 (w12s.k (fT257_2 i0 hi0)) (by omega)) ?_
              obtain ⟨w43v, w43e, w43⟩ := ziadd (a := w12x6) (b := Int32.ofInt 1) rfl (show (Int32.ofInt 1).toInt = 1 by decide) (by omega) (by omega)
              refine zs_iinc (pc := 165) t121_165 (ls' := [(6, .int w43v), (9, .int w36v), (8, .int w30v), (7, .int (zI M 248 w13n)), (0, .ref 242), (1, .ref (257 + 3 * i0)), (2, .int w3v), (3, .int w6v), (4, .int w11v), (5, .ref (257 + 3 * i0 + 2))]) (zml mf121 (by decide)) rfl (c := w43v) w43e rfl ?_
              refine zs_goto (pc := 168) t121_168 ?_
              refine zGo.locals (ls' := [(0, .ref 242), (1, .ref (257 + 3 * i0)), (2, .int w3v), (3, .int w6v), (4, .int w11v), (5, .ref (257 + 3 * i0 + 2)), (6, .int w43v)]) (by simp) ?_
              have w44 := w43
              have w45 : w36v.toInt = ((((zI M 249 w13n).toInt - (zI M 245 w20n).toInt) - (zI M 246 w26n).toInt) - w11v.toInt) := w36
              exact w12ih (w12m - 1) (by omega) w43v (zsI (zsI w12M (257 + 3 * i0 + 1) w17n (zI M 247 w13n)) (257 + 3 * i0 + 2) w17n w36v) ⟨by omega, by omega⟩ w12s w42 ((((zFr.refl).trans (w12F.mono rfl)).put (zinW_r (lo := 257) (hi := 316) (by decide) (by omega) (by omega))).put (zinW_r (lo := 257) (hi := 316) (by decide) (by omega) (by omega))) (by omega) (fun i hi => by obtain rfl : i = w13n + 1 := (by omega); exact hT.put (show cel F (zI M (257 + 3 * i0) 0).toInt (zI M (257 + 3 * i0) 1).toInt (φ w13n) = (zI M (257 + 3 * i0) 2).toInt by omega) (show F (30 + 4 * φ w13n) = (w17n : Int) by omega) (show (zI M 247 w13n).toInt = (φ w13n : Int) by omega) (show w36v.toInt = aw F (zI M (257 + 3 * i0) 0).toInt (zI M (257 + 3 * i0) 1).toInt (zI M (257 + 3 * i0) 2).toInt w17n (φ w13n) by unfold aw; omega) (by omega) (x2.ho (by omega))) (by omega)
            · refine zs_if_ltF (pc := 131) t121_131 rfl (by omega) ?_
              refine zs_iload (pc := 134) t121_134 rfl ?_
              refine zs_aload (pc := 136) t121_136 rfl ?_
              refine zs_iload (pc := 138) t121_138 rfl ?_
              have w46 := zrg (zI w12M (257 + 3 * i0 + 2) w17n)
              refine zs_iald (pc := 140) t121_140 (j := w17n) (by omega) (zk1 (w12s.k (fT257_2 i0 hi0))) (show (zI M 248 w13n).toInt = ((w17n : Nat) : Int) by omega) (zk2 (w12s.k (fT257_2 i0 hi0)) (by omega)) rfl ?_
              by_cases w47 : (zI w12M (257 + 3 * i0 + 2) w17n).toInt ≤ ((((zI M 249 w13n).toInt - (zI M 245 w20n).toInt) - (zI M 246 w26n).toInt) - w11v.toInt)
              · refine zs_icmp_geT (pc := 141) t121_141 w36 rfl (by omega) ?_
                obtain ⟨w48v, w48e, w48⟩ := ziadd (a := w12x6) (b := Int32.ofInt 1) rfl (show (Int32.ofInt 1).toInt = 1 by decide) (by omega) (by omega)
                refine zs_iinc (pc := 165) t121_165 (ls' := [(6, .int w48v), (9, .int w36v), (8, .int w30v), (7, .int (zI M 248 w13n)), (0, .ref 242), (1, .ref (257 + 3 * i0)), (2, .int w3v), (3, .int w6v), (4, .int w11v), (5, .ref (257 + 3 * i0 + 2))]) (zml mf121 (by decide)) rfl (c := w48v) w48e rfl ?_
                refine zs_goto (pc := 168) t121_168 ?_
                refine zGo.locals (ls' := [(0, .ref 242), (1, .ref (257 + 3 * i0)), (2, .int w3v), (3, .int w6v), (4, .int w11v), (5, .ref (257 + 3 * i0 + 2)), (6, .int w48v)]) (by simp) ?_
                have w49 := w48
                have w50 : w36v.toInt = ((((zI M 249 w13n).toInt - (zI M 245 w20n).toInt) - (zI M 246 w26n).toInt) - w11v.toInt) := w36
                exact w12ih (w12m - 1) (by omega) w48v w12M ⟨by omega, by omega⟩ w12s w12I ((zFr.refl).trans (w12F.mono rfl)) (by omega) (fun i hi => by obtain rfl : i = w13n + 1 := (by omega); exact hT.keep (show F (30 + 4 * φ w13n) = (w17n : Int) by omega) (show ((((zI M 249 w13n).toInt - (zI M 245 w20n).toInt) - (zI M 246 w26n).toInt) - w11v.toInt) = aw F (zI M (257 + 3 * i0) 0).toInt (zI M (257 + 3 * i0) 1).toInt (zI M (257 + 3 * i0) 2).toInt w17n (φ w13n) by unfold aw; omega) (by omega) (by omega) (x2.ho (by omega))) (by omega)
              · refine zs_icmp_geF (pc := 141) t121_141 w36 rfl (by omega) ?_
                refine zs_aload_n (pc := 144) t121_144 rfl ?_
                refine zs_get (pc := 145) t121_145 (by decide) (zk1 (w12s.k (fT257_0 i0 hi0))) (w12s.p rfl (fvT257_6 i0 hi0)) ?_
                refine zs_iload (pc := 148) t121_148 rfl ?_
                refine zs_aload_n (pc := 150) t121_150 rfl ?_
                refine zs_get (pc := 151) t121_151 (by decide) (zk1 (w12s.k fk_zMc_242)) (w12s.p rfl fv_zMc_242_7) ?_
                refine zs_iload (pc := 154) t121_154 rfl ?_
                refine zs_iald (pc := 156) t121_156 (j := w13n) (by decide) (zk1 (w12s.k fk_zMc_247)) (show w12x6.toInt = ((w13n : Nat) : Int) by omega) (zk2 (w12s.k fk_zMc_247) (by omega)) ((w12F 247 w13n rfl).trans rfl) ?_
                have w51 : zIv cLo cHi (zsI w12M (257 + 3 * i0 + 1) w17n (zI M 247 w13n)) := zIv.put w12I (by rw [(cT257_1 i0 hi0 w17n).1, (cT257_1 i0 hi0 w17n).2]; exact ⟨by omega, by omega⟩)
                refine zs_iast (pc := 157) t121_157 (j := w17n) (by omega) (zk1 (w12s.k (fT257_1 i0 hi0))) (show (zI M 248 w13n).toInt = ((w17n : Nat) : Int) by omega) (zk2 (w12s.k (fT257_1 i0 hi0)) (by omega)) ?_
                refine zs_aload (pc := 158) t121_158 rfl ?_
                refine zs_iload (pc := 160) t121_160 rfl ?_
                refine zs_iload (pc := 162) t121_162 rfl ?_
                have w52 : zIv cLo cHi (zsI (zsI w12M (257 + 3 * i0 + 1) w17n (zI M 247 w13n)) (257 + 3 * i0 + 2) w17n w36v) := zIv.put w51 (by rw [(cT257_2 i0 hi0 w17n).1, (cT257_2 i0 hi0 w17n).2]; exact zrg w36v)
                refine zs_iast (pc := 164) t121_164 (j := w17n) (by omega) (zk1 (w12s.k (fT257_2 i0 hi0))) (show (zI M 248 w13n).toInt = ((w17n : Nat) : Int) by omega) (zk2 (w12s.k (fT257_2 i0 hi0)) (by omega)) ?_
                obtain ⟨w53v, w53e, w53⟩ := ziadd (a := w12x6) (b := Int32.ofInt 1) rfl (show (Int32.ofInt 1).toInt = 1 by decide) (by omega) (by omega)
                refine zs_iinc (pc := 165) t121_165 (ls' := [(6, .int w53v), (9, .int w36v), (8, .int w30v), (7, .int (zI M 248 w13n)), (0, .ref 242), (1, .ref (257 + 3 * i0)), (2, .int w3v), (3, .int w6v), (4, .int w11v), (5, .ref (257 + 3 * i0 + 2))]) (zml mf121 (by decide)) rfl (c := w53v) w53e rfl ?_
                refine zs_goto (pc := 168) t121_168 ?_
                refine zGo.locals (ls' := [(0, .ref 242), (1, .ref (257 + 3 * i0)), (2, .int w3v), (3, .int w6v), (4, .int w11v), (5, .ref (257 + 3 * i0 + 2)), (6, .int w53v)]) (by simp) ?_
                have w54 := w53
                have w55 : w36v.toInt = ((((zI M 249 w13n).toInt - (zI M 245 w20n).toInt) - (zI M 246 w26n).toInt) - w11v.toInt) := w36
                exact w12ih (w12m - 1) (by omega) w53v (zsI (zsI w12M (257 + 3 * i0 + 1) w17n (zI M 247 w13n)) (257 + 3 * i0 + 2) w17n w36v) ⟨by omega, by omega⟩ w12s w52 ((((zFr.refl).trans (w12F.mono rfl)).put (zinW_r (lo := 257) (hi := 316) (by decide) (by omega) (by omega))).put (zinW_r (lo := 257) (hi := 316) (by decide) (by omega) (by omega))) (by omega) (fun i hi => by obtain rfl : i = w13n + 1 := (by omega); exact hT.put (show cel F (zI M (257 + 3 * i0) 0).toInt (zI M (257 + 3 * i0) 1).toInt (φ w13n) = (zI M (257 + 3 * i0) 2).toInt by omega) (show F (30 + 4 * φ w13n) = (w17n : Int) by omega) (show (zI M 247 w13n).toInt = (φ w13n : Int) by omega) (show w36v.toInt = aw F (zI M (257 + 3 * i0) 0).toInt (zI M (257 + 3 * i0) 1).toInt (zI M (257 + 3 * i0) 2).toInt w17n (φ w13n) by unfold aw; omega) (by omega) (x2.ho (by omega))) (by omega)
          · refine zs_if_geF (pc := 1) t122_1 w36 (by omega) ?_
            refine zs_iload_n (pc := 4) t122_4 rfl ?_
            obtain ⟨w56v, w56e⟩ : ∃ v, -w36v = v := ⟨_, rfl⟩
            have w56 : w56v.toInt = -((((zI M 249 w13n).toInt - (zI M 245 w20n).toInt) - (zI M 246 w26n).toInt) - w11v.toInt) := by rw [← w56e]; exact zneg w36 (by omega)
            refine zs_ineg (pc := 5) t122_5 (c := w56v) w56e ?_
            refine zs_goto (pc := 6) t122_6 ?_
            refine zs_iret (pc := 10) t122_10 mr122 rfl ?_
            show zGo X l 1 0 0 121 122 [(8, .int w30v), (7, .int (zI M 248 w13n)), (0, .ref 242), (1, .ref (257 + 3 * i0)), (2, .int w3v), (3, .int w6v), (4, .int w11v), (5, .ref (257 + 3 * i0 + 2)), (6, .int w12x6)] [.int w56v] w12M _
            refine zs_istore (pc := 122) t121_122 (ls' := [(9, .int w56v), (8, .int w30v), (7, .int (zI M 248 w13n)), (0, .ref 242), (1, .ref (257 + 3 * i0)), (2, .int w3v), (3, .int w6v), (4, .int w11v), (5, .ref (257 + 3 * i0 + 2)), (6, .int w12x6)]) (zml mf121 (by decide)) rfl ?_
            refine zs_aload_n (pc := 124) t121_124 rfl ?_
            refine zs_get (pc := 125) t121_125 (by decide) (zk1 (w12s.k (fT257_0 i0 hi0))) (w12s.p rfl (fvT257_6 i0 hi0)) ?_
            refine zs_iload (pc := 128) t121_128 rfl ?_
            have w57 := ibT257_1 w12I hi0 w17n
            refine zs_iald (pc := 130) t121_130 (j := w17n) (by omega) (zk1 (w12s.k (fT257_1 i0 hi0))) (show (zI M 248 w13n).toInt = ((w17n : Nat) : Int) by omega) (zk2 (w12s.k (fT257_1 i0 hi0)) (by omega)) rfl ?_
            by_cases w58 : (zI w12M (257 + 3 * i0 + 1) w17n).toInt < 0
            · refine zs_if_ltT (pc := 131) t121_131 rfl (by omega) ?_
              refine zs_aload_n (pc := 144) t121_144 rfl ?_
              refine zs_get (pc := 145) t121_145 (by decide) (zk1 (w12s.k (fT257_0 i0 hi0))) (w12s.p rfl (fvT257_6 i0 hi0)) ?_
              refine zs_iload (pc := 148) t121_148 rfl ?_
              refine zs_aload_n (pc := 150) t121_150 rfl ?_
              refine zs_get (pc := 151) t121_151 (by decide) (zk1 (w12s.k fk_zMc_242)) (w12s.p rfl fv_zMc_242_7) ?_
              refine zs_iload (pc := 154) t121_154 rfl ?_
              refine zs_iald (pc := 156) t121_156 (j := w13n) (by decide) (zk1 (w12s.k fk_zMc_247)) (show w12x6.toInt = ((w13n : Nat) : Int) by omega) (zk2 (w12s.k fk_zMc_247) (by omega)) ((w12F 247 w13n rfl).trans rfl) ?_
              have w59 : zIv cLo cHi (zsI w12M (257 + 3 * i0 + 1) w17n (zI M 247 w13n)) := zIv.put w12I (by rw [(cT257_1 i0 hi0 w17n).1, (cT257_1 i0 hi0 w17n).2]; exact ⟨by omega, by omega⟩)
              refine zs_iast (pc := 157) t121_157 (j := w17n) (by omega) (zk1 (w12s.k (fT257_1 i0 hi0))) (show (zI M 248 w13n).toInt = ((w17n : Nat) : Int) by omega) (zk2 (w12s.k (fT257_1 i0 hi0)) (by omega)) ?_
              refine zs_aload (pc := 158) t121_158 rfl ?_
              refine zs_iload (pc := 160) t121_160 rfl ?_
              refine zs_iload (pc := 162) t121_162 rfl ?_
              have w60 : zIv cLo cHi (zsI (zsI w12M (257 + 3 * i0 + 1) w17n (zI M 247 w13n)) (257 + 3 * i0 + 2) w17n w56v) := zIv.put w59 (by rw [(cT257_2 i0 hi0 w17n).1, (cT257_2 i0 hi0 w17n).2]; exact zrg w56v)
              refine zs_iast (pc := 164) t121_164 (j := w17n) (by omega) (zk1 (w12s.k (fT257_2 i0 hi0))) (show (zI M 248 w13n).toInt = ((w17n : Nat) : Int) by omega) (zk2 (w12s.k (fT257_2 i0 hi0)) (by omega)) ?_
              obtain ⟨w61v, w61e, w61⟩ := ziadd (a := w12x6) (b := Int32.ofInt 1) rfl (show (Int32.ofInt 1).toInt = 1 by decide) (by omega) (by omega)
              refine zs_iinc (pc := 165) t121_165 (ls' := [(6, .int w61v), (9, .int w56v), (8, .int w30v), (7, .int (zI M 248 w13n)), (0, .ref 242), (1, .ref (257 + 3 * i0)), (2, .int w3v), (3, .int w6v), (4, .int w11v), (5, .ref (257 + 3 * i0 + 2))]) (zml mf121 (by decide)) rfl (c := w61v) w61e rfl ?_
              refine zs_goto (pc := 168) t121_168 ?_
              refine zGo.locals (ls' := [(0, .ref 242), (1, .ref (257 + 3 * i0)), (2, .int w3v), (3, .int w6v), (4, .int w11v), (5, .ref (257 + 3 * i0 + 2)), (6, .int w61v)]) (by simp) ?_
              have w62 := w61
              have w63 : w56v.toInt = (-((((zI M 249 w13n).toInt - (zI M 245 w20n).toInt) - (zI M 246 w26n).toInt) - w11v.toInt)) := w56
              exact w12ih (w12m - 1) (by omega) w61v (zsI (zsI w12M (257 + 3 * i0 + 1) w17n (zI M 247 w13n)) (257 + 3 * i0 + 2) w17n w56v) ⟨by omega, by omega⟩ w12s w60 ((((zFr.refl).trans (w12F.mono rfl)).put (zinW_r (lo := 257) (hi := 316) (by decide) (by omega) (by omega))).put (zinW_r (lo := 257) (hi := 316) (by decide) (by omega) (by omega))) (by omega) (fun i hi => by obtain rfl : i = w13n + 1 := (by omega); exact hT.put (show cel F (zI M (257 + 3 * i0) 0).toInt (zI M (257 + 3 * i0) 1).toInt (φ w13n) = (zI M (257 + 3 * i0) 2).toInt by omega) (show F (30 + 4 * φ w13n) = (w17n : Int) by omega) (show (zI M 247 w13n).toInt = (φ w13n : Int) by omega) (show w56v.toInt = aw F (zI M (257 + 3 * i0) 0).toInt (zI M (257 + 3 * i0) 1).toInt (zI M (257 + 3 * i0) 2).toInt w17n (φ w13n) by unfold aw; omega) (by omega) (x2.ho (by omega))) (by omega)
            · refine zs_if_ltF (pc := 131) t121_131 rfl (by omega) ?_
              refine zs_iload (pc := 134) t121_134 rfl ?_
              refine zs_aload (pc := 136) t121_136 rfl ?_
              refine zs_iload (pc := 138) t121_138 rfl ?_
              have w64 := zrg (zI w12M (257 + 3 * i0 + 2) w17n)
              refine zs_iald (pc := 140) t121_140 (j := w17n) (by omega) (zk1 (w12s.k (fT257_2 i0 hi0))) (show (zI M 248 w13n).toInt = ((w17n : Nat) : Int) by omega) (zk2 (w12s.k (fT257_2 i0 hi0)) (by omega)) rfl ?_
              by_cases w65 : (zI w12M (257 + 3 * i0 + 2) w17n).toInt ≤ (-((((zI M 249 w13n).toInt - (zI M 245 w20n).toInt) - (zI M 246 w26n).toInt) - w11v.toInt))
              · refine zs_icmp_geT (pc := 141) t121_141 w56 rfl (by omega) ?_
                obtain ⟨w66v, w66e, w66⟩ := ziadd (a := w12x6) (b := Int32.ofInt 1) rfl (show (Int32.ofInt 1).toInt = 1 by decide) (by omega) (by omega)
                refine zs_iinc (pc := 165) t121_165 (ls' := [(6, .int w66v), (9, .int w56v), (8, .int w30v), (7, .int (zI M 248 w13n)), (0, .ref 242), (1, .ref (257 + 3 * i0)), (2, .int w3v), (3, .int w6v), (4, .int w11v), (5, .ref (257 + 3 * i0 + 2))]) (zml mf121 (by decide)) rfl (c := w66v) w66e rfl ?_
                refine zs_goto (pc := 168) t121_168 ?_
                refine zGo.locals (ls' := [(0, .ref 242), (1, .ref (257 + 3 * i0)), (2, .int w3v), (3, .int w6v), (4, .int w11v), (5, .ref (257 + 3 * i0 + 2)), (6, .int w66v)]) (by simp) ?_
                have w67 := w66
                have w68 : w56v.toInt = (-((((zI M 249 w13n).toInt - (zI M 245 w20n).toInt) - (zI M 246 w26n).toInt) - w11v.toInt)) := w56
                exact w12ih (w12m - 1) (by omega) w66v w12M ⟨by omega, by omega⟩ w12s w12I ((zFr.refl).trans (w12F.mono rfl)) (by omega) (fun i hi => by obtain rfl : i = w13n + 1 := (by omega); exact hT.keep (show F (30 + 4 * φ w13n) = (w17n : Int) by omega) (show (-((((zI M 249 w13n).toInt - (zI M 245 w20n).toInt) - (zI M 246 w26n).toInt) - w11v.toInt)) = aw F (zI M (257 + 3 * i0) 0).toInt (zI M (257 + 3 * i0) 1).toInt (zI M (257 + 3 * i0) 2).toInt w17n (φ w13n) by unfold aw; omega) (by omega) (by omega) (x2.ho (by omega))) (by omega)
              · refine zs_icmp_geF (pc := 141) t121_141 w56 rfl (by omega) ?_
                refine zs_aload_n (pc := 144) t121_144 rfl ?_
                refine zs_get (pc := 145) t121_145 (by decide) (zk1 (w12s.k (fT257_0 i0 hi0))) (w12s.p rfl (fvT257_6 i0 hi0)) ?_
                refine zs_iload (pc := 148) t121_148 rfl ?_
                refine zs_aload_n (pc := 150) t121_150 rfl ?_
                refine zs_get (pc := 151) t121_151 (by decide) (zk1 (w12s.k fk_zMc_242)) (w12s.p rfl fv_zMc_242_7) ?_
                refine zs_iload (pc := 154) t121_154 rfl ?_
                refine zs_iald (pc := 156) t121_156 (j := w13n) (by decide) (zk1 (w12s.k fk_zMc_247)) (show w12x6.toInt = ((w13n : Nat) : Int) by omega) (zk2 (w12s.k fk_zMc_247) (by omega)) ((w12F 247 w13n rfl).trans rfl) ?_
                have w69 : zIv cLo cHi (zsI w12M (257 + 3 * i0 + 1) w17n (zI M 247 w13n)) := zIv.put w12I (by rw [(cT257_1 i0 hi0 w17n).1, (cT257_1 i0 hi0 w17n).2]; exact ⟨by omega, by omega⟩)
                refine zs_iast (pc := 157) t121_157 (j := w17n) (by omega) (zk1 (w12s.k (fT257_1 i0 hi0))) (show (zI M 248 w13n).toInt = ((w17n : Nat) : Int) by omega) (zk2 (w12s.k (fT257_1 i0 hi0)) (by omega)) ?_
                refine zs_aload (pc := 158) t121_158 rfl ?_
                refine zs_iload (pc := 160) t121_160 rfl ?_
                refine zs_iload (pc := 162) t121_162 rfl ?_
                have w70 : zIv cLo cHi (zsI (zsI w12M (257 + 3 * i0 + 1) w17n (zI M 247 w13n)) (257 + 3 * i0 + 2) w17n w56v) := zIv.put w69 (by rw [(cT257_2 i0 hi0 w17n).1, (cT257_2 i0 hi0 w17n).2]; exact zrg w56v)
                refine zs_iast (pc := 164) t121_164 (j := w17n) (by omega) (zk1 (w12s.k (fT257_2 i0 hi0))) (show (zI M 248 w13n).toInt = ((w17n : Nat) : Int) by omega) (zk2 (w12s.k (fT257_2 i0 hi0)) (by omega)) ?_
                obtain ⟨w71v, w71e, w71⟩ := ziadd (a := w12x6) (b := Int32.ofInt 1) rfl (show (Int32.ofInt 1).toInt = 1 by decide) (by omega) (by omega)
                refine zs_iinc (pc := 165) t121_165 (ls' := [(6, .int w71v), (9, .int w56v), (8, .int w30v), (7, .int (zI M 248 w13n)), (0, .ref 242), (1, .ref (257 + 3 * i0)), (2, .int w3v), (3, .int w6v), (4, .int w11v), (5, .ref (257 + 3 * i0 + 2))]) (zml mf121 (by decide)) rfl (c := w71v) w71e rfl ?_
                refine zs_goto (pc := 168) t121_168 ?_
                refine zGo.locals (ls' := [(0, .ref 242), (1, .ref (257 + 3 * i0)), (2, .int w3v), (3, .int w6v), (4, .int w11v), (5, .ref (257 + 3 * i0 + 2)), (6, .int w71v)]) (by simp) ?_
                have w72 := w71
                have w73 : w56v.toInt = (-((((zI M 249 w13n).toInt - (zI M 245 w20n).toInt) - (zI M 246 w26n).toInt) - w11v.toInt)) := w56
                exact w12ih (w12m - 1) (by omega) w71v (zsI (zsI w12M (257 + 3 * i0 + 1) w17n (zI M 247 w13n)) (257 + 3 * i0 + 2) w17n w56v) ⟨by omega, by omega⟩ w12s w70 ((((zFr.refl).trans (w12F.mono rfl)).put (zinW_r (lo := 257) (hi := 316) (by decide) (by omega) (by omega))).put (zinW_r (lo := 257) (hi := 316) (by decide) (by omega) (by omega))) (by omega) (fun i hi => by obtain rfl : i = w13n + 1 := (by omega); exact hT.put (show cel F (zI M (257 + 3 * i0) 0).toInt (zI M (257 + 3 * i0) 1).toInt (φ w13n) = (zI M (257 + 3 * i0) 2).toInt by omega) (show F (30 + 4 * φ w13n) = (w17n : Int) by omega) (show (zI M 247 w13n).toInt = (φ w13n : Int) by omega) (show w56v.toInt = aw F (zI M (257 + 3 * i0) 0).toInt (zI M (257 + 3 * i0) 1).toInt (zI M (257 + 3 * i0) 2).toInt w17n (φ w13n) by unfold aw; omega) (by omega) (x2.ho (by omega))) (by omega)
        · refine zs_icmp_eqF (pc := 108) t121_108 rfl rfl (by omega) ?_
          refine zs_goto (pc := 111) t121_111 ?_
          obtain ⟨w74v, w74e, w74⟩ := ziadd (a := w12x6) (b := Int32.ofInt 1) rfl (show (Int32.ofInt 1).toInt = 1 by decide) (by omega) (by omega)
          refine zs_iinc (pc := 165) t121_165 (ls' := [(6, .int w74v), (8, .int w30v), (7, .int (zI M 248 w13n)), (0, .ref 242), (1, .ref (257 + 3 * i0)), (2, .int w3v), (3, .int w6v), (4, .int w11v), (5, .ref (257 + 3 * i0 + 2))]) (zml mf121 (by decide)) rfl (c := w74v) w74e rfl ?_
          refine zs_goto (pc := 168) t121_168 ?_
          refine zGo.locals (ls' := [(0, .ref 242), (1, .ref (257 + 3 * i0)), (2, .int w3v), (3, .int w6v), (4, .int w11v), (5, .ref (257 + 3 * i0 + 2)), (6, .int w74v)]) (by simp) ?_
          have w75 := w74
          exact w12ih (w12m - 1) (by omega) w74v w12M ⟨by omega, by omega⟩ w12s w12I ((zFr.refl).trans (w12F.mono rfl)) (by omega) (fun i hi => by obtain rfl : i = w13n + 1 := (by omega); exact hT.skip (show cel F (zI M (257 + 3 * i0) 0).toInt (zI M (257 + 3 * i0) 1).toInt (φ w13n) ≠ (zI M (257 + 3 * i0) 2).toInt by omega)) (by omega)
  refine zGo.locals (ls' := [(0, .ref 242), (1, .ref (257 + 3 * i0)), (2, .int w3v), (3, .int w6v), (4, .int w11v), (5, .ref (257 + 3 * i0 + 2)), (6, .int (0 : Int32))]) (by simp) ?_
  have w76 := li0
  exact w12L ((60 - 0 : Int).toNat) (0 : Int32) M ⟨by decide, by decide⟩ hs hI zFr.refl (by omega) (fun i hi => by obtain rfl : i = 0 := (by omega); exact zNh.zero rfl x4) (by omega)
theorem V123_257 {X : zX} {l : Launch} {M : zM} {Q : Option Value → zM → Prop} (hs : zSk zMc M) (hI : zIv cLo cHi M) {i0 : Nat} (hi0 : i0 < 20) {F : Nat → Int} {L : Nat → Bool} {φ : Nat → Nat} {n : Nat} (x0 : zWF F) (x1 : zVt M 242 247 248 249 F L n φ) (hQ : ∀ M', zSk zMc M' → zIv cLo cHi M' → zFr [(242, 242, some 6), (247, 249, none)] M M' → (∃ (m : Nat) (ψ : Nat → Nat), zVt M' 242 247 248 249 F (zrmv F L (hsO M (257 + 3 * i0))) m ψ) → Q none M') : zCall X l 0 0 0 123 [.ref 242, .ref (257 + 3 * i0)] M Q := by
  refine zs_in (by decide) mf123 (Nat.le_of_ble_eq_true rfl) ?_
  show zGo X l 0 0 0 123 0 [(0, .ref 242), (1, .ref (257 + 3 * i0))] [] M _
  have f1 := x0.1
  have xm := x1.1
  have xl := x1.2.1
  refine zs_iconst (pc := 0) t123_0 (v := 0) (by decide) ?_
  refine zs_istore_n (pc := 1) t123_1 (ls' := [(2, .int (0 : Int32)), (0, .ref 242), (1, .ref (257 + 3 * i0))]) (zml mf123 (by decide)) rfl ?_
  refine zs_iconst (pc := 2) t123_2 (v := 0) (by decide) ?_
  refine zs_istore_n (pc := 3) t123_3 (ls' := [(3, .int (0 : Int32)), (2, .int (0 : Int32)), (0, .ref 242), (1, .ref (257 + 3 * i0))]) (zml mf123 (by decide)) rfl ?_
  have w1L : ∀ (m : Nat) (w1x2 : Int32) (w1x3 : Int32) (w1M : zM), (0 ≤ w1x2.toInt ∧ w1x2.toInt ≤ 60) → (0 ≤ w1x3.toInt ∧ w1x3.toInt ≤ 60) → zSk zMc w1M → zIv cLo cHi w1M → zFr [(247, 249, none)] M w1M → (w1x2.toInt ≤ w1x3.toInt) → (w1x3.toInt ≤ n) → (∀ i m : Nat, (i : Int) = w1x3.toInt → (m : Int) = w1x2.toInt → ∃ ψ : Nat → Nat, zSi M w1M 247 248 249 F (zrmv F L (hsO M (257 + 3 * i0))) φ m i ψ) → 60 - w1x3.toInt ≤ (m : Int) → zGo X l 0 0 0 123 4 [(0, .ref 242), (1, .ref (257 + 3 * i0)), (2, .int w1x2), (3, .int w1x3)] [] w1M Q := by
    intro m
    induction m using Nat.strongRecOn with
    | ind w1m w1ih =>
      intro w1x2 w1x3 w1M w1b2 w1b3 w1s w1I w1F w1r0 w1r1 w1t0 w1q
      obtain ⟨w2n, w2⟩ : ∃ n : Nat, w1x3.toInt = (n : Int) := ⟨(w1x3.toInt).toNat, by omega⟩
      obtain ⟨w3n, w3⟩ : ∃ n : Nat, w1x2.toInt = (n : Int) := ⟨(w1x2.toInt).toNat, by omega⟩
      obtain ⟨w1ψ, hT⟩ := w1t0 w2n w3n (by omega) (by omega)
      have hu := hT.2.2.2.2 w2n (Nat.le_refl _)
      refine zs_iload_n (pc := 4) t123_4 rfl ?_
      refine zs_aload_n (pc := 5) t123_5 rfl ?_
      have w4 := ib242_6 hI
      refine zs_get (pc := 6) t123_6 (by decide) (zk1 (w1s.k fk_zMc_242)) (zfvi rfl ((w1F 242 6 rfl).trans rfl)) ?_
      by_cases w5 : (zI M 242 6).toInt ≤ w1x3.toInt
      · refine zs_icmp_geT (pc := 9) t123_9 rfl rfl (by omega) ?_
        refine zs_aload_n (pc := 77) t123_77 rfl ?_
        refine zs_iload_n (pc := 78) t123_78 rfl ?_
        have w6 : zIv cLo cHi (zsI w1M 242 6 w1x2) := zIv.put w1I (show 0 ≤ w1x2.toInt ∧ w1x2.toInt ≤ 60 from ⟨by omega, by omega⟩)
        refine zs_putI (pc := 79) t123_79 (zk1 (w1s.k fk_zMc_242)) rfl ?_
        have hX : w1x2.toInt = (w3n : Int) := by omega
        exact zs_vret (pc := 82) t123_82 mr123 (hQ _ w1s w6 (((zFr.refl).trans (w1F.mono rfl)).put rfl) ⟨w3n, w1ψ, hT.vt (by omega) x1 (fun y hy => zrmv.le hy) ((congrArg Int32.toInt (zIs (M := w1M))).trans hX) (fun j => zIo (by decide)) (fun j => zIo (by decide)) (fun j => zIo (by decide))⟩)
      · refine zs_icmp_geF (pc := 9) t123_9 rfl rfl (by omega) ?_
        refine zs_aload_n (pc := 12) t123_12 rfl ?_
        refine zs_get (pc := 13) t123_13 (by decide) (zk1 (w1s.k (fT257_0 i0 hi0))) (w1s.p rfl (fvT257_6 i0 hi0)) ?_
        refine zs_aload_n (pc := 16) t123_16 rfl ?_
        refine zs_get (pc := 17) t123_17 (by decide) (zk1 (w1s.k fk_zMc_242)) (w1s.p rfl fv_zMc_242_8) ?_
        refine zs_iload_n (pc := 20) t123_20 rfl ?_
        have w7 := ib248 w1I w2n
        have w8 : (zI w1M 248 w2n) = (zI M 248 w2n) := hu.2.1
        have w9 : (zI w1M 248 w2n).toInt = (zI M 248 w2n).toInt := congrArg Int32.toInt hu.2.1
        have hv := x1.2.2.1 w2n (by omega)
        have hv1 := hv.1
        have hv3 := hv.2.2.1
        have hv4 := hv.2.2.2.1
        have hv5 := hv.2.2.2.2
        have hw := x0.2.2.1 (φ w2n) hv1
        have w10 : 0 ≤ (zI w1M 248 w2n).toInt ∧ (zI w1M 248 w2n).toInt ≤ 7 := by omega
        obtain ⟨w11n, w11⟩ : ∃ n : Nat, (zI w1M 248 w2n).toInt = (n : Int) := ⟨((zI w1M 248 w2n).toInt).toNat, by omega⟩
        refine zs_iald (pc := 21) t123_21 (j := w2n) (by decide) (zk1 (w1s.k fk_zMc_248)) (show w1x3.toInt = ((w2n : Nat) : Int) by omega) (zk2 (w1s.k fk_zMc_248) (by omega)) rfl ?_
        have w12 := ibT257_1 hI hi0 w11n
        refine zs_iald (pc := 22) t123_22 (j := w11n) (by omega) (zk1 (w1s.k (fT257_1 i0 hi0))) (show (zI w1M 248 w2n).toInt = ((w11n : Nat) : Int) by omega) (zk2 (w1s.k (fT257_1 i0 hi0)) (by omega)) ((w1F (257 + 3 * i0 + 1) w11n (zoC (by omega) rfl)).trans rfl) ?_
        refine zs_aload_n (pc := 23) t123_23 rfl ?_
        refine zs_get (pc := 24) t123_24 (by decide) (zk1 (w1s.k fk_zMc_242)) (w1s.p rfl fv_zMc_242_7) ?_
        refine zs_iload_n (pc := 27) t123_27 rfl ?_
        have w13 := ib247 w1I w2n
        have w14 : (zI w1M 247 w2n) = (zI M 247 w2n) := hu.1
        have w15 : (zI w1M 247 w2n).toInt = (zI M 247 w2n).toInt := congrArg Int32.toInt hu.1
        refine zs_iald (pc := 28) t123_28 (j := w2n) (by decide) (zk1 (w1s.k fk_zMc_247)) (show w1x3.toInt = ((w2n : Nat) : Int) by omega) (zk2 (w1s.k fk_zMc_247) (by omega)) rfl ?_
        by_cases w16 : (zI M (257 + 3 * i0 + 1) w11n).toInt = (zI w1M 247 w2n).toInt
        · refine zs_icmp_eqT (pc := 29) t123_29 rfl rfl (by omega) ?_
          obtain ⟨w17v, w17e, w17⟩ := ziadd (a := w1x3) (b := Int32.ofInt 1) rfl (show (Int32.ofInt 1).toInt = 1 by decide) (by omega) (by omega)
          refine zs_iinc (pc := 71) t123_71 (ls' := [(3, .int w17v), (0, .ref 242), (1, .ref (257 + 3 * i0)), (2, .int w1x2)]) (zml mf123 (by decide)) rfl (c := w17v) w17e rfl ?_
          refine zs_goto (pc := 74) t123_74 ?_
          refine zGo.locals (ls' := [(0, .ref 242), (1, .ref (257 + 3 * i0)), (2, .int w1x2), (3, .int w17v)]) (by simp) ?_
          have w18 := w17
          exact w1ih (w1m - 1) (by omega) w1x2 w17v w1M ⟨by omega, by omega⟩ ⟨by omega, by omega⟩ w1s w1I ((zFr.refl).trans (w1F.mono rfl)) (by omega) (by omega) (fun i m q1 q2 => by obtain rfl : i = w2n + 1 := (by omega); obtain rfl : m = w3n := (by omega); exact ⟨_, hT.skip (rmv.n (l := w11n) (by omega) (by omega) (by omega))⟩) (by omega)
        · refine zs_icmp_eqF (pc := 29) t123_29 rfl rfl (by omega) ?_
          refine zs_aload_n (pc := 32) t123_32 rfl ?_
          refine zs_get (pc := 33) t123_33 (by decide) (zk1 (w1s.k fk_zMc_242)) (w1s.p rfl fv_zMc_242_7) ?_
          refine zs_iload_n (pc := 36) t123_36 rfl ?_
          refine zs_aload_n (pc := 37) t123_37 rfl ?_
          refine zs_get (pc := 38) t123_38 (by decide) (zk1 (w1s.k fk_zMc_242)) (w1s.p rfl fv_zMc_242_7) ?_
          refine zs_iload_n (pc := 41) t123_41 rfl ?_
          have w19 : (zI w1M 247 w2n) = (zI M 247 w2n) := hu.1
          have w20 : (zI w1M 247 w2n).toInt = (zI M 247 w2n).toInt := congrArg Int32.toInt hu.1
          refine zs_iald (pc := 42) t123_42 (j := w2n) (by decide) (zk1 (w1s.k fk_zMc_247)) (show w1x3.toInt = ((w2n : Nat) : Int) by omega) (zk2 (w1s.k fk_zMc_247) (by omega)) rfl ?_
          have w21 : zIv cLo cHi (zsI w1M 247 w3n (zI w1M 247 w2n)) := zIv.put w1I (show 0 ≤ (zI w1M 247 w2n).toInt ∧ (zI w1M 247 w2n).toInt ≤ 59 from ⟨by omega, by omega⟩)
          refine zs_iast (pc := 43) t123_43 (j := w3n) (by decide) (zk1 (w1s.k fk_zMc_247)) (show w1x2.toInt = ((w3n : Nat) : Int) by omega) (zk2 (w1s.k fk_zMc_247) (by omega)) ?_
          refine zs_aload_n (pc := 44) t123_44 rfl ?_
          refine zs_get (pc := 45) t123_45 (by decide) (zk1 (w1s.k fk_zMc_242)) (w1s.p rfl fv_zMc_242_8) ?_
          refine zs_iload_n (pc := 48) t123_48 rfl ?_
          refine zs_aload_n (pc := 49) t123_49 rfl ?_
          refine zs_get (pc := 50) t123_50 (by decide) (zk1 (w1s.k fk_zMc_242)) (w1s.p rfl fv_zMc_242_8) ?_
          refine zs_iload_n (pc := 53) t123_53 rfl ?_
          have w22 : (zI w1M 248 w2n) = (zI M 248 w2n) := hu.2.1
          have w23 : (zI w1M 248 w2n).toInt = (zI M 248 w2n).toInt := congrArg Int32.toInt hu.2.1
          have hv := x1.2.2.1 w2n (by omega)
          have hv1 := hv.1
          have hv3 := hv.2.2.1
          have hv4 := hv.2.2.2.1
          have hv5 := hv.2.2.2.2
          have hw := x0.2.2.1 (φ w2n) hv1
          have w24 : 0 ≤ (zI w1M 248 w2n).toInt ∧ (zI w1M 248 w2n).toInt ≤ 7 := by omega
          refine zs_iald (pc := 54) t123_54 (j := w2n) (by decide) (zk1 (w1s.k fk_zMc_248)) (show w1x3.toInt = ((w2n : Nat) : Int) by omega) (zk2 (w1s.k fk_zMc_248) (by omega)) ((zIo (by decide)).trans rfl) ?_
          have w25 : zIv cLo cHi (zsI (zsI w1M 247 w3n (zI w1M 247 w2n)) 248 w3n (zI w1M 248 w2n)) := zIv.put w21 (show 0 ≤ (zI w1M 248 w2n).toInt ∧ (zI w1M 248 w2n).toInt ≤ 7 from ⟨by omega, by omega⟩)
          refine zs_iast (pc := 55) t123_55 (j := w3n) (by decide) (zk1 (w1s.k fk_zMc_248)) (show w1x2.toInt = ((w3n : Nat) : Int) by omega) (zk2 (w1s.k fk_zMc_248) (by omega)) ?_
          refine zs_aload_n (pc := 56) t123_56 rfl ?_
          refine zs_get (pc := 57) t123_57 (by decide) (zk1 (w1s.k fk_zMc_242)) (w1s.p rfl fv_zMc_242_9) ?_
          refine zs_iload_n (pc := 60) t123_60 rfl ?_
          refine zs_aload_n (pc := 61) t123_61 rfl ?_
          refine zs_get (pc := 62) t123_62 (by decide) (zk1 (w1s.k fk_zMc_242)) (w1s.p rfl fv_zMc_242_9) ?_
          refine zs_iload_n (pc := 65) t123_65 rfl ?_
          have w26 := zrg (zI w1M 249 w2n)
          have w27 : (zI w1M 249 w2n) = (zI M 249 w2n) := hu.2.2
          have w28 : (zI w1M 249 w2n).toInt = (zI M 249 w2n).toInt := congrArg Int32.toInt hu.2.2
          refine zs_iald (pc := 66) t123_66 (j := w2n) (by decide) (zk1 (w1s.k fk_zMc_249)) (show w1x3.toInt = ((w2n : Nat) : Int) by omega) (zk2 (w1s.k fk_zMc_249) (by omega)) ((zIo (by decide)).trans ((zIo (by decide)).trans rfl)) ?_
          have w29 : zIv cLo cHi (zsI (zsI (zsI w1M 247 w3n (zI w1M 247 w2n)) 248 w3n (zI w1M 248 w2n)) 249 w3n (zI w1M 249 w2n)) := zIv.put w25 (show (-2147483648) ≤ (zI w1M 249 w2n).toInt ∧ (zI w1M 249 w2n).toInt ≤ 2147483647 from zrg (zI w1M 249 w2n))
          refine zs_iast (pc := 67) t123_67 (j := w3n) (by decide) (zk1 (w1s.k fk_zMc_249)) (show w1x2.toInt = ((w3n : Nat) : Int) by omega) (zk2 (w1s.k fk_zMc_249) (by omega)) ?_
          obtain ⟨w30v, w30e, w30⟩ := ziadd (a := w1x2) (b := Int32.ofInt 1) rfl (show (Int32.ofInt 1).toInt = 1 by decide) (by omega) (by omega)
          refine zs_iinc (pc := 68) t123_68 (ls' := [(2, .int w30v), (0, .ref 242), (1, .ref (257 + 3 * i0)), (3, .int w1x3)]) (zml mf123 (by decide)) rfl (c := w30v) w30e rfl ?_
          obtain ⟨w31v, w31e, w31⟩ := ziadd (a := w1x3) (b := Int32.ofInt 1) rfl (show (Int32.ofInt 1).toInt = 1 by decide) (by omega) (by omega)
          refine zs_iinc (pc := 71) t123_71 (ls' := [(3, .int w31v), (2, .int w30v), (0, .ref 242), (1, .ref (257 + 3 * i0))]) (zml mf123 (by decide)) rfl (c := w31v) w31e rfl ?_
          refine zs_goto (pc := 74) t123_74 ?_
          refine zGo.locals (ls' := [(0, .ref 242), (1, .ref (257 + 3 * i0)), (2, .int w30v), (3, .int w31v)]) (by simp) ?_
          have w32 := w30
          have w33 := w31
          exact w1ih (w1m - 1) (by omega) w30v w31v (zsI (zsI (zsI w1M 247 w3n (zI w1M 247 w2n)) 248 w3n (zI w1M 248 w2n)) 249 w3n (zI w1M 249 w2n)) ⟨by omega, by omega⟩ ⟨by omega, by omega⟩ w1s w29 (((((zFr.refl).trans (w1F.mono rfl)).put rfl).put rfl).put rfl) (by omega) (by omega) (fun i m q1 q2 => by obtain rfl : i = w2n + 1 := (by omega); obtain rfl : m = w3n + 1 := (by omega); exact ⟨_, hT.put (by decide) (by decide) (by decide) x1.2.2.2.1 (by omega) (rmv.y (l := w11n) hv.2.1 (by omega) (by omega) (by omega)) (by omega) (by omega) (by omega)⟩) (by omega)
  refine zGo.locals (ls' := [(0, .ref 242), (1, .ref (257 + 3 * i0)), (2, .int (0 : Int32)), (3, .int (0 : Int32))]) (by simp) ?_
  have w34 := li0
  have w35 := li0
  exact w1L ((60 - 0 : Int).toNat) (0 : Int32) (0 : Int32) M ⟨by decide, by decide⟩ ⟨by decide, by decide⟩ hs hI zFr.refl (by omega) (by omega) (fun i m q1 q2 => ⟨fun _ => 0, zSi.zero (by first | omega | (simp at q2; omega)) (by first | omega | (simp at q1; omega))⟩) (by omega)
theorem V106_165 {X : zX} {l : Launch} {M : zM} {Q : Option Value → zM → Prop} {a b : Int32} (hs : zSk zMc M) (hI : zIv cLo cHi M) {F : Nat → Int} (hb : 2 ≤ b.toInt ∧ b.toInt ≤ 8) (u0 : (zI M 166 10).toInt ≤ 1800000000) (u1 : 0 ≤ (zI M 166 10).toInt) (x0 : zSo M 7 F) (x1 : zWF F) (x2 : zSp M 166 174) (hQ : ∀ M', zSk zMc M' → zIv cLo cHi M' → zFr [(165, 165, some 2), (165, 165, some 4), (165, 165, some 5), (180, 180, none), (166, 166, some 0), (166, 166, some 5), (166, 166, some 6), (166, 166, some 10), (166, 166, some 15), (166, 166, some 17), (166, 166, some 18), (167, 178, none), (181, 240, none)] M M' → ((zI M' 166 10).toInt ≤ (zI M 166 10).toInt + 6027) → ((zI M 166 10).toInt ≤ (zI M' 166 10).toInt) → (zFe M' 166 181 165 180 F a.toInt b.toInt) → Q none M') : zCall X l 4 0 0 106 [.ref 165, .ref 7, .int a, .int b] M Q := by
  have ga := zrg a
  have gb := zrg b
  refine zs_in (by decide) mf106 (Nat.le_of_ble_eq_true rfl) ?_
  show zGo X l 4 0 0 106 0 [(0, .ref 165), (1, .ref 7), (2, .int a), (3, .int b)] [] M _
  have f0 := x0.1
  have w1 := ib7_0 hI
  have w2 : (zI M 7 0).toInt = (zI M 7 0).toInt := (congrArg Int32.toInt rfl).trans rfl
  have w3 := ib7_3 hI
  have w4 : (zI M 7 3).toInt = (zI M 7 3).toInt := (congrArg Int32.toInt rfl).trans rfl
  have w5 := ib7_8 hI
  have w6 : (zI M 7 8).toInt = (zI M 7 8).toInt := (congrArg Int32.toInt rfl).trans rfl
  have f1 := x1.1
  have f3 := x1.2.2.2
  have f2 := (show (zI M 7 0).toInt = F 0 ∧ (zI M 7 3).toInt = F 1 ∧ (zI M 7 8).toInt = F 2 from ⟨x0.1.1, x0.1.2.1, x0.1.2.2.1⟩)
  refine zs_aload_n (pc := 0) t106_0 rfl ?_
  refine zs_get (pc := 1) t106_1 (by decide) (zk1 (hs.k fk_zMc_165)) (hs.p rfl fv_zMc_165_0) ?_
  refine zs_aload_n (pc := 4) t106_4 rfl ?_
  refine zs_iload_n (pc := 5) t106_5 rfl ?_
  refine zs_invV (pc := 6) (k := 166) (as' := [.ref 7, .int a]) (st := []) t106_6 mf107 rfl rfl (Or.inl ⟨by decide, (zk1 (hs.k fk_zMc_166))⟩) ⟨by decide, by decide, Nat.le_of_ble_eq_true rfl, Nat.le_of_ble_eq_true rfl⟩ (V107_166 hs hI x0 x1 ?_) (fun _ _ q => q)
  intro w7M w7s w7I w7F w7x0
  obtain ⟨w7m, w7φ, w7n, w7v, w7S, w7p⟩ := w7x0
  have w7S0 := w7S.1
  have w7S1 := w7S.2.1
  show zGo X l 4 0 0 106 9 [(0, .ref 165), (1, .ref 7), (2, .int a), (3, .int b)] [] w7M _
  refine zs_iconst (pc := 9) t106_9 (v := 0) (by decide) ?_
  refine zs_istore (pc := 10) t106_10 (ls' := [(4, .int (0 : Int32)), (0, .ref 165), (1, .ref 7), (2, .int a), (3, .int b)]) (zml mf106 (by decide)) rfl ?_
  have w8L : ∀ (m : Nat) (w8x4 : Int32) (w8M : zM), (0 ≤ w8x4.toInt ∧ w8x4.toInt ≤ 287) → zSk zMc w8M → zIv cLo cHi w8M → zFr [(180, 180, none)] w7M w8M → (∀ i s : Nat, (i : Int) = w8x4.toInt → s < i → (zI w8M 180 s).toInt = 8) → 287 - w8x4.toInt ≤ (m : Int) → zGo X l 4 0 0 106 12 [(0, .ref 165), (1, .ref 7), (2, .int a), (3, .int b), (4, .int w8x4)] [] w8M Q := by
    intro m
    induction m using Nat.strongRecOn with
    | ind w8m w8ih =>
      intro w8x4 w8M w8b4 w8s w8I w8F w8t0 w8q
      obtain ⟨w9n, w9⟩ : ∃ n : Nat, w8x4.toInt = (n : Int) := ⟨(w8x4.toInt).toNat, by omega⟩
      refine zs_iload (pc := 12) t106_12 rfl ?_
      refine zs_aload_n (pc := 14) t106_14 rfl ?_
      refine zs_get (pc := 15) t106_15 (by decide) (zk1 (w8s.k fk_zMc_165)) (w8s.p rfl fv_zMc_165_0) ?_
      refine zs_invV (pc := 18) (k := 166) (as' := []) (st := [.int w8x4]) t106_18 mf110 rfl rfl (Or.inl ⟨by decide, (zk1 (w8s.k fk_zMc_166))⟩) ⟨by decide, by decide, Nat.le_of_ble_eq_true rfl, Nat.le_of_ble_eq_true rfl⟩ (zs_in (by decide) mf110 (Nat.le_of_ble_eq_true rfl) ?_) (fun _ _ q => q)
      show zGo X l 0 0 0 110 0 [(0, .ref 166)] [] w8M _
      refine zs_aload_n (pc := 0) t110_0 rfl ?_
      have w10 := ib166_0 w7I
      refine zs_get (pc := 1) t110_1 (by decide) (zk1 (w8s.k fk_zMc_166)) (zfvi rfl ((w8F 166 0 rfl).trans rfl)) ?_
      refine zs_iret (pc := 4) t110_4 mr110 rfl ?_
      show zGo X l 4 0 0 106 21 [(0, .ref 165), (1, .ref 7), (2, .int a), (3, .int b), (4, .int w8x4)] [.int (zI w7M 166 0), .int w8x4] w8M _
      by_cases w11 : (zI w7M 166 0).toInt ≤ w8x4.toInt
      · refine zs_icmp_geT (pc := 21) t106_21 rfl rfl (by omega) ?_
        refine zs_aload_n (pc := 39) t106_39 rfl ?_
        refine zs_iconst (pc := 40) t106_40 (v := 0) (by decide) ?_
        have w12 : zIv cLo cHi (zsI w8M 165 2 (0 : Int32)) := zIv.put w8I (show 0 ≤ (0 : Int32).toInt ∧ (0 : Int32).toInt ≤ 20 from ⟨by decide, by decide⟩)
        refine zs_putI (pc := 41) t106_41 (zk1 (w8s.k fk_zMc_165)) rfl ?_
        have w13L : ∀ (m : Nat) (w13M : zM), zSk zMc w13M → zIv cLo cHi w13M → zFr [(165, 165, some 2), (165, 165, some 4), (165, 165, some 5), (180, 180, none), (166, 166, some 6), (166, 166, some 10), (166, 166, some 15), (166, 166, some 17), (166, 166, some 18), (171, 173, none), (174, 178, none), (181, 240, none)] (zsI w8M 165 2 (0 : Int32)) w13M → ((zI w13M 166 10).toInt ≤ (zI (zsI w8M 165 2 (0 : Int32)) 166 10).toInt + 287 * (zI w13M 165 2).toInt) → ((zI (zsI w8M 165 2 (0 : Int32)) 166 10).toInt ≤ (zI w13M 166 10).toInt) → (∃ n τ Λ m φ, zFc w13M 166 181 165 180 F a.toInt b.toInt n τ Λ w7n m φ) → 20 - (zI w13M 165 2).toInt ≤ (m : Int) → zGo X l 4 0 0 106 44 [(0, .ref 165), (1, .ref 7), (2, .int a), (3, .int b)] [] w13M Q := by
          intro m
          induction m using Nat.strongRecOn with
          | ind w13m w13ih =>
            intro w13M w13s w13I w13F w13r0 w13r1 w13t0 w13q
            obtain ⟨w13n, w13τ, w13Λ, w13mz, w13φ, w13c⟩ := w13t0
            have w13d := w13c
            obtain ⟨⟨w131, w132⟩, w133, w134, w135, w136, w137, w138, w139, w1310⟩ := w13d
            have w138a := w138.1
            have w14 := zrg (zI w13M 166 10)
            have w15 := ib165_2 w13I
            have w16 := zrg (zI M 166 10)
            have w17 : (zI (zsI w8M 165 2 (0 : Int32)) 166 10).toInt = (zI M 166 10).toInt := (congrArg Int32.toInt ((zIo (by decide)).trans ((w8F 166 10 rfl).trans ((w7F 166 10 rfl).trans rfl)))).trans rfl
            have w18 : (zI (zsI w8M 165 2 (0 : Int32)) 166 10).toInt = (zI M 166 10).toInt := (congrArg Int32.toInt ((zIo (by decide)).trans ((w8F 166 10 rfl).trans ((w7F 166 10 rfl).trans rfl)))).trans rfl
            refine zs_aload_n (pc := 44) t106_44 rfl ?_
            refine zs_get (pc := 45) t106_45 (by decide) (zk1 (w13s.k fk_zMc_165)) (zfvi rfl rfl) ?_
            refine zs_bipush (pc := 48) t106_48 (v := 20) (by decide) ?_
            by_cases w19 : 20 ≤ (zI w13M 165 2).toInt
            · refine zs_icmp_geT (pc := 50) t106_50 rfl li20 (by omega) ?_
              have w20 : (zI w13M 166 10).toInt = (zI w13M 166 10).toInt := (congrArg Int32.toInt rfl).trans rfl
              exact zs_vret (pc := 142) t106_142 mr106 (hQ _ w13s w13I (((((zFr.refl).trans (w7F.mono rfl)).trans (w8F.mono rfl)).put rfl).trans (w13F.mono rfl)) (by omega) (by omega) (w13c.all (by omega)))
            · refine zs_icmp_geF (pc := 50) t106_50 rfl li20 (by omega) ?_
              refine zs_aload_n (pc := 53) t106_53 rfl ?_
              refine zs_iload_n (pc := 54) t106_54 rfl ?_
              have w21 : (zI w13M 166 10).toInt = (zI w13M 166 10).toInt := (congrArg Int32.toInt rfl).trans rfl
              have w22 : (zI w13M 166 10).toInt = (zI w13M 166 10).toInt := (congrArg Int32.toInt rfl).trans rfl
              refine zs_invV (pc := 55) (k := 165) (as' := [.int b]) (st := []) t106_55 mf111 rfl rfl (Or.inl ⟨by decide, (zk1 (w13s.k fk_zMc_165))⟩) ⟨by decide, by decide, Nat.le_of_ble_eq_true rfl, Nat.le_of_ble_eq_true rfl⟩ (V111_165 w13s w13I ⟨by omega, by omega⟩ (by omega) (by omega) x1 (zPn.fr w139 rfl (fun j => rfl) (fun j => rfl)) (zVt.fr w136 rfl (fun j => rfl) (fun j => rfl) (fun j => rfl)) (zSl.fr w138 rfl (fun j => rfl) (fun j => rfl)) (zBd.fr w137 (fun j => rfl) (fun j => rfl) (fun j => rfl)) (zSp.fr w1310 (fun j => rfl) rfl) ?_) (fun _ _ q => q)
              intro w23M w23v w23s w23I w23F w23t0 w23t1 w23x0 w23x1 w23x2 w23a w23b
              have w24 := zrg (zI w23M 166 10)
              have w25 : (zI w23M 166 0).toInt = (zI w7M 166 0).toInt := (congrArg Int32.toInt ((w23F 166 0 rfl).trans ((w13F 166 0 rfl).trans ((zIo (by decide)).trans ((w8F 166 0 rfl).trans rfl))))).trans rfl
              have w26 : (zI w23M 165 2).toInt = (zI w13M 165 2).toInt := (congrArg Int32.toInt ((w23F 165 2 rfl).trans rfl)).trans rfl
              show zGo X l 4 0 0 106 58 [(0, .ref 165), (1, .ref 7), (2, .int a), (3, .int b)] [.int w23v] w23M _
              refine zs_istore (pc := 58) t106_58 (ls' := [(4, .int w23v), (0, .ref 165), (1, .ref 7), (2, .int a), (3, .int b)]) (zml mf106 (by decide)) rfl ?_
              refine zs_iload (pc := 60) t106_60 rfl ?_
              refine zs_iconst (pc := 62) t106_62 (v := -1) (by decide) ?_
              by_cases w27 : w23v.toInt ≠ (-1)
              · refine zs_icmp_neT (pc := 63) t106_63 rfl lin1 (by omega) ?_
                refine zs_aload_n (pc := 69) t106_69 rfl ?_
                refine zs_get (pc := 70) t106_70 (by decide) (zk1 (w23s.k fk_zMc_165)) (w23s.p rfl fv_zMc_165_1) ?_
                refine zs_aload_n (pc := 73) t106_73 rfl ?_
                refine zs_get (pc := 74) t106_74 (by decide) (zk1 (w23s.k fk_zMc_165)) (zfvi rfl ((w23F 165 2 rfl).trans rfl)) ?_
                have w28 : w13n < 20 := by omega
                refine zs_aald (pc := 77) t106_77 (j := w13n) (Or.inr (zk1 (w23s.k fk_zMc_179))) (show (zI w13M 165 2).toInt = ((w13n : Nat) : Int) by omega) (zk2 (w23s.k fk_zMc_179) (by omega)) (w23s.a (fpT181 w13n w28)) ?_
                refine zs_astore (pc := 78) t106_78 (ls' := [(5, .ref (181 + 3 * w13n)), (4, .int w23v), (0, .ref 165), (1, .ref 7), (2, .int a), (3, .int b)]) (zml mf106 (by decide)) rfl ?_
                refine zs_aload (pc := 80) t106_80 rfl ?_
                refine zs_aload_n (pc := 82) t106_82 rfl ?_
                refine zs_get (pc := 83) t106_83 (by decide) (zk1 (w23s.k fk_zMc_165)) (w23s.p rfl fv_zMc_165_0) ?_
                refine zs_iload (pc := 86) t106_86 rfl ?_
                obtain ⟨hs0, hs1, hs2, hs3, hs4⟩ := w23x0.resolve_left (fun q => by have z := q.1; omega)
                have hz : -F 5 ≤ (zI w23M 167 hs0).toInt ∧ (zI w23M 167 hs0).toInt ≤ F 5 ∧ -F 6 ≤ (zI w23M 168 hs0).toInt ∧ (zI w23M 168 hs0).toInt ≤ F 6 := hs4.1
                refine zs_invV (pc := 88) (k := 166) (as' := [.int w23v]) (st := [.ref (181 + 3 * w13n)]) t106_88 mf115 rfl rfl (Or.inl ⟨by decide, (zk1 (w23s.k fk_zMc_166))⟩) ⟨by decide, by decide, Nat.le_of_ble_eq_true rfl, Nat.le_of_ble_eq_true rfl⟩ (V115_166 w23s w23I ?_) (fun _ _ q => q)
                intro w29v w29x0
                have w29g := zrg w29v
                have w29y : w29v.toInt = (zI w23M 167 hs0).toInt := w29x0 hs0 (by omega) (by omega)
                have w29z : -3 ≤ w29v.toInt ∧ w29v.toInt ≤ 3 := by omega
                show zGo X l 4 0 0 106 91 [(5, .ref (181 + 3 * w13n)), (4, .int w23v), (0, .ref 165), (1, .ref 7), (2, .int a), (3, .int b)] [.int w29v, .ref (181 + 3 * w13n)] w23M _
                refine zs_aload_n (pc := 91) t106_91 rfl ?_
                refine zs_get (pc := 92) t106_92 (by decide) (zk1 (w23s.k fk_zMc_165)) (w23s.p rfl fv_zMc_165_0) ?_
                refine zs_iload (pc := 95) t106_95 rfl ?_
                refine zs_invV (pc := 97) (k := 166) (as' := [.int w23v]) (st := [.int w29v, .ref (181 + 3 * w13n)]) t106_97 mf116 rfl rfl (Or.inl ⟨by decide, (zk1 (w23s.k fk_zMc_166))⟩) ⟨by decide, by decide, Nat.le_of_ble_eq_true rfl, Nat.le_of_ble_eq_true rfl⟩ (V116_166 w23s w23I ?_) (fun _ _ q => q)
                intro w30v w30x0
                have w30g := zrg w30v
                have w30y : w30v.toInt = (zI w23M 168 hs0).toInt := w30x0 hs0 (by omega) (by omega)
                have w30z : -20 ≤ w30v.toInt ∧ w30v.toInt ≤ 20 := by omega
                show zGo X l 4 0 0 106 100 [(5, .ref (181 + 3 * w13n)), (4, .int w23v), (0, .ref 165), (1, .ref 7), (2, .int a), (3, .int b)] [.int w30v, .int w29v, .ref (181 + 3 * w13n)] w23M _
                refine zs_aload_n (pc := 100) t106_100 rfl ?_
                have w31 := zrg (zI w23M 165 5)
                refine zs_get (pc := 101) t106_101 (by decide) (zk1 (w23s.k fk_zMc_165)) (zfvi rfl rfl) ?_
                refine zs_aload_n (pc := 104) t106_104 rfl ?_
                have w32 := zrg (zI w23M 165 4)
                refine zs_get (pc := 105) t106_105 (by decide) (zk1 (w23s.k fk_zMc_165)) (zfvi rfl rfl) ?_
                refine zs_invV (pc := 108) (k := (181 + 3 * w13n)) (as' := [.int w29v, .int w30v, .int (zI w23M 165 5), .int (zI w23M 165 4)]) (st := []) t106_108 mf120 rfl rfl (Or.inl ⟨by decide, (zk1 (w23s.k (fT181_0 w13n w28)))⟩) ⟨by decide, by decide, Nat.le_of_ble_eq_true rfl, Nat.le_of_ble_eq_true rfl⟩ (V120_181 (hi0 := w28) w23s w23I ⟨by omega, by omega⟩ ⟨by omega, by omega⟩ ?_) (fun _ _ q => q)
                intro w33M w33s w33I w33F w33x0 w33x1 w33x2
                obtain ⟨w33a, w33b, w33c, w33d⟩ := w33x0
                have hbe : zBe F (w13Λ w13n) ((zI w33M (181 + 3 * w13n) 0).toInt, (zI w33M (181 + 3 * w13n) 1).toInt, (zI w33M (181 + 3 * w13n) 2).toInt) (zI w23M 165 4).toInt := zBe.cs hs4 (by omega) (by omega) (by omega) rfl
                show zGo X l 4 0 0 106 111 [(5, .ref (181 + 3 * w13n)), (4, .int w23v), (0, .ref 165), (1, .ref 7), (2, .int a), (3, .int b)] [] w33M _
                refine zs_aload_n (pc := 111) t106_111 rfl ?_
                refine zs_get (pc := 112) t106_112 (by decide) (zk1 (w33s.k fk_zMc_165)) (w33s.p rfl fv_zMc_165_0) ?_
                refine zs_aload (pc := 115) t106_115 rfl ?_
                refine zs_invV (pc := 117) (k := 166) (as' := [.ref (181 + 3 * w13n)]) (st := []) t106_117 mf121 rfl rfl (Or.inl ⟨by decide, (zk1 (w33s.k fk_zMc_166))⟩) ⟨by decide, by decide, Nat.le_of_ble_eq_true rfl, Nat.le_of_ble_eq_true rfl⟩ (V121_181 (hi0 := w28) w33s w33I x1 (zPn.fr w139 ((w33F 166 5 rfl).trans (w23F 166 5 rfl)) (fun j => ((w33F 169 j rfl).trans (w23F 169 j rfl))) (fun j => ((w33F 170 j rfl).trans (w23F 170 j rfl)))) (zVt.fr w136 ((w33F 166 6 rfl).trans (w23F 166 6 rfl)) (fun j => ((w33F 171 j rfl).trans (w23F 171 j rfl))) (fun j => ((w33F 172 j rfl).trans (w23F 172 j rfl))) (fun j => ((w33F 173 j rfl).trans (w23F 173 j rfl)))) hbe w33x1 ?_) (fun _ _ q => q)
                intro w34M w34s w34I w34F w34x0
                show zGo X l 4 0 0 106 120 [(5, .ref (181 + 3 * w13n)), (4, .int w23v), (0, .ref 165), (1, .ref 7), (2, .int a), (3, .int b)] [] w34M _
                refine zs_aload_n (pc := 120) t106_120 rfl ?_
                refine zs_get (pc := 121) t106_121 (by decide) (zk1 (w34s.k fk_zMc_165)) (w34s.p rfl fv_zMc_165_0) ?_
                refine zs_aload (pc := 124) t106_124 rfl ?_
                refine zs_invV (pc := 126) (k := 166) (as' := [.ref (181 + 3 * w13n)]) (st := []) t106_126 mf123 rfl rfl (Or.inl ⟨by decide, (zk1 (w34s.k fk_zMc_166))⟩) ⟨by decide, by decide, Nat.le_of_ble_eq_true rfl, Nat.le_of_ble_eq_true rfl⟩ (V123_181 (hi0 := w28) w34s w34I x1 (zVt.fr w136 ((w34F 166 6 rfl).trans ((w33F 166 6 rfl).trans (w23F 166 6 rfl))) (fun j => ((w34F 171 j rfl).trans ((w33F 171 j rfl).trans (w23F 171 j rfl)))) (fun j => ((w34F 172 j rfl).trans ((w33F 172 j rfl).trans (w23F 172 j rfl)))) (fun j => ((w34F 173 j rfl).trans ((w33F 173 j rfl).trans (w23F 173 j rfl))))) ?_) (fun _ _ q => q)
                intro w35M w35s w35I w35F w35x0
                obtain ⟨w35m, w35ψ, w35z⟩ := w35x0
                show zGo X l 4 0 0 106 129 [(5, .ref (181 + 3 * w13n)), (4, .int w23v), (0, .ref 165), (1, .ref 7), (2, .int a), (3, .int b)] [] w35M _
                refine zs_aload_n (pc := 129) t106_129 rfl ?_
                refine zs_dup (pc := 130) t106_130 rfl ?_
                refine zs_get (pc := 131) t106_131 (by decide) (zk1 (w35s.k fk_zMc_165)) (zfvi rfl ((w35F 165 2 rfl).trans ((w34F 165 2 rfl).trans ((w33F 165 2 rfl).trans ((w23F 165 2 rfl).trans rfl))))) ?_
                refine zs_iconst (pc := 134) t106_134 (v := 1) (by decide) ?_
                obtain ⟨w36v, w36e, w36⟩ := ziadd (a := (zI w13M 165 2)) (b := (1 : Int32)) rfl li1 (by omega) (by omega)
                refine zs_iadd (pc := 135) t106_135 (c := w36v) w36e ?_
                have w37 : zIv cLo cHi (zsI w35M 165 2 w36v) := zIv.put w35I (show 0 ≤ w36v.toInt ∧ w36v.toInt ≤ 20 from ⟨by omega, by omega⟩)
                refine zs_putI (pc := 136) t106_136 (zk1 (w35s.k fk_zMc_165)) rfl ?_
                refine zs_goto (pc := 139) t106_139 ?_
                refine zGo.locals (ls' := [(0, .ref 165), (1, .ref 7), (2, .int a), (3, .int b)]) (by simp) ?_
                have w38 : (zI (zsI w35M 165 2 w36v) 166 10).toInt = (zI w23M 166 10).toInt := (congrArg Int32.toInt ((zIo (by decide)).trans ((w35F 166 10 rfl).trans ((w34F 166 10 rfl).trans ((w33F 166 10 rfl).trans rfl))))).trans rfl
                have w39 : (zI (zsI w35M 165 2 w36v) 165 2).toInt = ((zI w13M 165 2).toInt + 1) := (congrArg Int32.toInt zIs).trans w36
                have w40 : (zI (zsI w35M 165 2 w36v) 166 10).toInt = (zI w23M 166 10).toInt := (congrArg Int32.toInt ((zIo (by decide)).trans ((w35F 166 10 rfl).trans ((w34F 166 10 rfl).trans ((w33F 166 10 rfl).trans rfl))))).trans rfl
                have w41 : (zI (zsI w35M 165 2 w36v) 165 2).toInt = ((zI w13M 165 2).toInt + 1) := (congrArg Int32.toInt zIs).trans w36
                have w42 : (zI (zsI w35M 165 2 w36v) 165 2).toInt = ((zI w13M 165 2).toInt + 1) := (congrArg Int32.toInt zIs).trans w36
                exact w13ih (w13m - 1) (by omega) (zsI w35M 165 2 w36v) w35s w37 (((((((zFr.refl).trans (w13F.mono rfl)).trans (w23F.mono rfl)).trans (w33F.mono rfl)).trans (w34F.mono rfl)).trans (w35F.mono rfl)).put rfl) (by omega) (by omega) (w13c.more (hs := hsO w34M (181 + 3 * w13n)) (by omega) hbe (by omega) (fun l hl => by unfold hsO; rw [if_pos hl]; exact w34x0.2 l hl) (fun l hl => by unfold hsO; rw [if_neg (by omega)]) (by omega) (fun k j q1 q2 => (zIo (by omega)).trans ((w35F k j (zoC (by omega) (zoC (by omega) rfl))).trans ((w34x0.1 k j (by omega) (by omega)).trans ((w33x2 k j (by omega) (by omega)).trans (w23F k j (zoC (by omega) (zoC (by omega) (zoC (by omega) (zoC (by omega) (zoC (by omega) (zoC (by omega) (zoC (by omega) (zoC (by omega) (zoC (by omega) rfl)))))))))))))) ⟨((congrArg Int32.toInt (show zI (zsI w35M 165 2 w36v) (181 + 3 * w13n) 0 = zI w33M (181 + 3 * w13n) 0 from (zIo (by omega)).trans ((w35F (181 + 3 * w13n) 0 (zoC (by omega) (zoC (by omega) rfl))).trans (w34x0.1 _ 0 (by omega) (by omega)))))), ((congrArg Int32.toInt (show zI (zsI w35M 165 2 w36v) (181 + 3 * w13n) 1 = zI w33M (181 + 3 * w13n) 1 from (zIo (by omega)).trans ((w35F (181 + 3 * w13n) 1 (zoC (by omega) (zoC (by omega) rfl))).trans (w34x0.1 _ 1 (by omega) (by omega)))))), ((congrArg Int32.toInt (show zI (zsI w35M 165 2 w36v) (181 + 3 * w13n) 2 = zI w33M (181 + 3 * w13n) 2 from (zIo (by omega)).trans ((w35F (181 + 3 * w13n) 2 (zoC (by omega) (zoC (by omega) rfl))).trans (w34x0.1 _ 2 (by omega) (by omega)))))), ((congrArg Int32.toInt (show zI (zsI w35M 165 2 w36v) (181 + 3 * w13n) 3 = zI w33M (181 + 3 * w13n) 3 from (zIo (by omega)).trans ((w35F (181 + 3 * w13n) 3 (zoC (by omega) (zoC (by omega) rfl))).trans (w34x0.1 _ 3 (by omega) (by omega)))))).trans w33d, fun l hl => (congrArg Int32.toInt (show zI (zsI w35M 165 2 w36v) (181 + 3 * w13n + 1) l = zI w34M (181 + 3 * w13n + 1) l from (zIo (by omega)).trans (w35F (181 + 3 * w13n + 1) l (zoC (by omega) (zoC (by omega) rfl))))).trans (by show _ = hsO w34M (181 + 3 * w13n) l; unfold hsO; rw [if_pos hl])⟩ ⟨_, _, (zVt.fr w35z (zIo (by decide)) (fun j => (zIo (by decide))) (fun j => (zIo (by decide))) (fun j => (zIo (by decide))))⟩ (zBd.fr w23x1 (fun j => ((zIo (by decide)).trans ((w35F 167 j rfl).trans ((w34F 167 j rfl).trans (w33F 167 j rfl))))) (fun j => ((zIo (by decide)).trans ((w35F 168 j rfl).trans ((w34F 168 j rfl).trans (w33F 168 j rfl))))) (fun j => ((zIo (by decide)).trans ((w35F 180 j rfl).trans ((w34F 180 j rfl).trans (w33F 180 j rfl)))))) (zSl.fr w138 ((zIo (by decide)).trans ((w35F 166 0 rfl).trans ((w34F 166 0 rfl).trans ((w33F 166 0 rfl).trans (w23F 166 0 rfl))))) (fun j => ((zIo (by decide)).trans ((w35F 167 j rfl).trans ((w34F 167 j rfl).trans ((w33F 167 j rfl).trans (w23F 167 j rfl)))))) (fun j => ((zIo (by decide)).trans ((w35F 168 j rfl).trans ((w34F 168 j rfl).trans ((w33F 168 j rfl).trans (w23F 168 j rfl))))))) (zPn.fr w139 ((zIo (by decide)).trans ((w35F 166 5 rfl).trans ((w34F 166 5 rfl).trans ((w33F 166 5 rfl).trans (w23F 166 5 rfl))))) (fun j => ((zIo (by decide)).trans ((w35F 169 j rfl).trans ((w34F 169 j rfl).trans ((w33F 169 j rfl).trans (w23F 169 j rfl)))))) (fun j => ((zIo (by decide)).trans ((w35F 170 j rfl).trans ((w34F 170 j rfl).trans ((w33F 170 j rfl).trans (w23F 170 j rfl))))))) (zSp.fr w23x2 (fun j => ((zIo (by decide)).trans ((w35F 174 j rfl).trans ((w34F 174 j rfl).trans (w33F 174 j rfl))))) ((zIo (by decide)).trans ((w35F 166 10 rfl).trans ((w34F 166 10 rfl).trans (w33F 166 10 rfl)))))) (by omega)
              · refine zs_icmp_neF (pc := 63) t106_63 rfl lin1 (by omega) ?_
                refine zs_goto (pc := 66) t106_66 ?_
                have w43 : (zI w23M 166 10).toInt = (zI w23M 166 10).toInt := (congrArg Int32.toInt rfl).trans rfl
                exact zs_vret (pc := 142) t106_142 mr106 (hQ _ w23s w23I ((((((zFr.refl).trans (w7F.mono rfl)).trans (w8F.mono rfl)).put rfl).trans (w13F.mono rfl)).trans (w23F.mono rfl)) (by omega) (by omega) (w13c.none ((w23x0.resolve_right (fun q => by obtain ⟨s, q1, _⟩ := q; omega)).2) (w23F 165 2 rfl) (fun k j q1 q2 => (w23F k j (zoC (by omega) (zoC (by omega) (zoC (by omega) (zoC (by omega) (zoC (by omega) (zoC (by omega) (zoC (by omega) (zoC (by omega) (zoC (by omega) rfl))))))))))) (zVt.fr w136 (w23F 166 6 rfl) (fun j => (w23F 171 j rfl)) (fun j => (w23F 172 j rfl)) (fun j => (w23F 173 j rfl))) w23x1 (zSl.fr w138 (w23F 166 0 rfl) (fun j => (w23F 167 j rfl)) (fun j => (w23F 168 j rfl))) (zPn.fr w139 (w23F 166 5 rfl) (fun j => (w23F 169 j rfl)) (fun j => (w23F 170 j rfl))) w23x2))
        refine zGo.locals (ls' := [(0, .ref 165), (1, .ref 7), (2, .int a), (3, .int b)]) (by simp) ?_
        have w44 : (zI (zsI w8M 165 2 (0 : Int32)) 166 10).toInt = (zI M 166 10).toInt := (congrArg Int32.toInt ((zIo (by decide)).trans ((w8F 166 10 rfl).trans ((w7F 166 10 rfl).trans rfl)))).trans rfl
        have w45 : (zI (zsI w8M 165 2 (0 : Int32)) 165 2).toInt = 0 := (congrArg Int32.toInt zIs).trans li0
        have w46 : (zI (zsI w8M 165 2 (0 : Int32)) 166 10).toInt = (zI M 166 10).toInt := (congrArg Int32.toInt ((zIo (by decide)).trans ((w8F 166 10 rfl).trans ((w7F 166 10 rfl).trans rfl)))).trans rfl
        have w47 : (zI (zsI w8M 165 2 (0 : Int32)) 165 2).toInt = 0 := (congrArg Int32.toInt zIs).trans li0
        have w48 : (zI (zsI w8M 165 2 (0 : Int32)) 165 2).toInt = 0 := (congrArg Int32.toInt zIs).trans li0
        exact w13L ((20 - (zI (zsI w8M 165 2 (0 : Int32)) 165 2).toInt : Int).toNat) (zsI w8M 165 2 (0 : Int32)) w8s w12 zFr.refl (by omega) (by omega) (zFc.start (by omega) (zVt.fr w7v ((zIo (by decide)).trans (w8F 166 6 rfl)) (fun j => ((zIo (by decide)).trans (w8F 171 j rfl))) (fun j => ((zIo (by decide)).trans (w8F 172 j rfl))) (fun j => ((zIo (by decide)).trans (w8F 173 j rfl)))) (zBd.full (fun s hs => (congrArg Int32.toInt (show zI (zsI w8M 165 2 (0 : Int32)) 180 s = zI w8M 180 s from (zIo (by decide)))).trans (w8t0 w9n s (by omega) (by omega)))) (zSl.fr w7S ((zIo (by decide)).trans (w8F 166 0 rfl)) (fun j => ((zIo (by decide)).trans (w8F 167 j rfl))) (fun j => ((zIo (by decide)).trans (w8F 168 j rfl)))) (zPn.fr w7p ((zIo (by decide)).trans (w8F 166 5 rfl)) (fun j => ((zIo (by decide)).trans (w8F 169 j rfl))) (fun j => ((zIo (by decide)).trans (w8F 170 j rfl)))) (zSp.fr x2 (fun j => ((zIo (by decide)).trans ((w8F 174 j rfl).trans (w7F 174 j rfl)))) ((zIo (by decide)).trans ((w8F 166 10 rfl).trans (w7F 166 10 rfl))))) (by omega)
      · refine zs_icmp_geF (pc := 21) t106_21 rfl rfl (by omega) ?_
        refine zs_aload_n (pc := 24) t106_24 rfl ?_
        refine zs_get (pc := 25) t106_25 (by decide) (zk1 (w8s.k fk_zMc_165)) (w8s.p rfl fv_zMc_165_3) ?_
        refine zs_iload (pc := 28) t106_28 rfl ?_
        refine zs_bipush (pc := 30) t106_30 (v := 8) (by decide) ?_
        have w49 : zIv cLo cHi (zsI w8M 180 w9n (8 : Int32)) := zIv.put w8I (show (-2147483648) ≤ (8 : Int32).toInt ∧ (8 : Int32).toInt ≤ 2147483647 from zrg (8 : Int32))
        refine zs_iast (pc := 32) t106_32 (j := w9n) (by decide) (zk1 (w8s.k fk_zMc_180)) (show w8x4.toInt = ((w9n : Nat) : Int) by omega) (zk2 (w8s.k fk_zMc_180) (by omega)) ?_
        obtain ⟨w50v, w50e, w50⟩ := ziadd (a := w8x4) (b := Int32.ofInt 1) rfl (show (Int32.ofInt 1).toInt = 1 by decide) (by omega) (by omega)
        refine zs_iinc (pc := 33) t106_33 (ls' := [(4, .int w50v), (0, .ref 165), (1, .ref 7), (2, .int a), (3, .int b)]) (zml mf106 (by decide)) rfl (c := w50v) w50e rfl ?_
        refine zs_goto (pc := 36) t106_36 ?_
        refine zGo.locals (ls' := [(0, .ref 165), (1, .ref 7), (2, .int a), (3, .int b), (4, .int w50v)]) (by simp) ?_
        have w51 := w50
        exact w8ih (w8m - 1) (by omega) w50v (zsI w8M 180 w9n (8 : Int32)) ⟨by omega, by omega⟩ w8s w49 (((zFr.refl).trans (w8F.mono rfl)).put rfl) (fun i s q1 q2 => Classical.byCases (fun q : s = w9n => by rw [q]; exact (congrArg Int32.toInt zIs).trans (by decide)) (fun q => (congrArg Int32.toInt (zIoj q)).trans (w8t0 w9n s (by omega) (by omega)))) (by omega)
  refine zGo.locals (ls' := [(0, .ref 165), (1, .ref 7), (2, .int a), (3, .int b), (4, .int (0 : Int32))]) (by simp) ?_
  have w52 := li0
  exact w8L ((287 - 0 : Int).toNat) (0 : Int32) w7M ⟨by decide, by decide⟩ w7s w7I zFr.refl (fun i s q1 q2 => absurd q2 (by omega)) (by omega)
theorem V106_241 {X : zX} {l : Launch} {M : zM} {Q : Option Value → zM → Prop} {a b : Int32} (hs : zSk zMc M) (hI : zIv cLo cHi M) {F : Nat → Int} (hb : 2 ≤ b.toInt ∧ b.toInt ≤ 8) (u0 : (zI M 242 10).toInt ≤ 1800000000) (u1 : 0 ≤ (zI M 242 10).toInt) (x0 : zSo M 7 F) (x1 : zWF F) (x2 : zSp M 242 250) (hQ : ∀ M', zSk zMc M' → zIv cLo cHi M' → zFr [(241, 241, some 2), (241, 241, some 4), (241, 241, some 5), (256, 256, none), (242, 242, some 0), (242, 242, some 5), (242, 242, some 6), (242, 242, some 10), (242, 242, some 15), (242, 242, some 17), (242, 242, some 18), (243, 254, none), (257, 316, none)] M M' → ((zI M' 242 10).toInt ≤ (zI M 242 10).toInt + 6027) → ((zI M 242 10).toInt ≤ (zI M' 242 10).toInt) → (zFe M' 242 257 241 256 F a.toInt b.toInt) → Q none M') : zCall X l 4 0 0 106 [.ref 241, .ref 7, .int a, .int b] M Q := by
  have ga := zrg a
  have gb := zrg b
  refine zs_in (by decide) mf106 (Nat.le_of_ble_eq_true rfl) ?_
  show zGo X l 4 0 0 106 0 [(0, .ref 241), (1, .ref 7), (2, .int a), (3, .int b)] [] M _
  have f0 := x0.1
  have w1 := ib7_0 hI
  have w2 : (zI M 7 0).toInt = (zI M 7 0).toInt := (congrArg Int32.toInt rfl).trans rfl
  have w3 := ib7_3 hI
  have w4 : (zI M 7 3).toInt = (zI M 7 3).toInt := (congrArg Int32.toInt rfl).trans rfl
  have w5 := ib7_8 hI
  have w6 : (zI M 7 8).toInt = (zI M 7 8).toInt := (congrArg Int32.toInt rfl).trans rfl
  have f1 := x1.1
  have f3 := x1.2.2.2
  have f2 := (show (zI M 7 0).toInt = F 0 ∧ (zI M 7 3).toInt = F 1 ∧ (zI M 7 8).toInt = F 2 from ⟨x0.1.1, x0.1.2.1, x0.1.2.2.1⟩)
  refine zs_aload_n (pc := 0) t106_0 rfl ?_
  refine zs_get (pc := 1) t106_1 (by decide) (zk1 (hs.k fk_zMc_241)) (hs.p rfl fv_zMc_241_0) ?_
  refine zs_aload_n (pc := 4) t106_4 rfl ?_
  refine zs_iload_n (pc := 5) t106_5 rfl ?_
  refine zs_invV (pc := 6) (k := 242) (as' := [.ref 7, .int a]) (st := []) t106_6 mf107 rfl rfl (Or.inl ⟨by decide, (zk1 (hs.k fk_zMc_242))⟩) ⟨by decide, by decide, Nat.le_of_ble_eq_true rfl, Nat.le_of_ble_eq_true rfl⟩ (V107_242 hs hI x0 x1 ?_) (fun _ _ q => q)
  intro w7M w7s w7I w7F w7x0
  obtain ⟨w7m, w7φ, w7n, w7v, w7S, w7p⟩ := w7x0
  have w7S0 := w7S.1
  have w7S1 := w7S.2.1
  show zGo X l 4 0 0 106 9 [(0, .ref 241), (1, .ref 7), (2, .int a), (3, .int b)] [] w7M _
  refine zs_iconst (pc := 9) t106_9 (v := 0) (by decide) ?_
  refine zs_istore (pc := 10) t106_10 (ls' := [(4, .int (0 : Int32)), (0, .ref 241), (1, .ref 7), (2, .int a), (3, .int b)]) (zml mf106 (by decide)) rfl ?_
  have w8L : ∀ (m : Nat) (w8x4 : Int32) (w8M : zM), (0 ≤ w8x4.toInt ∧ w8x4.toInt ≤ 287) → zSk zMc w8M → zIv cLo cHi w8M → zFr [(256, 256, none)] w7M w8M → (∀ i s : Nat, (i : Int) = w8x4.toInt → s < i → (zI w8M 256 s).toInt = 8) → 287 - w8x4.toInt ≤ (m : Int) → zGo X l 4 0 0 106 12 [(0, .ref 241), (1, .ref 7), (2, .int a), (3, .int b), (4, .int w8x4)] [] w8M Q := by
    intro m
    induction m using Nat.strongRecOn with
    | ind w8m w8ih =>
      intro w8x4 w8M w8b4 w8s w8I w8F w8t0 w8q
      obtain ⟨w9n, w9⟩ : ∃ n : Nat, w8x4.toInt = (n : Int) := ⟨(w8x4.toInt).toNat, by omega⟩
      refine zs_iload (pc := 12) t106_12 rfl ?_
      refine zs_aload_n (pc := 14) t106_14 rfl ?_
      refine zs_get (pc := 15) t106_15 (by decide) (zk1 (w8s.k fk_zMc_241)) (w8s.p rfl fv_zMc_241_0) ?_
      refine zs_invV (pc := 18) (k := 242) (as' := []) (st := [.int w8x4]) t106_18 mf110 rfl rfl (Or.inl ⟨by decide, (zk1 (w8s.k fk_zMc_242))⟩) ⟨by decide, by decide, Nat.le_of_ble_eq_true rfl, Nat.le_of_ble_eq_true rfl⟩ (zs_in (by decide) mf110 (Nat.le_of_ble_eq_true rfl) ?_) (fun _ _ q => q)
      show zGo X l 0 0 0 110 0 [(0, .ref 242)] [] w8M _
      refine zs_aload_n (pc := 0) t110_0 rfl ?_
      have w10 := ib242_0 w7I
      refine zs_get (pc := 1) t110_1 (by decide) (zk1 (w8s.k fk_zMc_242)) (zfvi rfl ((w8F 242 0 rfl).trans rfl)) ?_
      refine zs_iret (pc := 4) t110_4 mr110 rfl ?_
      show zGo X l 4 0 0 106 21 [(0, .ref 241), (1, .ref 7), (2, .int a), (3, .int b), (4, .int w8x4)] [.int (zI w7M 242 0), .int w8x4] w8M _
      by_cases w11 : (zI w7M 242 0).toInt ≤ w8x4.toInt
      · refine zs_icmp_geT (pc := 21) t106_21 rfl rfl (by omega) ?_
        refine zs_aload_n (pc := 39) t106_39 rfl ?_
        refine zs_iconst (pc := 40) t106_40 (v := 0) (by decide) ?_
        have w12 : zIv cLo cHi (zsI w8M 241 2 (0 : Int32)) := zIv.put w8I (show 0 ≤ (0 : Int32).toInt ∧ (0 : Int32).toInt ≤ 20 from ⟨by decide, by decide⟩)
        refine zs_putI (pc := 41) t106_41 (zk1 (w8s.k fk_zMc_241)) rfl ?_
        have w13L : ∀ (m : Nat) (w13M : zM), zSk zMc w13M → zIv cLo cHi w13M → zFr [(241, 241, some 2), (241, 241, some 4), (241, 241, some 5), (256, 256, none), (242, 242, some 6), (242, 242, some 10), (242, 242, some 15), (242, 242, some 17), (242, 242, some 18), (247, 249, none), (250, 254, none), (257, 316, none)] (zsI w8M 241 2 (0 : Int32)) w13M → ((zI w13M 242 10).toInt ≤ (zI (zsI w8M 241 2 (0 : Int32)) 242 10).toInt + 287 * (zI w13M 241 2).toInt) → ((zI (zsI w8M 241 2 (0 : Int32)) 242 10).toInt ≤ (zI w13M 242 10).toInt) → (∃ n τ Λ m φ, zFc w13M 242 257 241 256 F a.toInt b.toInt n τ Λ w7n m φ) → 20 - (zI w13M 241 2).toInt ≤ (m : Int) → zGo X l 4 0 0 106 44 [(0, .ref 241), (1, .ref 7), (2, .int a), (3, .int b)] [] w13M Q := by
          intro m
          induction m using Nat.strongRecOn with
          | ind w13m w13ih =>
            intro w13M w13s w13I w13F w13r0 w13r1 w13t0 w13q
            obtain ⟨w13n, w13τ, w13Λ, w13mz, w13φ, w13c⟩ := w13t0
            have w13d := w13c
            obtain ⟨⟨w131, w132⟩, w133, w134, w135, w136, w137, w138, w139, w1310⟩ := w13d
            have w138a := w138.1
            have w14 := ib241_2 w13I
            have w15 := zrg (zI w13M 242 10)
            have w16 := zrg (zI M 242 10)
            have w17 : (zI (zsI w8M 241 2 (0 : Int32)) 242 10).toInt = (zI M 242 10).toInt := (congrArg Int32.toInt ((zIo (by decide)).trans ((w8F 242 10 rfl).trans ((w7F 242 10 rfl).trans rfl)))).trans rfl
            have w18 : (zI (zsI w8M 241 2 (0 : Int32)) 242 10).toInt = (zI M 242 10).toInt := (congrArg Int32.toInt ((zIo (by decide)).trans ((w8F 242 10 rfl).trans ((w7F 242 10 rfl).trans rfl)))).trans rfl
            refine zs_aload_n (pc := 44) t106_44 rfl ?_
            refine zs_get (pc := 45) t106_45 (by decide) (zk1 (w13s.k fk_zMc_241)) (zfvi rfl rfl) ?_
            refine zs_bipush (pc := 48) t106_48 (v := 20) (by decide) ?_
            by_cases w19 : 20 ≤ (zI w13M 241 2).toInt
            · refine zs_icmp_geT (pc := 50) t106_50 rfl li20 (by omega) ?_
              have w20 : (zI w13M 242 10).toInt = (zI w13M 242 10).toInt := (congrArg Int32.toInt rfl).trans rfl
              exact zs_vret (pc := 142) t106_142 mr106 (hQ _ w13s w13I (((((zFr.refl).trans (w7F.mono rfl)).trans (w8F.mono rfl)).put rfl).trans (w13F.mono rfl)) (by omega) (by omega) (w13c.all (by omega)))
            · refine zs_icmp_geF (pc := 50) t106_50 rfl li20 (by omega) ?_
              refine zs_aload_n (pc := 53) t106_53 rfl ?_
              refine zs_iload_n (pc := 54) t106_54 rfl ?_
              have w21 : (zI w13M 242 10).toInt = (zI w13M 242 10).toInt := (congrArg Int32.toInt rfl).trans rfl
              have w22 : (zI w13M 242 10).toInt = (zI w13M 242 10).toInt := (congrArg Int32.toInt rfl).trans rfl
              refine zs_invV (pc := 55) (k := 241) (as' := [.int b]) (st := []) t106_55 mf111 rfl rfl (Or.inl ⟨by decide, (zk1 (w13s.k fk_zMc_241))⟩) ⟨by decide, by decide, Nat.le_of_ble_eq_true rfl, Nat.le_of_ble_eq_true rfl⟩ (V111_241 w13s w13I ⟨by omega, by omega⟩ (by omega) (by omega) x1 (zPn.fr w139 rfl (fun j => rfl) (fun j => rfl)) (zVt.fr w136 rfl (fun j => rfl) (fun j => rfl) (fun j => rfl)) (zSl.fr w138 rfl (fun j => rfl) (fun j => rfl)) (zBd.fr w137 (fun j => rfl) (fun j => rfl) (fun j => rfl)) (zSp.fr w1310 (fun j => rfl) rfl) ?_) (fun _ _ q => q)
              intro w23M w23v w23s w23I w23F w23t0 w23t1 w23x0 w23x1 w23x2 w23a w23b
              have w24 := zrg (zI w23M 242 10)
              have w25 : (zI w23M 242 0).toInt = (zI w7M 242 0).toInt := (congrArg Int32.toInt ((w23F 242 0 rfl).trans ((w13F 242 0 rfl).trans ((zIo (by decide)).trans ((w8F 242 0 rfl).trans rfl))))).trans rfl
              have w26 : (zI w23M 241 2).toInt = (zI w13M 241 2).toInt := (congrArg Int32.toInt ((w23F 241 2 rfl).trans rfl)).trans rfl
              show zGo X l 4 0 0 106 58 [(0, .ref 241), (1, .ref 7), (2, .int a), (3, .int b)] [.int w23v] w23M _
              refine zs_istore (pc := 58) t106_58 (ls' := [(4, .int w23v), (0, .ref 241), (1, .ref 7), (2, .int a), (3, .int b)]) (zml mf106 (by decide)) rfl ?_
              refine zs_iload (pc := 60) t106_60 rfl ?_
              refine zs_iconst (pc := 62) t106_62 (v := -1) (by decide) ?_
              by_cases w27 : w23v.toInt ≠ (-1)
              · refine zs_icmp_neT (pc := 63) t106_63 rfl lin1 (by omega) ?_
                refine zs_aload_n (pc := 69) t106_69 rfl ?_
                refine zs_get (pc := 70) t106_70 (by decide) (zk1 (w23s.k fk_zMc_241)) (w23s.p rfl fv_zMc_241_1) ?_
                refine zs_aload_n (pc := 73) t106_73 rfl ?_
                refine zs_get (pc := 74) t106_74 (by decide) (zk1 (w23s.k fk_zMc_241)) (zfvi rfl ((w23F 241 2 rfl).trans rfl)) ?_
                have w28 : w13n < 20 := by omega
                refine zs_aald (pc := 77) t106_77 (j := w13n) (Or.inr (zk1 (w23s.k fk_zMc_255))) (show (zI w13M 241 2).toInt = ((w13n : Nat) : Int) by omega) (zk2 (w23s.k fk_zMc_255) (by omega)) (w23s.a (fpT257 w13n w28)) ?_
                refine zs_astore (pc := 78) t106_78 (ls' := [(5, .ref (257 + 3 * w13n)), (4, .int w23v), (0, .ref 241), (1, .ref 7), (2, .int a), (3, .int b)]) (zml mf106 (by decide)) rfl ?_
                refine zs_aload (pc := 80) t106_80 rfl ?_
                refine zs_aload_n (pc := 82) t106_82 rfl ?_
                refine zs_get (pc := 83) t106_83 (by decide) (zk1 (w23s.k fk_zMc_241)) (w23s.p rfl fv_zMc_241_0) ?_
                refine zs_iload (pc := 86) t106_86 rfl ?_
                obtain ⟨hs0, hs1, hs2, hs3, hs4⟩ := w23x0.resolve_left (fun q => by have z := q.1; omega)
                have hz : -F 5 ≤ (zI w23M 243 hs0).toInt ∧ (zI w23M 243 hs0).toInt ≤ F 5 ∧ -F 6 ≤ (zI w23M 244 hs0).toInt ∧ (zI w23M 244 hs0).toInt ≤ F 6 := hs4.1
                refine zs_invV (pc := 88) (k := 242) (as' := [.int w23v]) (st := [.ref (257 + 3 * w13n)]) t106_88 mf115 rfl rfl (Or.inl ⟨by decide, (zk1 (w23s.k fk_zMc_242))⟩) ⟨by decide, by decide, Nat.le_of_ble_eq_true rfl, Nat.le_of_ble_eq_true rfl⟩ (V115_242 w23s w23I ?_) (fun _ _ q => q)
                intro w29v w29x0
                have w29g := zrg w29v
                have w29y : w29v.toInt = (zI w23M 243 hs0).toInt := w29x0 hs0 (by omega) (by omega)
                have w29z : -3 ≤ w29v.toInt ∧ w29v.toInt ≤ 3 := by omega
                show zGo X l 4 0 0 106 91 [(5, .ref (257 + 3 * w13n)), (4, .int w23v), (0, .ref 241), (1, .ref 7), (2, .int a), (3, .int b)] [.int w29v, .ref (257 + 3 * w13n)] w23M _
                refine zs_aload_n (pc := 91) t106_91 rfl ?_
                refine zs_get (pc := 92) t106_92 (by decide) (zk1 (w23s.k fk_zMc_241)) (w23s.p rfl fv_zMc_241_0) ?_
                refine zs_iload (pc := 95) t106_95 rfl ?_
                refine zs_invV (pc := 97) (k := 242) (as' := [.int w23v]) (st := [.int w29v, .ref (257 + 3 * w13n)]) t106_97 mf116 rfl rfl (Or.inl ⟨by decide, (zk1 (w23s.k fk_zMc_242))⟩) ⟨by decide, by decide, Nat.le_of_ble_eq_true rfl, Nat.le_of_ble_eq_true rfl⟩ (V116_242 w23s w23I ?_) (fun _ _ q => q)
                intro w30v w30x0
                have w30g := zrg w30v
                have w30y : w30v.toInt = (zI w23M 244 hs0).toInt := w30x0 hs0 (by omega) (by omega)
                have w30z : -20 ≤ w30v.toInt ∧ w30v.toInt ≤ 20 := by omega
                show zGo X l 4 0 0 106 100 [(5, .ref (257 + 3 * w13n)), (4, .int w23v), (0, .ref 241), (1, .ref 7), (2, .int a), (3, .int b)] [.int w30v, .int w29v, .ref (257 + 3 * w13n)] w23M _
                refine zs_aload_n (pc := 100) t106_100 rfl ?_
                have w31 := zrg (zI w23M 241 5)
                refine zs_get (pc := 101) t106_101 (by decide) (zk1 (w23s.k fk_zMc_241)) (zfvi rfl rfl) ?_
                refine zs_aload_n (pc := 104) t106_104 rfl ?_
                have w32 := zrg (zI w23M 241 4)
                refine zs_get (pc := 105) t106_105 (by decide) (zk1 (w23s.k fk_zMc_241)) (zfvi rfl rfl) ?_
                refine zs_invV (pc := 108) (k := (257 + 3 * w13n)) (as' := [.int w29v, .int w30v, .int (zI w23M 241 5), .int (zI w23M 241 4)]) (st := []) t106_108 mf120 rfl rfl (Or.inl ⟨by decide, (zk1 (w23s.k (fT257_0 w13n w28)))⟩) ⟨by decide, by decide, Nat.le_of_ble_eq_true rfl, Nat.le_of_ble_eq_true rfl⟩ (V120_257 (hi0 := w28) w23s w23I ⟨by omega, by omega⟩ ⟨by omega, by omega⟩ ?_) (fun _ _ q => q)
                intro w33M w33s w33I w33F w33x0 w33x1 w33x2
                obtain ⟨w33a, w33b, w33c, w33d⟩ := w33x0
                have hbe : zBe F (w13Λ w13n) ((zI w33M (257 + 3 * w13n) 0).toInt, (zI w33M (257 + 3 * w13n) 1).toInt, (zI w33M (257 + 3 * w13n) 2).toInt) (zI w23M 241 4).toInt := zBe.cs hs4 (by omega) (by omega) (by omega) rfl
                show zGo X l 4 0 0 106 111 [(5, .ref (257 + 3 * w13n)), (4, .int w23v), (0, .ref 241), (1, .ref 7), (2, .int a), (3, .int b)] [] w33M _
                refine zs_aload_n (pc := 111) t106_111 rfl ?_
                refine zs_get (pc := 112) t106_112 (by decide) (zk1 (w33s.k fk_zMc_241)) (w33s.p rfl fv_zMc_241_0) ?_
                refine zs_aload (pc := 115) t106_115 rfl ?_
                refine zs_invV (pc := 117) (k := 242) (as' := [.ref (257 + 3 * w13n)]) (st := []) t106_117 mf121 rfl rfl (Or.inl ⟨by decide, (zk1 (w33s.k fk_zMc_242))⟩) ⟨by decide, by decide, Nat.le_of_ble_eq_true rfl, Nat.le_of_ble_eq_true rfl⟩ (V121_257 (hi0 := w28) w33s w33I x1 (zPn.fr w139 ((w33F 242 5 rfl).trans (w23F 242 5 rfl)) (fun j => ((w33F 245 j rfl).trans (w23F 245 j rfl))) (fun j => ((w33F 246 j rfl).trans (w23F 246 j rfl)))) (zVt.fr w136 ((w33F 242 6 rfl).trans (w23F 242 6 rfl)) (fun j => ((w33F 247 j rfl).trans (w23F 247 j rfl))) (fun j => ((w33F 248 j rfl).trans (w23F 248 j rfl))) (fun j => ((w33F 249 j rfl).trans (w23F 249 j rfl)))) hbe w33x1 ?_) (fun _ _ q => q)
                intro w34M w34s w34I w34F w34x0
                show zGo X l 4 0 0 106 120 [(5, .ref (257 + 3 * w13n)), (4, .int w23v), (0, .ref 241), (1, .ref 7), (2, .int a), (3, .int b)] [] w34M _
                refine zs_aload_n (pc := 120) t106_120 rfl ?_
                refine zs_get (pc := 121) t106_121 (by decide) (zk1 (w34s.k fk_zMc_241)) (w34s.p rfl fv_zMc_241_0) ?_
                refine zs_aload (pc := 124) t106_124 rfl ?_
                refine zs_invV (pc := 126) (k := 242) (as' := [.ref (257 + 3 * w13n)]) (st := []) t106_126 mf123 rfl rfl (Or.inl ⟨by decide, (zk1 (w34s.k fk_zMc_242))⟩) ⟨by decide, by decide, Nat.le_of_ble_eq_true rfl, Nat.le_of_ble_eq_true rfl⟩ (V123_257 (hi0 := w28) w34s w34I x1 (zVt.fr w136 ((w34F 242 6 rfl).trans ((w33F 242 6 rfl).trans (w23F 242 6 rfl))) (fun j => ((w34F 247 j rfl).trans ((w33F 247 j rfl).trans (w23F 247 j rfl)))) (fun j => ((w34F 248 j rfl).trans ((w33F 248 j rfl).trans (w23F 248 j rfl)))) (fun j => ((w34F 249 j rfl).trans ((w33F 249 j rfl).trans (w23F 249 j rfl))))) ?_) (fun _ _ q => q)
                intro w35M w35s w35I w35F w35x0
                obtain ⟨w35m, w35ψ, w35z⟩ := w35x0
                show zGo X l 4 0 0 106 129 [(5, .ref (257 + 3 * w13n)), (4, .int w23v), (0, .ref 241), (1, .ref 7), (2, .int a), (3, .int b)] [] w35M _
                refine zs_aload_n (pc := 129) t106_129 rfl ?_
                refine zs_dup (pc := 130) t106_130 rfl ?_
                refine zs_get (pc := 131) t106_131 (by decide) (zk1 (w35s.k fk_zMc_241)) (zfvi rfl ((w35F 241 2 rfl).trans ((w34F 241 2 rfl).trans ((w33F 241 2 rfl).trans ((w23F 241 2 rfl).trans rfl))))) ?_
                refine zs_iconst (pc := 134) t106_134 (v := 1) (by decide) ?_
                obtain ⟨w36v, w36e, w36⟩ := ziadd (a := (zI w13M 241 2)) (b := (1 : Int32)) rfl li1 (by omega) (by omega)
                refine zs_iadd (pc := 135) t106_135 (c := w36v) w36e ?_
                have w37 : zIv cLo cHi (zsI w35M 241 2 w36v) := zIv.put w35I (show 0 ≤ w36v.toInt ∧ w36v.toInt ≤ 20 from ⟨by omega, by omega⟩)
                refine zs_putI (pc := 136) t106_136 (zk1 (w35s.k fk_zMc_241)) rfl ?_
                refine zs_goto (pc := 139) t106_139 ?_
                refine zGo.locals (ls' := [(0, .ref 241), (1, .ref 7), (2, .int a), (3, .int b)]) (by simp) ?_
                have w38 : (zI (zsI w35M 241 2 w36v) 241 2).toInt = ((zI w13M 241 2).toInt + 1) := (congrArg Int32.toInt zIs).trans w36
                have w39 : (zI (zsI w35M 241 2 w36v) 242 10).toInt = (zI w23M 242 10).toInt := (congrArg Int32.toInt ((zIo (by decide)).trans ((w35F 242 10 rfl).trans ((w34F 242 10 rfl).trans ((w33F 242 10 rfl).trans rfl))))).trans rfl
                have w40 : (zI (zsI w35M 241 2 w36v) 242 10).toInt = (zI w23M 242 10).toInt := (congrArg Int32.toInt ((zIo (by decide)).trans ((w35F 242 10 rfl).trans ((w34F 242 10 rfl).trans ((w33F 242 10 rfl).trans rfl))))).trans rfl
                have w41 : (zI (zsI w35M 241 2 w36v) 241 2).toInt = ((zI w13M 241 2).toInt + 1) := (congrArg Int32.toInt zIs).trans w36
                have w42 : (zI (zsI w35M 241 2 w36v) 241 2).toInt = ((zI w13M 241 2).toInt + 1) := (congrArg Int32.toInt zIs).trans w36
                exact w13ih (w13m - 1) (by omega) (zsI w35M 241 2 w36v) w35s w37 (((((((zFr.refl).trans (w13F.mono rfl)).trans (w23F.mono rfl)).trans (w33F.mono rfl)).trans (w34F.mono rfl)).trans (w35F.mono rfl)).put rfl) (by omega) (by omega) (w13c.more (hs := hsO w34M (257 + 3 * w13n)) (by omega) hbe (by omega) (fun l hl => by unfold hsO; rw [if_pos hl]; exact w34x0.2 l hl) (fun l hl => by unfold hsO; rw [if_neg (by omega)]) (by omega) (fun k j q1 q2 => (zIo (by omega)).trans ((w35F k j (zoC (by omega) (zoC (by omega) rfl))).trans ((w34x0.1 k j (by omega) (by omega)).trans ((w33x2 k j (by omega) (by omega)).trans (w23F k j (zoC (by omega) (zoC (by omega) (zoC (by omega) (zoC (by omega) (zoC (by omega) (zoC (by omega) (zoC (by omega) (zoC (by omega) (zoC (by omega) rfl)))))))))))))) ⟨((congrArg Int32.toInt (show zI (zsI w35M 241 2 w36v) (257 + 3 * w13n) 0 = zI w33M (257 + 3 * w13n) 0 from (zIo (by omega)).trans ((w35F (257 + 3 * w13n) 0 (zoC (by omega) (zoC (by omega) rfl))).trans (w34x0.1 _ 0 (by omega) (by omega)))))), ((congrArg Int32.toInt (show zI (zsI w35M 241 2 w36v) (257 + 3 * w13n) 1 = zI w33M (257 + 3 * w13n) 1 from (zIo (by omega)).trans ((w35F (257 + 3 * w13n) 1 (zoC (by omega) (zoC (by omega) rfl))).trans (w34x0.1 _ 1 (by omega) (by omega)))))), ((congrArg Int32.toInt (show zI (zsI w35M 241 2 w36v) (257 + 3 * w13n) 2 = zI w33M (257 + 3 * w13n) 2 from (zIo (by omega)).trans ((w35F (257 + 3 * w13n) 2 (zoC (by omega) (zoC (by omega) rfl))).trans (w34x0.1 _ 2 (by omega) (by omega)))))), ((congrArg Int32.toInt (show zI (zsI w35M 241 2 w36v) (257 + 3 * w13n) 3 = zI w33M (257 + 3 * w13n) 3 from (zIo (by omega)).trans ((w35F (257 + 3 * w13n) 3 (zoC (by omega) (zoC (by omega) rfl))).trans (w34x0.1 _ 3 (by omega) (by omega)))))).trans w33d, fun l hl => (congrArg Int32.toInt (show zI (zsI w35M 241 2 w36v) (257 + 3 * w13n + 1) l = zI w34M (257 + 3 * w13n + 1) l from (zIo (by omega)).trans (w35F (257 + 3 * w13n + 1) l (zoC (by omega) (zoC (by omega) rfl))))).trans (by show _ = hsO w34M (257 + 3 * w13n) l; unfold hsO; rw [if_pos hl])⟩ ⟨_, _, (zVt.fr w35z (zIo (by decide)) (fun j => (zIo (by decide))) (fun j => (zIo (by decide))) (fun j => (zIo (by decide))))⟩ (zBd.fr w23x1 (fun j => ((zIo (by decide)).trans ((w35F 243 j rfl).trans ((w34F 243 j rfl).trans (w33F 243 j rfl))))) (fun j => ((zIo (by decide)).trans ((w35F 244 j rfl).trans ((w34F 244 j rfl).trans (w33F 244 j rfl))))) (fun j => ((zIo (by decide)).trans ((w35F 256 j rfl).trans ((w34F 256 j rfl).trans (w33F 256 j rfl)))))) (zSl.fr w138 ((zIo (by decide)).trans ((w35F 242 0 rfl).trans ((w34F 242 0 rfl).trans ((w33F 242 0 rfl).trans (w23F 242 0 rfl))))) (fun j => ((zIo (by decide)).trans ((w35F 243 j rfl).trans ((w34F 243 j rfl).trans ((w33F 243 j rfl).trans (w23F 243 j rfl)))))) (fun j => ((zIo (by decide)).trans ((w35F 244 j rfl).trans ((w34F 244 j rfl).trans ((w33F 244 j rfl).trans (w23F 244 j rfl))))))) (zPn.fr w139 ((zIo (by decide)).trans ((w35F 242 5 rfl).trans ((w34F 242 5 rfl).trans ((w33F 242 5 rfl).trans (w23F 242 5 rfl))))) (fun j => ((zIo (by decide)).trans ((w35F 245 j rfl).trans ((w34F 245 j rfl).trans ((w33F 245 j rfl).trans (w23F 245 j rfl)))))) (fun j => ((zIo (by decide)).trans ((w35F 246 j rfl).trans ((w34F 246 j rfl).trans ((w33F 246 j rfl).trans (w23F 246 j rfl))))))) (zSp.fr w23x2 (fun j => ((zIo (by decide)).trans ((w35F 250 j rfl).trans ((w34F 250 j rfl).trans (w33F 250 j rfl))))) ((zIo (by decide)).trans ((w35F 242 10 rfl).trans ((w34F 242 10 rfl).trans (w33F 242 10 rfl)))))) (by omega)
              · refine zs_icmp_neF (pc := 63) t106_63 rfl lin1 (by omega) ?_
                refine zs_goto (pc := 66) t106_66 ?_
                have w43 : (zI w23M 242 10).toInt = (zI w23M 242 10).toInt := (congrArg Int32.toInt rfl).trans rfl
                exact zs_vret (pc := 142) t106_142 mr106 (hQ _ w23s w23I ((((((zFr.refl).trans (w7F.mono rfl)).trans (w8F.mono rfl)).put rfl).trans (w13F.mono rfl)).trans (w23F.mono rfl)) (by omega) (by omega) (w13c.none ((w23x0.resolve_right (fun q => by obtain ⟨s, q1, _⟩ := q; omega)).2) (w23F 241 2 rfl) (fun k j q1 q2 => (w23F k j (zoC (by omega) (zoC (by omega) (zoC (by omega) (zoC (by omega) (zoC (by omega) (zoC (by omega) (zoC (by omega) (zoC (by omega) (zoC (by omega) rfl))))))))))) (zVt.fr w136 (w23F 242 6 rfl) (fun j => (w23F 247 j rfl)) (fun j => (w23F 248 j rfl)) (fun j => (w23F 249 j rfl))) w23x1 (zSl.fr w138 (w23F 242 0 rfl) (fun j => (w23F 243 j rfl)) (fun j => (w23F 244 j rfl))) (zPn.fr w139 (w23F 242 5 rfl) (fun j => (w23F 245 j rfl)) (fun j => (w23F 246 j rfl))) w23x2))
        refine zGo.locals (ls' := [(0, .ref 241), (1, .ref 7), (2, .int a), (3, .int b)]) (by simp) ?_
        have w44 : (zI (zsI w8M 241 2 (0 : Int32)) 241 2).toInt = 0 := (congrArg Int32.toInt zIs).trans li0
        have w45 : (zI (zsI w8M 241 2 (0 : Int32)) 242 10).toInt = (zI M 242 10).toInt := (congrArg Int32.toInt ((zIo (by decide)).trans ((w8F 242 10 rfl).trans ((w7F 242 10 rfl).trans rfl)))).trans rfl
        have w46 : (zI (zsI w8M 241 2 (0 : Int32)) 242 10).toInt = (zI M 242 10).toInt := (congrArg Int32.toInt ((zIo (by decide)).trans ((w8F 242 10 rfl).trans ((w7F 242 10 rfl).trans rfl)))).trans rfl
        have w47 : (zI (zsI w8M 241 2 (0 : Int32)) 241 2).toInt = 0 := (congrArg Int32.toInt zIs).trans li0
        have w48 : (zI (zsI w8M 241 2 (0 : Int32)) 241 2).toInt = 0 := (congrArg Int32.toInt zIs).trans li0
        exact w13L ((20 - (zI (zsI w8M 241 2 (0 : Int32)) 241 2).toInt : Int).toNat) (zsI w8M 241 2 (0 : Int32)) w8s w12 zFr.refl (by omega) (by omega) (zFc.start (by omega) (zVt.fr w7v ((zIo (by decide)).trans (w8F 242 6 rfl)) (fun j => ((zIo (by decide)).trans (w8F 247 j rfl))) (fun j => ((zIo (by decide)).trans (w8F 248 j rfl))) (fun j => ((zIo (by decide)).trans (w8F 249 j rfl)))) (zBd.full (fun s hs => (congrArg Int32.toInt (show zI (zsI w8M 241 2 (0 : Int32)) 256 s = zI w8M 256 s from (zIo (by decide)))).trans (w8t0 w9n s (by omega) (by omega)))) (zSl.fr w7S ((zIo (by decide)).trans (w8F 242 0 rfl)) (fun j => ((zIo (by decide)).trans (w8F 243 j rfl))) (fun j => ((zIo (by decide)).trans (w8F 244 j rfl)))) (zPn.fr w7p ((zIo (by decide)).trans (w8F 242 5 rfl)) (fun j => ((zIo (by decide)).trans (w8F 245 j rfl))) (fun j => ((zIo (by decide)).trans (w8F 246 j rfl)))) (zSp.fr x2 (fun j => ((zIo (by decide)).trans ((w8F 250 j rfl).trans (w7F 250 j rfl)))) ((zIo (by decide)).trans ((w8F 242 10 rfl).trans (w7F 242 10 rfl))))) (by omega)
      · refine zs_icmp_geF (pc := 21) t106_21 rfl rfl (by omega) ?_
        refine zs_aload_n (pc := 24) t106_24 rfl ?_
        refine zs_get (pc := 25) t106_25 (by decide) (zk1 (w8s.k fk_zMc_241)) (w8s.p rfl fv_zMc_241_3) ?_
        refine zs_iload (pc := 28) t106_28 rfl ?_
        refine zs_bipush (pc := 30) t106_30 (v := 8) (by decide) ?_
        have w49 : zIv cLo cHi (zsI w8M 256 w9n (8 : Int32)) := zIv.put w8I (show (-2147483648) ≤ (8 : Int32).toInt ∧ (8 : Int32).toInt ≤ 2147483647 from zrg (8 : Int32))
        refine zs_iast (pc := 32) t106_32 (j := w9n) (by decide) (zk1 (w8s.k fk_zMc_256)) (show w8x4.toInt = ((w9n : Nat) : Int) by omega) (zk2 (w8s.k fk_zMc_256) (by omega)) ?_
        obtain ⟨w50v, w50e, w50⟩ := ziadd (a := w8x4) (b := Int32.ofInt 1) rfl (show (Int32.ofInt 1).toInt = 1 by decide) (by omega) (by omega)
        refine zs_iinc (pc := 33) t106_33 (ls' := [(4, .int w50v), (0, .ref 241), (1, .ref 7), (2, .int a), (3, .int b)]) (zml mf106 (by decide)) rfl (c := w50v) w50e rfl ?_
        refine zs_goto (pc := 36) t106_36 ?_
        refine zGo.locals (ls' := [(0, .ref 241), (1, .ref 7), (2, .int a), (3, .int b), (4, .int w50v)]) (by simp) ?_
        have w51 := w50
        exact w8ih (w8m - 1) (by omega) w50v (zsI w8M 256 w9n (8 : Int32)) ⟨by omega, by omega⟩ w8s w49 (((zFr.refl).trans (w8F.mono rfl)).put rfl) (fun i s q1 q2 => Classical.byCases (fun q : s = w9n => by rw [q]; exact (congrArg Int32.toInt zIs).trans (by decide)) (fun q => (congrArg Int32.toInt (zIoj q)).trans (w8t0 w9n s (by omega) (by omega)))) (by omega)
  refine zGo.locals (ls' := [(0, .ref 241), (1, .ref 7), (2, .int a), (3, .int b), (4, .int (0 : Int32))]) (by simp) ?_
  have w52 := li0
  exact w8L ((287 - 0 : Int).toNat) (0 : Int32) w7M ⟨by decide, by decide⟩ w7s w7I zFr.refl (fun i s q1 q2 => absurd q2 (by omega)) (by omega)
