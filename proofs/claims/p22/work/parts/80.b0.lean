theorem R343 {X : zX} {l : Launch} {M : zM} {Q : Option Value → zM → Prop} (hs : zSk zMm M) (hI : zIv mLo mHi M) {gg : Nat → Int} {nn : Int} (u0 : (zI M 336 7).toInt = -1) (u1 : (zI M 336 6).toInt < (zI M 336 5).toInt) (u2 : 0 ≤ (zI M 336 6).toInt) (u3 : (zI M 336 47).toInt ≤ 20) (x0 : zTm M gg nn) (hQ : ∀ (M' : zM) (v : Int32), zSk zMm M' → zIv mLo mHi M' → zFr [(336, 336, some 6), (336, 336, some 7), (336, 336, some 8), (362, 362, none), (336, 336, some 47)] M M' → zJ M' 351 = zJ M 351 → ((∀ p k : Nat, (zI M 336 6).toInt = (p : Int) → (zI M 336 47).toInt = (k : Int) → (v.toInt = 1 ∧ k ≠ 20 ∧ ∃ (q : Nat) (A : aT), pAc gg p = some (q, A) ∧ (zI M' 336 6).toInt = (q : Int) ∧ p < q ∧ (q : Int) ≤ nn ∧ (zI M' 336 7).toInt = -1 ∧ (zI M' 336 47).toInt = (k : Int) + 1 ∧ zBt M' 362 k A) ∨ (v.toInt = 0 ∧ (zI M' 336 7).toInt ≠ -1 ∧ (k = 20 ∨ pAc gg p = none))) ∧ (∀ j : Nat, (j : Int) < 4 * (zI M 336 47).toInt → zI M' 362 j = zI M 362 j)) → 0 ≤ v.toInt → v.toInt ≤ 1 → Q (some (.int v)) M') : zCall X l 3 0 0 343 [.ref 336] M Q := by
  refine zs_in (by decide) mf343 (Nat.le_of_ble_eq_true rfl) ?_
  show zGo X l 3 0 0 343 0 [(0, .ref 336)] [] M _
  have hn := x0.2
  have w1 := ib336_5 hI
  have w2 : (zI M 336 5).toInt = (zI M 336 5).toInt := (congrArg Int32.toInt rfl).trans rfl
  have w3 := ib336_6 hI
  have w4 : (zI M 336 6).toInt = (zI M 336 6).toInt := (congrArg Int32.toInt rfl).trans rfl
  have w5 := ib336_7 hI
  have w6 : (zI M 336 7).toInt = (zI M 336 7).toInt := (congrArg Int32.toInt rfl).trans rfl
  obtain ⟨w7n, w7⟩ : ∃ n : Nat, (zI M 336 6).toInt = (n : Int) := ⟨((zI M 336 6).toInt).toNat, by omega⟩
  have w8 := ib336_47 hI
  have w9 : (zI M 336 47).toInt = (zI M 336 47).toInt := (congrArg Int32.toInt rfl).trans rfl
  obtain ⟨w10n, w10⟩ : ∃ n : Nat, (zI M 336 47).toInt = (n : Int) := ⟨((zI M 336 47).toInt).toNat, by omega⟩
  refine zs_aload_n (pc := 0) t343_0 rfl ?_
  refine zs_invV (pc := 1) (k := 336) (as' := []) (st := []) t343_1 mf238 rfl rfl (Or.inl ⟨by decide, (zk1 (hs.k fk_zMm_336))⟩) ⟨by decide, by decide, Nat.le_of_ble_eq_true rfl, Nat.le_of_ble_eq_true rfl⟩ (H238 hs hI ?_) (fun _ _ q => q)
  have w11 := zhere.rg (M := M)
  have w12 : (zI M 336 6).toInt = (zI M 336 6).toInt := (congrArg Int32.toInt rfl).trans rfl
  have w13 : (zI M 336 5).toInt = (zI M 336 5).toInt := (congrArg Int32.toInt rfl).trans rfl
  have w14 : (zI M 336 6).toInt = (zI M 336 6).toInt := (congrArg Int32.toInt rfl).trans rfl
  have w15 : (zI M 336 5).toInt = (zI M 336 5).toInt := (congrArg Int32.toInt rfl).trans rfl
  have w16 : (zhere M).toInt = gg w7n := zhere.tr x0 (by omega)
  have w17 := zTm.rg x0 w7n
  show zGo X l 3 0 0 343 4 [(0, .ref 336)] [.int (zhere M)] M _
  refine zs_istore_n (pc := 4) t343_4 (ls' := [(1, .int (zhere M)), (0, .ref 336)]) (zml mf343 (by decide)) rfl ?_
  refine zs_iload_n (pc := 5) t343_5 rfl ?_
  refine zs_bipush (pc := 6) t343_6 (v := 104) (by decide) ?_
  by_cases w18 : (zhere M).toInt ≠ 104
  · refine zs_icmp_neT (pc := 8) t343_8 rfl li104 (by omega) ?_
    refine zs_iload_n (pc := 15) t343_15 rfl ?_
    refine zs_bipush (pc := 16) t343_16 (v := 120) (by decide) ?_
    by_cases w19 : (zhere M).toInt = 120
    · refine zs_icmp_eqT (pc := 18) t343_18 rfl li120 (by omega) ?_
      refine zs_iconst (pc := 33) t343_33 (v := 1) (by decide) ?_
      refine zs_goto (pc := 34) t343_34 ?_
      refine zs_istore_n (pc := 38) t343_38 (ls' := [(2, .int (1 : Int32)), (1, .int (zhere M)), (0, .ref 336)]) (zml mf343 (by decide)) rfl ?_
      refine zs_iload_n (pc := 39) t343_39 rfl ?_
      refine zs_if_eqF (pc := 40) t343_40 li1 (by decide) ?_
      refine zs_aload_n (pc := 43) t343_43 rfl ?_
      refine zs_get (pc := 44) t343_44 (by decide) (zk1 (hs.k fk_zMm_336)) (zfvi rfl rfl) ?_
      refine zs_bipush (pc := 47) t343_47 (v := 20) (by decide) ?_
      by_cases w20 : (zI M 336 47).toInt ≠ 20
      · refine zs_icmp_neT (pc := 49) t343_49 rfl li20 (by omega) ?_
        refine zs_iconst (pc := 61) t343_61 (v := 4) (by decide) ?_
        refine zs_aload_n (pc := 62) t343_62 rfl ?_
        refine zs_get (pc := 63) t343_63 (by decide) (zk1 (hs.k fk_zMm_336)) (zfvi rfl rfl) ?_
        obtain ⟨w21v, w21⟩ : ∃ v, (4 : Int32) * (zI M 336 47) = v := ⟨_, rfl⟩
        have w21g : w21v.toInt = 4 * (zI M 336 47).toInt := by rw [← w21]; exact zmulc li4 rfl (by omega) (by omega)
        refine zs_imul (pc := 66) t343_66 (c := w21v) w21 ?_
        refine zs_istore_n (pc := 67) t343_67 (ls' := [(3, .int w21v), (2, .int (1 : Int32)), (1, .int (zhere M)), (0, .ref 336)]) (zml mf343 (by decide)) rfl ?_
        refine zs_aload_n (pc := 68) t343_68 rfl ?_
        refine zs_get (pc := 69) t343_69 (by decide) (zk1 (hs.k fk_zMm_336)) (hs.p rfl fv_zMm_336_46) ?_
        refine zs_iload_n (pc := 72) t343_72 rfl ?_
        refine zs_iload_n (pc := 73) t343_73 rfl ?_
        have w22 : zIv mLo mHi (zsI M 362 (4 * w10n) (zhere M)) := zIv.put hI (show (-2147483648) ≤ (zhere M).toInt ∧ (zhere M).toInt ≤ 2147483647 from zrg (zhere M))
        refine zs_iast (pc := 74) t343_74 (j := (4 * w10n)) (by decide) (zk1 (hs.k fk_zMm_362)) (show w21v.toInt = (((4 * w10n) : Nat) : Int) by omega) (zk2 (hs.k fk_zMm_362) (by omega)) ?_
        refine zs_aload_n (pc := 75) t343_75 rfl ?_
        refine zs_dup (pc := 76) t343_76 rfl ?_
        refine zs_get (pc := 77) t343_77 (by decide) (zk1 (hs.k fk_zMm_336)) (zfvi rfl ((zIo (by decide)).trans rfl)) ?_
        refine zs_iconst (pc := 80) t343_80 (v := 1) (by decide) ?_
        obtain ⟨w23v, w23e, w23⟩ := ziadd (a := (zI M 336 6)) (b := (1 : Int32)) rfl li1 (by omega) (by omega)
        refine zs_iadd (pc := 81) t343_81 (c := w23v) w23e ?_
        have w24 : zIv mLo mHi (zsI (zsI M 362 (4 * w10n) (zhere M)) 336 6 w23v) := zIv.put w22 (show 0 ≤ w23v.toInt ∧ w23v.toInt ≤ 500 from ⟨by omega, by omega⟩)
        refine zs_putI (pc := 82) t343_82 (zk1 (hs.k fk_zMm_336)) rfl ?_
        refine zs_iconst (pc := 85) t343_85 (v := 1) (by decide) ?_
        refine zs_istore (pc := 86) t343_86 (ls' := [(4, .int (1 : Int32)), (3, .int w21v), (2, .int (1 : Int32)), (1, .int (zhere M)), (0, .ref 336)]) (zml mf343 (by decide)) rfl ?_
        refine zs_iload (pc := 88) t343_88 rfl ?_
        refine zs_iload_n (pc := 90) t343_90 rfl ?_
        refine zs_icmp_gtF (pc := 91) t343_91 li1 li1 (by decide) ?_
        refine zs_aload_n (pc := 94) t343_94 rfl ?_
        refine zs_sipush (pc := 95) t343_95 (v := -9999) (by decide) ?_
        refine zs_sipush (pc := 98) t343_98 (v := 9999) (by decide) ?_
        have w25 : (zI (zsI (zsI M 362 (4 * w10n) (zhere M)) 336 6 w23v) 336 6).toInt = ((zI M 336 6).toInt + 1) := (congrArg Int32.toInt zIs).trans w23
        have w26 : (-9999 : Int32).toInt = (-9999) := lin9999
        have w27 : (9999 : Int32).toInt = 9999 := li9999
        have w28 : (zI (zsI (zsI M 362 (4 * w10n) (zhere M)) 336 6 w23v) 336 6).toInt = ((zI M 336 6).toInt + 1) := (congrArg Int32.toInt zIs).trans w23
        have w29 : (zI (zsI (zsI M 362 (4 * w10n) (zhere M)) 336 6 w23v) 336 5).toInt = (zI M 336 5).toInt := (congrArg Int32.toInt ((zIoj (by decide)).trans ((zIo (by decide)).trans rfl))).trans rfl
        have w30 : (zI (zsI (zsI M 362 (4 * w10n) (zhere M)) 336 6 w23v) 336 7).toInt = (zI M 336 7).toInt := (congrArg Int32.toInt ((zIoj (by decide)).trans ((zIo (by decide)).trans rfl))).trans rfl
        have w31 : (zI (zsI (zsI M 362 (4 * w10n) (zhere M)) 336 6 w23v) 336 6).toInt = ((zI M 336 6).toInt + 1) := (congrArg Int32.toInt zIs).trans w23
        refine zs_invV (pc := 101) (k := 336) (as' := [.int (-9999 : Int32), .int (9999 : Int32)]) (st := []) t343_101 mf243 rfl rfl (Or.inl ⟨by decide, (zk1 (hs.k fk_zMm_336))⟩) ⟨by decide, by decide, Nat.le_of_ble_eq_true rfl, Nat.le_of_ble_eq_true rfl⟩ (R243 hs w24 (by omega) (by omega) (by omega) (zTm.mk x0 (fun j => ((zIo (by decide)).trans (zIo (by decide)))) ((zIoj (by decide)).trans (zIo (by decide)))) ?_) (fun _ _ q => q)
        intro w32M w32v w32s w32I w32F w32J w32t0 w32x0 w32a w32b
        have w33 := ib336_6 w32I
        show zGo X l 3 0 0 343 104 [(4, .int (1 : Int32)), (3, .int w21v), (2, .int (1 : Int32)), (1, .int (zhere M)), (0, .ref 336)] [.int w32v] w32M _
        rcases w32x0 (w7n + 1) (by omega) with ⟨w34v, w34e, w34x, w34_1, w34_2, w34_3, w34_4, w34_5, w34_6, w34_7, w34_8, w34_9, w34_10⟩ | ⟨w34v, w34_8, w34z⟩
        · skip
          have w34y := x0.rg w34e
          refine zs_if_eqF (pc := 104) t343_104 rfl (by omega) ?_
          refine zs_aload_n (pc := 107) t343_107 rfl ?_
          refine zs_iload (pc := 108) t343_108 rfl ?_
          refine zs_iload_n (pc := 110) t343_110 rfl ?_
          refine zs_icmp_neF (pc := 111) t343_111 li1 li1 (by decide) ?_
          refine zs_bipush (pc := 114) t343_114 (v := 59) (by decide) ?_
          refine zs_goto (pc := 116) t343_116 ?_
          have w35 : (zI w32M 336 6).toInt = (zI w32M 336 6).toInt := (congrArg Int32.toInt rfl).trans rfl
          have w36 : (59 : Int32).toInt = 59 := li59
          have w37 : (zI w32M 336 6).toInt = (zI w32M 336 6).toInt := (congrArg Int32.toInt rfl).trans rfl
          have w38 : (zI w32M 336 5).toInt = (zI M 336 5).toInt := (congrArg Int32.toInt ((w32F 336 5 rfl).trans ((zIoj (by decide)).trans ((zIo (by decide)).trans rfl)))).trans rfl
          have w39 := ib336_7 w32I
          have w40 : (zI w32M 336 7).toInt = (zI w32M 336 7).toInt := (congrArg Int32.toInt rfl).trans rfl
          have w41 : (zI w32M 336 6).toInt = (zI w32M 336 6).toInt := (congrArg Int32.toInt rfl).trans rfl
          have w42 : (zI w32M 336 7).toInt = (zI w32M 336 7).toInt := (congrArg Int32.toInt rfl).trans rfl
          refine zs_invV (pc := 121) (k := 336) (as' := [.int (59 : Int32)]) (st := []) t343_121 mf246 rfl rfl (Or.inl ⟨by decide, (zk1 (w32s.k fk_zMm_336))⟩) ⟨by decide, by decide, Nat.le_of_ble_eq_true rfl, Nat.le_of_ble_eq_true rfl⟩ (R246 w32s w32I ⟨by decide, by decide⟩ (by omega) (by omega) (by omega) (zTm.mk x0 (fun j => ((w32F 339 j rfl).trans ((zIo (by decide)).trans (zIo (by decide))))) ((w32F 336 5 rfl).trans ((zIoj (by decide)).trans (zIo (by decide))))) ?_) (fun _ _ q => q)
          intro w43M w43v w43s w43I w43F w43J w43t0 w43t1 w43x0 w43a w43b
          have w44 := ib336_6 w43I
          have w45 := ib336_7 w43I
          show zGo X l 3 0 0 343 124 [(4, .int (1 : Int32)), (3, .int w21v), (2, .int (1 : Int32)), (1, .int (zhere M)), (0, .ref 336)] [.int w43v] w43M _
          rw [show (59 : Int32).toInt = 59 by decide] at w43x0
          rcases w43x0 w34e (by omega) with ⟨w46v, w46_1, w46_2, w46_3, w46_4⟩ | ⟨w46v, w46_1, w46_4⟩
          · skip
            refine zs_if_neT (pc := 124) t343_124 rfl (by omega) ?_
            refine zs_aload_n (pc := 129) t343_129 rfl ?_
            refine zs_get (pc := 130) t343_130 (by decide) (zk1 (w43s.k fk_zMm_336)) (w43s.p rfl fv_zMm_336_46) ?_
            refine zs_iload_n (pc := 133) t343_133 rfl ?_
            refine zs_iload (pc := 134) t343_134 rfl ?_
            obtain ⟨w47v, w47e, w47⟩ := ziadd (a := w21v) (b := (1 : Int32)) w21g li1 (by omega) (by omega)
            refine zs_iadd (pc := 136) t343_136 (c := w47v) w47e ?_
            refine zs_aload_n (pc := 137) t343_137 rfl ?_
            have w48 := zrg (zI w32M 336 8)
            refine zs_get (pc := 138) t343_138 (by decide) (zk1 (w43s.k fk_zMm_336)) (zfvi rfl ((w43F 336 8 rfl).trans rfl)) ?_
            have w49 : zIv mLo mHi (zsI w43M 362 (1 + 4 * w10n) (zI w32M 336 8)) := zIv.put w43I (show (-2147483648) ≤ (zI w32M 336 8).toInt ∧ (zI w32M 336 8).toInt ≤ 2147483647 from zrg (zI w32M 336 8))
            refine zs_iast (pc := 141) t343_141 (j := (1 + 4 * w10n)) (by decide) (zk1 (w43s.k fk_zMm_362)) (show w47v.toInt = (((1 + 4 * w10n) : Nat) : Int) by omega) (zk2 (w43s.k fk_zMm_362) (by omega)) ?_
            refine zs_iinc (pc := 142) t343_142 (ls' := [(4, .int (2 : Int32)), (3, .int w21v), (2, .int (1 : Int32)), (1, .int (zhere M)), (0, .ref 336)]) (zml mf343 (by decide)) rfl (c := 2) (by decide) rfl ?_
            refine zs_goto (pc := 145) t343_145 ?_
            refine zs_iload (pc := 88) t343_88 rfl ?_
            refine zs_iload_n (pc := 90) t343_90 rfl ?_
            refine zs_icmp_gtT (pc := 91) t343_91 li2 li1 (by decide) ?_
            refine zs_aload_n (pc := 148) t343_148 rfl ?_
            refine zs_dup (pc := 149) t343_149 rfl ?_
            refine zs_get (pc := 150) t343_150 (by decide) (zk1 (w43s.k fk_zMm_336)) (zfvi rfl ((zIo (by decide)).trans ((w43F 336 47 rfl).trans ((w32F 336 47 rfl).trans ((zIoj (by decide)).trans ((zIo (by decide)).trans rfl)))))) ?_
            refine zs_iconst (pc := 153) t343_153 (v := 1) (by decide) ?_
            obtain ⟨w50v, w50e, w50⟩ := ziadd (a := (zI M 336 47)) (b := (1 : Int32)) rfl li1 (by omega) (by omega)
            refine zs_iadd (pc := 154) t343_154 (c := w50v) w50e ?_
            have w51 : zIv mLo mHi (zsI (zsI w43M 362 (1 + 4 * w10n) (zI w32M 336 8)) 336 47 w50v) := zIv.put w49 (show 0 ≤ w50v.toInt ∧ w50v.toInt ≤ 20 from ⟨by omega, by omega⟩)
            refine zs_putI (pc := 155) t343_155 (zk1 (w43s.k fk_zMm_336)) rfl ?_
            refine zs_iconst (pc := 158) t343_158 (v := 1) (by decide) ?_
            have w52 : (1 : Int32).toInt = 1 := li1
            have w53 : (zI (zsI (zsI w43M 362 (1 + 4 * w10n) (zI w32M 336 8)) 336 47 w50v) 336 6).toInt = (zI w43M 336 6).toInt := (congrArg Int32.toInt ((zIoj (by decide)).trans ((zIo (by decide)).trans rfl))).trans rfl
            have w54 : (zI (zsI (zsI w43M 362 (1 + 4 * w10n) (zI w32M 336 8)) 336 47 w50v) 336 7).toInt = (zI w43M 336 7).toInt := (congrArg Int32.toInt ((zIoj (by decide)).trans ((zIo (by decide)).trans rfl))).trans rfl
            have w55 : (zI (zsI (zsI w43M 362 (1 + 4 * w10n) (zI w32M 336 8)) 336 47 w50v) 336 47).toInt = ((zI M 336 47).toInt + 1) := (congrArg Int32.toInt zIs).trans w50
            exact zs_iret (pc := 159) t343_159 mr343 (by decide) (hQ _ _ w43s w51 (((((((zFr.refl).put rfl).put rfl).trans (w32F.mono rfl)).trans (w43F.mono rfl)).put rfl).put rfl) (w43J.trans w32J) ⟨(fun p k hp hk => by obtain rfl : w7n = p := (by omega); obtain rfl : w10n = k := (by omega); exact Or.inl ⟨by decide, by omega, w34e + 1, _, ((pAc.o (L := 120) (by omega) (by decide)).trans (pB.y (pRd.y w34_1 (by omega) (by omega) (by omega)))), by omega, by omega, by omega, by omega, by omega, ⟨(by rw [show 4 * w10n = (4 * w10n) by omega]; have z : (zI (zsI (zsI w43M 362 (1 + 4 * w10n) (zI w32M 336 8)) 336 47 w50v) 362 (4 * w10n)).toInt = (zhere M).toInt := ((congrArg Int32.toInt ((zIo (by decide)).trans ((zIoj (by omega)).trans ((w43F 362 (4 * w10n) rfl).trans ((w32F 362 (4 * w10n) rfl).trans ((zIo (by decide)).trans zIs)))))).trans rfl); show (zI (zsI (zsI w43M 362 (1 + 4 * w10n) (zI w32M 336 8)) 336 47 w50v) 362 (4 * w10n)).toInt = 120; omega), (by rw [show 4 * w10n + 1 = (1 + 4 * w10n) by omega]; have z : (zI (zsI (zsI w43M 362 (1 + 4 * w10n) (zI w32M 336 8)) 336 47 w50v) 362 (1 + 4 * w10n)).toInt = (zI w32M 336 8).toInt := ((congrArg Int32.toInt ((zIo (by decide)).trans zIs)).trans rfl); show (zI (zsI (zsI w43M 362 (1 + 4 * w10n) (zI w32M 336 8)) 336 47 w50v) 362 (1 + 4 * w10n)).toInt = w34x; omega), (fun z => absurd (show (120 : Int) = 104 from z) (by decide)), (show (120 : Int) = 104 ∨ (120 : Int) = 120 ∨ (120 : Int) = 100 ∨ (120 : Int) = 110 by decide)⟩⟩), (fun j hj => ((zIo (by decide)).trans ((zIoj (by omega)).trans ((w43F 362 j rfl).trans ((w32F 362 j rfl).trans ((zIo (by decide)).trans (zIoj (by omega))))))))⟩ (by decide) (by decide))
          · skip
            refine zs_if_neF (pc := 124) t343_124 rfl (by omega) ?_
            refine zs_iconst (pc := 127) t343_127 (v := 0) (by decide) ?_
            have w56 : (0 : Int32).toInt = 0 := li0
            have w57 : (zI w43M 336 6).toInt = (zI w43M 336 6).toInt := (congrArg Int32.toInt rfl).trans rfl
            have w58 : (zI w43M 336 7).toInt = (zI w43M 336 7).toInt := (congrArg Int32.toInt rfl).trans rfl
            have w59 : (zI w43M 336 47).toInt = (zI M 336 47).toInt := (congrArg Int32.toInt ((w43F 336 47 rfl).trans ((w32F 336 47 rfl).trans ((zIoj (by decide)).trans ((zIo (by decide)).trans rfl))))).trans rfl
            exact zs_iret (pc := 128) t343_128 mr343 (by decide) (hQ _ _ w43s w43I (((((zFr.refl).put rfl).put rfl).trans (w32F.mono rfl)).trans (w43F.mono rfl)) (w43J.trans w32J) ⟨(fun p k hp hk => by obtain rfl : w7n = p := (by omega); obtain rfl : w10n = k := (by omega); exact Or.inr ⟨by decide, by omega, Or.inr ((pAc.o (L := 120) (by omega) (by decide)).trans (pB.f (pRd.n w34_1 (by omega))))⟩), (fun j hj => ((w43F 362 j rfl).trans ((w32F 362 j rfl).trans ((zIo (by decide)).trans (zIoj (by omega))))))⟩ (by decide) (by decide))
        · skip
          rw [show (-9999 : Int32).toInt = -9999 by decide, show (9999 : Int32).toInt = 9999 by decide] at w34z
          refine zs_if_eqT (pc := 104) t343_104 rfl (by omega) ?_
          refine zs_iconst (pc := 127) t343_127 (v := 0) (by decide) ?_
          have w60 : (0 : Int32).toInt = 0 := li0
          have w61 : (zI w32M 336 6).toInt = (zI w32M 336 6).toInt := (congrArg Int32.toInt rfl).trans rfl
          have w62 := ib336_7 w32I
          have w63 : (zI w32M 336 7).toInt = (zI w32M 336 7).toInt := (congrArg Int32.toInt rfl).trans rfl
          have w64 : (zI w32M 336 47).toInt = (zI M 336 47).toInt := (congrArg Int32.toInt ((w32F 336 47 rfl).trans ((zIoj (by decide)).trans ((zIo (by decide)).trans rfl)))).trans rfl
          exact zs_iret (pc := 128) t343_128 mr343 (by decide) (hQ _ _ w32s w32I ((((zFr.refl).put rfl).put rfl).trans (w32F.mono rfl)) w32J ⟨(fun p k hp hk => by obtain rfl : w7n = p := (by omega); obtain rfl : w10n = k := (by omega); exact Or.inr ⟨by decide, by omega, Or.inr ((pAc.o (L := 120) (by omega) (by decide)).trans (pB.f (by rcases w34z with q | ⟨e, x, q, q2⟩; exact pRd.f q; exact pRd.n q (by omega))))⟩), (fun j hj => ((w32F 362 j rfl).trans ((zIo (by decide)).trans (zIoj (by omega)))))⟩ (by decide) (by decide))
      · refine zs_icmp_neF (pc := 49) t343_49 rfl li20 (by omega) ?_
        refine zs_aload_n (pc := 52) t343_52 rfl ?_
        refine zs_aload_n (pc := 53) t343_53 rfl ?_
        refine zs_get (pc := 54) t343_54 (by decide) (zk1 (hs.k fk_zMm_336)) (zfvi rfl rfl) ?_
        refine zs_invV (pc := 57) (k := 336) (as' := [.int (zI M 336 6)]) (st := []) t343_57 mf239 rfl rfl (Or.inl ⟨by decide, (zk1 (hs.k fk_zMm_336))⟩) ⟨by decide, by decide, Nat.le_of_ble_eq_true rfl, Nat.le_of_ble_eq_true rfl⟩ (zs_in (by decide) mf239 (Nat.le_of_ble_eq_true rfl) ?_) (fun _ _ q => q)
        show zGo X l 0 0 0 239 0 [(0, .ref 336), (1, .int (zI M 336 6))] [] M _
        refine zs_aload_n (pc := 0) t239_0 rfl ?_
        refine zs_iload_n (pc := 1) t239_1 rfl ?_
        have w65 : zIv mLo mHi (zsI M 336 7 (zI M 336 6)) := zIv.put hI (show (-1) ≤ (zI M 336 6).toInt ∧ (zI M 336 6).toInt ≤ 500 from ⟨by omega, by omega⟩)
        refine zs_putI (pc := 2) t239_2 (zk1 (hs.k fk_zMm_336)) rfl ?_
        refine zs_iconst (pc := 5) t239_5 (v := 0) (by decide) ?_
        refine zs_iret (pc := 6) t239_6 mr239 (by decide) ?_
        show zGo X l 3 0 0 343 60 [(2, .int (1 : Int32)), (1, .int (zhere M)), (0, .ref 336)] [.int (0 : Int32)] (zsI M 336 7 (zI M 336 6)) _
        have w66 : (0 : Int32).toInt = 0 := li0
        have w67 : (zI (zsI M 336 7 (zI M 336 6)) 336 6).toInt = (zI M 336 6).toInt := (congrArg Int32.toInt ((zIoj (by decide)).trans rfl)).trans rfl
        have w68 : (zI (zsI M 336 7 (zI M 336 6)) 336 7).toInt = (zI M 336 6).toInt := (congrArg Int32.toInt zIs).trans rfl
        have w69 : (zI (zsI M 336 7 (zI M 336 6)) 336 47).toInt = (zI M 336 47).toInt := (congrArg Int32.toInt ((zIoj (by decide)).trans rfl)).trans rfl
        exact zs_iret (pc := 60) t343_60 mr343 (by decide) (hQ _ _ hs w65 ((zFr.refl).put rfl) rfl ⟨(fun p k hp hk => by obtain rfl : w7n = p := (by omega); obtain rfl : w10n = k := (by omega); exact Or.inr ⟨by decide, by omega, by first | exact Or.inl (by omega) | exact Or.inr (pAc.no (by omega))⟩), (fun j hj => (zIo (by decide)))⟩ (by decide) (by decide))
    · refine zs_icmp_eqF (pc := 18) t343_18 rfl li120 (by omega) ?_
      refine zs_iload_n (pc := 21) t343_21 rfl ?_
      refine zs_bipush (pc := 22) t343_22 (v := 100) (by decide) ?_
      by_cases w70 : (zhere M).toInt = 100
      · refine zs_icmp_eqT (pc := 24) t343_24 rfl li100 (by omega) ?_
        refine zs_iconst (pc := 33) t343_33 (v := 1) (by decide) ?_
        refine zs_goto (pc := 34) t343_34 ?_
        refine zs_istore_n (pc := 38) t343_38 (ls' := [(2, .int (1 : Int32)), (1, .int (zhere M)), (0, .ref 336)]) (zml mf343 (by decide)) rfl ?_
        refine zs_iload_n (pc := 39) t343_39 rfl ?_
        refine zs_if_eqF (pc := 40) t343_40 li1 (by decide) ?_
        refine zs_aload_n (pc := 43) t343_43 rfl ?_
        refine zs_get (pc := 44) t343_44 (by decide) (zk1 (hs.k fk_zMm_336)) (zfvi rfl rfl) ?_
        refine zs_bipush (pc := 47) t343_47 (v := 20) (by decide) ?_
        by_cases w71 : (zI M 336 47).toInt ≠ 20
        · refine zs_icmp_neT (pc := 49) t343_49 rfl li20 (by omega) ?_
          refine zs_iconst (pc := 61) t343_61 (v := 4) (by decide) ?_
          refine zs_aload_n (pc := 62) t343_62 rfl ?_
          refine zs_get (pc := 63) t343_63 (by decide) (zk1 (hs.k fk_zMm_336)) (zfvi rfl rfl) ?_
          obtain ⟨w72v, w72⟩ : ∃ v, (4 : Int32) * (zI M 336 47) = v := ⟨_, rfl⟩
          have w72g : w72v.toInt = 4 * (zI M 336 47).toInt := by rw [← w72]; exact zmulc li4 rfl (by omega) (by omega)
          refine zs_imul (pc := 66) t343_66 (c := w72v) w72 ?_
          refine zs_istore_n (pc := 67) t343_67 (ls' := [(3, .int w72v), (2, .int (1 : Int32)), (1, .int (zhere M)), (0, .ref 336)]) (zml mf343 (by decide)) rfl ?_
          refine zs_aload_n (pc := 68) t343_68 rfl ?_
          refine zs_get (pc := 69) t343_69 (by decide) (zk1 (hs.k fk_zMm_336)) (hs.p rfl fv_zMm_336_46) ?_
          refine zs_iload_n (pc := 72) t343_72 rfl ?_
          refine zs_iload_n (pc := 73) t343_73 rfl ?_
          have w73 : zIv mLo mHi (zsI M 362 (4 * w10n) (zhere M)) := zIv.put hI (show (-2147483648) ≤ (zhere M).toInt ∧ (zhere M).toInt ≤ 2147483647 from zrg (zhere M))
          refine zs_iast (pc := 74) t343_74 (j := (4 * w10n)) (by decide) (zk1 (hs.k fk_zMm_362)) (show w72v.toInt = (((4 * w10n) : Nat) : Int) by omega) (zk2 (hs.k fk_zMm_362) (by omega)) ?_
          refine zs_aload_n (pc := 75) t343_75 rfl ?_
          refine zs_dup (pc := 76) t343_76 rfl ?_
          refine zs_get (pc := 77) t343_77 (by decide) (zk1 (hs.k fk_zMm_336)) (zfvi rfl ((zIo (by decide)).trans rfl)) ?_
          refine zs_iconst (pc := 80) t343_80 (v := 1) (by decide) ?_
          obtain ⟨w74v, w74e, w74⟩ := ziadd (a := (zI M 336 6)) (b := (1 : Int32)) rfl li1 (by omega) (by omega)
          refine zs_iadd (pc := 81) t343_81 (c := w74v) w74e ?_
          have w75 : zIv mLo mHi (zsI (zsI M 362 (4 * w10n) (zhere M)) 336 6 w74v) := zIv.put w73 (show 0 ≤ w74v.toInt ∧ w74v.toInt ≤ 500 from ⟨by omega, by omega⟩)
          refine zs_putI (pc := 82) t343_82 (zk1 (hs.k fk_zMm_336)) rfl ?_
          refine zs_iconst (pc := 85) t343_85 (v := 1) (by decide) ?_
          refine zs_istore (pc := 86) t343_86 (ls' := [(4, .int (1 : Int32)), (3, .int w72v), (2, .int (1 : Int32)), (1, .int (zhere M)), (0, .ref 336)]) (zml mf343 (by decide)) rfl ?_
          refine zs_iload (pc := 88) t343_88 rfl ?_
          refine zs_iload_n (pc := 90) t343_90 rfl ?_
          refine zs_icmp_gtF (pc := 91) t343_91 li1 li1 (by decide) ?_
          refine zs_aload_n (pc := 94) t343_94 rfl ?_
          refine zs_sipush (pc := 95) t343_95 (v := -9999) (by decide) ?_
          refine zs_sipush (pc := 98) t343_98 (v := 9999) (by decide) ?_
          have w76 : (zI (zsI (zsI M 362 (4 * w10n) (zhere M)) 336 6 w74v) 336 6).toInt = ((zI M 336 6).toInt + 1) := (congrArg Int32.toInt zIs).trans w74
          have w77 : (-9999 : Int32).toInt = (-9999) := lin9999
          have w78 : (9999 : Int32).toInt = 9999 := li9999
          have w79 : (zI (zsI (zsI M 362 (4 * w10n) (zhere M)) 336 6 w74v) 336 6).toInt = ((zI M 336 6).toInt + 1) := (congrArg Int32.toInt zIs).trans w74
          have w80 : (zI (zsI (zsI M 362 (4 * w10n) (zhere M)) 336 6 w74v) 336 5).toInt = (zI M 336 5).toInt := (congrArg Int32.toInt ((zIoj (by decide)).trans ((zIo (by decide)).trans rfl))).trans rfl
          have w81 : (zI (zsI (zsI M 362 (4 * w10n) (zhere M)) 336 6 w74v) 336 7).toInt = (zI M 336 7).toInt := (congrArg Int32.toInt ((zIoj (by decide)).trans ((zIo (by decide)).trans rfl))).trans rfl
          have w82 : (zI (zsI (zsI M 362 (4 * w10n) (zhere M)) 336 6 w74v) 336 6).toInt = ((zI M 336 6).toInt + 1) := (congrArg Int32.toInt zIs).trans w74
          refine zs_invV (pc := 101) (k := 336) (as' := [.int (-9999 : Int32), .int (9999 : Int32)]) (st := []) t343_101 mf243 rfl rfl (Or.inl ⟨by decide, (zk1 (hs.k fk_zMm_336))⟩) ⟨by decide, by decide, Nat.le_of_ble_eq_true rfl, Nat.le_of_ble_eq_true rfl⟩ (R243 hs w75 (by omega) (by omega) (by omega) (zTm.mk x0 (fun j => ((zIo (by decide)).trans (zIo (by decide)))) ((zIoj (by decide)).trans (zIo (by decide)))) ?_) (fun _ _ q => q)
          intro w83M w83v w83s w83I w83F w83J w83t0 w83x0 w83a w83b
          have w84 := ib336_6 w83I
          show zGo X l 3 0 0 343 104 [(4, .int (1 : Int32)), (3, .int w72v), (2, .int (1 : Int32)), (1, .int (zhere M)), (0, .ref 336)] [.int w83v] w83M _
          rcases w83x0 (w7n + 1) (by omega) with ⟨w85v, w85e, w85x, w85_1, w85_2, w85_3, w85_4, w85_5, w85_6, w85_7, w85_8, w85_9, w85_10⟩ | ⟨w85v, w85_8, w85z⟩
          · skip
            have w85y := x0.rg w85e
            refine zs_if_eqF (pc := 104) t343_104 rfl (by omega) ?_
            refine zs_aload_n (pc := 107) t343_107 rfl ?_
            refine zs_iload (pc := 108) t343_108 rfl ?_
            refine zs_iload_n (pc := 110) t343_110 rfl ?_
            refine zs_icmp_neF (pc := 111) t343_111 li1 li1 (by decide) ?_
            refine zs_bipush (pc := 114) t343_114 (v := 59) (by decide) ?_
            refine zs_goto (pc := 116) t343_116 ?_
            have w86 : (zI w83M 336 6).toInt = (zI w83M 336 6).toInt := (congrArg Int32.toInt rfl).trans rfl
            have w87 : (59 : Int32).toInt = 59 := li59
            have w88 : (zI w83M 336 6).toInt = (zI w83M 336 6).toInt := (congrArg Int32.toInt rfl).trans rfl
            have w89 : (zI w83M 336 5).toInt = (zI M 336 5).toInt := (congrArg Int32.toInt ((w83F 336 5 rfl).trans ((zIoj (by decide)).trans ((zIo (by decide)).trans rfl)))).trans rfl
            have w90 := ib336_7 w83I
            have w91 : (zI w83M 336 7).toInt = (zI w83M 336 7).toInt := (congrArg Int32.toInt rfl).trans rfl
            have w92 : (zI w83M 336 6).toInt = (zI w83M 336 6).toInt := (congrArg Int32.toInt rfl).trans rfl
            have w93 : (zI w83M 336 7).toInt = (zI w83M 336 7).toInt := (congrArg Int32.toInt rfl).trans rfl
            refine zs_invV (pc := 121) (k := 336) (as' := [.int (59 : Int32)]) (st := []) t343_121 mf246 rfl rfl (Or.inl ⟨by decide, (zk1 (w83s.k fk_zMm_336))⟩) ⟨by decide, by decide, Nat.le_of_ble_eq_true rfl, Nat.le_of_ble_eq_true rfl⟩ (R246 w83s w83I ⟨by decide, by decide⟩ (by omega) (by omega) (by omega) (zTm.mk x0 (fun j => ((w83F 339 j rfl).trans ((zIo (by decide)).trans (zIo (by decide))))) ((w83F 336 5 rfl).trans ((zIoj (by decide)).trans (zIo (by decide))))) ?_) (fun _ _ q => q)
            intro w94M w94v w94s w94I w94F w94J w94t0 w94t1 w94x0 w94a w94b
            have w95 := ib336_6 w94I
            have w96 := ib336_7 w94I
            show zGo X l 3 0 0 343 124 [(4, .int (1 : Int32)), (3, .int w72v), (2, .int (1 : Int32)), (1, .int (zhere M)), (0, .ref 336)] [.int w94v] w94M _
            rw [show (59 : Int32).toInt = 59 by decide] at w94x0
            rcases w94x0 w85e (by omega) with ⟨w97v, w97_1, w97_2, w97_3, w97_4⟩ | ⟨w97v, w97_1, w97_4⟩
            · skip
              refine zs_if_neT (pc := 124) t343_124 rfl (by omega) ?_
              refine zs_aload_n (pc := 129) t343_129 rfl ?_
              refine zs_get (pc := 130) t343_130 (by decide) (zk1 (w94s.k fk_zMm_336)) (w94s.p rfl fv_zMm_336_46) ?_
              refine zs_iload_n (pc := 133) t343_133 rfl ?_
              refine zs_iload (pc := 134) t343_134 rfl ?_
              obtain ⟨w98v, w98e, w98⟩ := ziadd (a := w72v) (b := (1 : Int32)) w72g li1 (by omega) (by omega)
              refine zs_iadd (pc := 136) t343_136 (c := w98v) w98e ?_
              refine zs_aload_n (pc := 137) t343_137 rfl ?_
              have w99 := zrg (zI w83M 336 8)
              refine zs_get (pc := 138) t343_138 (by decide) (zk1 (w94s.k fk_zMm_336)) (zfvi rfl ((w94F 336 8 rfl).trans rfl)) ?_
              have w100 : zIv mLo mHi (zsI w94M 362 (1 + 4 * w10n) (zI w83M 336 8)) := zIv.put w94I (show (-2147483648) ≤ (zI w83M 336 8).toInt ∧ (zI w83M 336 8).toInt ≤ 2147483647 from zrg (zI w83M 336 8))
              refine zs_iast (pc := 141) t343_141 (j := (1 + 4 * w10n)) (by decide) (zk1 (w94s.k fk_zMm_362)) (show w98v.toInt = (((1 + 4 * w10n) : Nat) : Int) by omega) (zk2 (w94s.k fk_zMm_362) (by omega)) ?_
              refine zs_iinc (pc := 142) t343_142 (ls' := [(4, .int (2 : Int32)), (3, .int w72v), (2, .int (1 : Int32)), (1, .int (zhere M)), (0, .ref 336)]) (zml mf343 (by decide)) rfl (c := 2) (by decide) rfl ?_
              refine zs_goto (pc := 145) t343_145 ?_
              refine zs_iload (pc := 88) t343_88 rfl ?_
              refine zs_iload_n (pc := 90) t343_90 rfl ?_
              refine zs_icmp_gtT (pc := 91) t343_91 li2 li1 (by decide) ?_
              refine zs_aload_n (pc := 148) t343_148 rfl ?_
              refine zs_dup (pc := 149) t343_149 rfl ?_
              refine zs_get (pc := 150) t343_150 (by decide) (zk1 (w94s.k fk_zMm_336)) (zfvi rfl ((zIo (by decide)).trans ((w94F 336 47 rfl).trans ((w83F 336 47 rfl).trans ((zIoj (by decide)).trans ((zIo (by decide)).trans rfl)))))) ?_
              refine zs_iconst (pc := 153) t343_153 (v := 1) (by decide) ?_
              obtain ⟨w101v, w101e, w101⟩ := ziadd (a := (zI M 336 47)) (b := (1 : Int32)) rfl li1 (by omega) (by omega)
              refine zs_iadd (pc := 154) t343_154 (c := w101v) w101e ?_
              have w102 : zIv mLo mHi (zsI (zsI w94M 362 (1 + 4 * w10n) (zI w83M 336 8)) 336 47 w101v) := zIv.put w100 (show 0 ≤ w101v.toInt ∧ w101v.toInt ≤ 20 from ⟨by omega, by omega⟩)
              refine zs_putI (pc := 155) t343_155 (zk1 (w94s.k fk_zMm_336)) rfl ?_
              refine zs_iconst (pc := 158) t343_158 (v := 1) (by decide) ?_
              have w103 : (1 : Int32).toInt = 1 := li1
              have w104 : (zI (zsI (zsI w94M 362 (1 + 4 * w10n) (zI w83M 336 8)) 336 47 w101v) 336 6).toInt = (zI w94M 336 6).toInt := (congrArg Int32.toInt ((zIoj (by decide)).trans ((zIo (by decide)).trans rfl))).trans rfl
              have w105 : (zI (zsI (zsI w94M 362 (1 + 4 * w10n) (zI w83M 336 8)) 336 47 w101v) 336 7).toInt = (zI w94M 336 7).toInt := (congrArg Int32.toInt ((zIoj (by decide)).trans ((zIo (by decide)).trans rfl))).trans rfl
              have w106 : (zI (zsI (zsI w94M 362 (1 + 4 * w10n) (zI w83M 336 8)) 336 47 w101v) 336 47).toInt = ((zI M 336 47).toInt + 1) := (congrArg Int32.toInt zIs).trans w101
              exact zs_iret (pc := 159) t343_159 mr343 (by decide) (hQ _ _ w94s w102 (((((((zFr.refl).put rfl).put rfl).trans (w83F.mono rfl)).trans (w94F.mono rfl)).put rfl).put rfl) (w94J.trans w83J) ⟨(fun p k hp hk => by obtain rfl : w7n = p := (by omega); obtain rfl : w10n = k := (by omega); exact Or.inl ⟨by decide, by omega, w85e + 1, _, ((pAc.o (L := 100) (by omega) (by decide)).trans (pB.y (pRd.y w85_1 (by omega) (by omega) (by omega)))), by omega, by omega, by omega, by omega, by omega, ⟨(by rw [show 4 * w10n = (4 * w10n) by omega]; have z : (zI (zsI (zsI w94M 362 (1 + 4 * w10n) (zI w83M 336 8)) 336 47 w101v) 362 (4 * w10n)).toInt = (zhere M).toInt := ((congrArg Int32.toInt ((zIo (by decide)).trans ((zIoj (by omega)).trans ((w94F 362 (4 * w10n) rfl).trans ((w83F 362 (4 * w10n) rfl).trans ((zIo (by decide)).trans zIs)))))).trans rfl); show (zI (zsI (zsI w94M 362 (1 + 4 * w10n) (zI w83M 336 8)) 336 47 w101v) 362 (4 * w10n)).toInt = 100; omega), (by rw [show 4 * w10n + 1 = (1 + 4 * w10n) by omega]; have z : (zI (zsI (zsI w94M 362 (1 + 4 * w10n) (zI w83M 336 8)) 336 47 w101v) 362 (1 + 4 * w10n)).toInt = (zI w83M 336 8).toInt := ((congrArg Int32.toInt ((zIo (by decide)).trans zIs)).trans rfl); show (zI (zsI (zsI w94M 362 (1 + 4 * w10n) (zI w83M 336 8)) 336 47 w101v) 362 (1 + 4 * w10n)).toInt = w85x; omega), (fun z => absurd (show (100 : Int) = 104 from z) (by decide)), (show (100 : Int) = 104 ∨ (100 : Int) = 120 ∨ (100 : Int) = 100 ∨ (100 : Int) = 110 by decide)⟩⟩), (fun j hj => ((zIo (by decide)).trans ((zIoj (by omega)).trans ((w94F 362 j rfl).trans ((w83F 362 j rfl).trans ((zIo (by decide)).trans (zIoj (by omega))))))))⟩ (by decide) (by decide))
            · skip
              refine zs_if_neF (pc := 124) t343_124 rfl (by omega) ?_
              refine zs_iconst (pc := 127) t343_127 (v := 0) (by decide) ?_
              have w107 : (0 : Int32).toInt = 0 := li0
              have w108 : (zI w94M 336 6).toInt = (zI w94M 336 6).toInt := (congrArg Int32.toInt rfl).trans rfl
              have w109 : (zI w94M 336 7).toInt = (zI w94M 336 7).toInt := (congrArg Int32.toInt rfl).trans rfl
              have w110 : (zI w94M 336 47).toInt = (zI M 336 47).toInt := (congrArg Int32.toInt ((w94F 336 47 rfl).trans ((w83F 336 47 rfl).trans ((zIoj (by decide)).trans ((zIo (by decide)).trans rfl))))).trans rfl
              exact zs_iret (pc := 128) t343_128 mr343 (by decide) (hQ _ _ w94s w94I (((((zFr.refl).put rfl).put rfl).trans (w83F.mono rfl)).trans (w94F.mono rfl)) (w94J.trans w83J) ⟨(fun p k hp hk => by obtain rfl : w7n = p := (by omega); obtain rfl : w10n = k := (by omega); exact Or.inr ⟨by decide, by omega, Or.inr ((pAc.o (L := 100) (by omega) (by decide)).trans (pB.f (pRd.n w85_1 (by omega))))⟩), (fun j hj => ((w94F 362 j rfl).trans ((w83F 362 j rfl).trans ((zIo (by decide)).trans (zIoj (by omega))))))⟩ (by decide) (by decide))
          · skip
            rw [show (-9999 : Int32).toInt = -9999 by decide, show (9999 : Int32).toInt = 9999 by decide] at w85z
            refine zs_if_eqT (pc := 104) t343_104 rfl (by omega) ?_
            refine zs_iconst (pc := 127) t343_127 (v := 0) (by decide) ?_
            have w111 : (0 : Int32).toInt = 0 := li0
            have w112 : (zI w83M 336 6).toInt = (zI w83M 336 6).toInt := (congrArg Int32.toInt rfl).trans rfl
            have w113 := ib336_7 w83I
            have w114 : (zI w83M 336 7).toInt = (zI w83M 336 7).toInt := (congrArg Int32.toInt rfl).trans rfl
            have w115 : (zI w83M 336 47).toInt = (zI M 336 47).toInt := (congrArg Int32.toInt ((w83F 336 47 rfl).trans ((zIoj (by decide)).trans ((zIo (by decide)).trans rfl)))).trans rfl
            exact zs_iret (pc := 128) t343_128 mr343 (by decide) (hQ _ _ w83s w83I ((((zFr.refl).put rfl).put rfl).trans (w83F.mono rfl)) w83J ⟨(fun p k hp hk => by obtain rfl : w7n = p := (by omega); obtain rfl : w10n = k := (by omega); exact Or.inr ⟨by decide, by omega, Or.inr ((pAc.o (L := 100) (by omega) (by decide)).trans (pB.f (by rcases w85z with q | ⟨e, x, q, q2⟩; exact pRd.f q; exact pRd.n q (by omega))))⟩), (fun j hj => ((w83F 362 j rfl).trans ((zIo (by decide)).trans (zIoj (by omega)))))⟩ (by decide) (by decide))
        · refine zs_icmp_neF (pc := 49) t343_49 rfl li20 (by omega) ?_
          refine zs_aload_n (pc := 52) t343_52 rfl ?_
          refine zs_aload_n (pc := 53) t343_53 rfl ?_
          refine zs_get (pc := 54) t343_54 (by decide) (zk1 (hs.k fk_zMm_336)) (zfvi rfl rfl) ?_
          refine zs_invV (pc := 57) (k := 336) (as' := [.int (zI M 336 6)]) (st := []) t343_57 mf239 rfl rfl (Or.inl ⟨by decide, (zk1 (hs.k fk_zMm_336))⟩) ⟨by decide, by decide, Nat.le_of_ble_eq_true rfl, Nat.le_of_ble_eq_true rfl⟩ (zs_in (by decide) mf239 (Nat.le_of_ble_eq_true rfl) ?_) (fun _ _ q => q)
          show zGo X l 0 0 0 239 0 [(0, .ref 336), (1, .int (zI M 336 6))] [] M _
          refine zs_aload_n (pc := 0) t239_0 rfl ?_
          refine zs_iload_n (pc := 1) t239_1 rfl ?_
          have w116 : zIv mLo mHi (zsI M 336 7 (zI M 336 6)) := zIv.put hI (show (-1) ≤ (zI M 336 6).toInt ∧ (zI M 336 6).toInt ≤ 500 from ⟨by omega, by omega⟩)
          refine zs_putI (pc := 2) t239_2 (zk1 (hs.k fk_zMm_336)) rfl ?_
          refine zs_iconst (pc := 5) t239_5 (v := 0) (by decide) ?_
          refine zs_iret (pc := 6) t239_6 mr239 (by decide) ?_
          show zGo X l 3 0 0 343 60 [(2, .int (1 : Int32)), (1, .int (zhere M)), (0, .ref 336)] [.int (0 : Int32)] (zsI M 336 7 (zI M 336 6)) _
          have w117 : (0 : Int32).toInt = 0 := li0
          have w118 : (zI (zsI M 336 7 (zI M 336 6)) 336 6).toInt = (zI M 336 6).toInt := (congrArg Int32.toInt ((zIoj (by decide)).trans rfl)).trans rfl
          have w119 : (zI (zsI M 336 7 (zI M 336 6)) 336 7).toInt = (zI M 336 6).toInt := (congrArg Int32.toInt zIs).trans rfl
          have w120 : (zI (zsI M 336 7 (zI M 336 6)) 336 47).toInt = (zI M 336 47).toInt := (congrArg Int32.toInt ((zIoj (by decide)).trans rfl)).trans rfl
          exact zs_iret (pc := 60) t343_60 mr343 (by decide) (hQ _ _ hs w116 ((zFr.refl).put rfl) rfl ⟨(fun p k hp hk => by obtain rfl : w7n = p := (by omega); obtain rfl : w10n = k := (by omega); exact Or.inr ⟨by decide, by omega, by first | exact Or.inl (by omega) | exact Or.inr (pAc.no (by omega))⟩), (fun j hj => (zIo (by decide)))⟩ (by decide) (by decide))
      · refine zs_icmp_eqF (pc := 24) t343_24 rfl li100 (by omega) ?_
        refine zs_iload_n (pc := 27) t343_27 rfl ?_
        refine zs_bipush (pc := 28) t343_28 (v := 110) (by decide) ?_
        by_cases w121 : (zhere M).toInt ≠ 110
        · refine zs_icmp_neT (pc := 30) t343_30 rfl li110 (by omega) ?_
          refine zs_iconst (pc := 37) t343_37 (v := 0) (by decide) ?_
          refine zs_istore_n (pc := 38) t343_38 (ls' := [(2, .int (0 : Int32)), (1, .int (zhere M)), (0, .ref 336)]) (zml mf343 (by decide)) rfl ?_
          refine zs_iload_n (pc := 39) t343_39 rfl ?_
          refine zs_if_eqT (pc := 40) t343_40 li0 (by decide) ?_
          refine zs_aload_n (pc := 52) t343_52 rfl ?_
          refine zs_aload_n (pc := 53) t343_53 rfl ?_
          refine zs_get (pc := 54) t343_54 (by decide) (zk1 (hs.k fk_zMm_336)) (zfvi rfl rfl) ?_
          refine zs_invV (pc := 57) (k := 336) (as' := [.int (zI M 336 6)]) (st := []) t343_57 mf239 rfl rfl (Or.inl ⟨by decide, (zk1 (hs.k fk_zMm_336))⟩) ⟨by decide, by decide, Nat.le_of_ble_eq_true rfl, Nat.le_of_ble_eq_true rfl⟩ (zs_in (by decide) mf239 (Nat.le_of_ble_eq_true rfl) ?_) (fun _ _ q => q)
          show zGo X l 0 0 0 239 0 [(0, .ref 336), (1, .int (zI M 336 6))] [] M _
          refine zs_aload_n (pc := 0) t239_0 rfl ?_
          refine zs_iload_n (pc := 1) t239_1 rfl ?_
          have w122 : zIv mLo mHi (zsI M 336 7 (zI M 336 6)) := zIv.put hI (show (-1) ≤ (zI M 336 6).toInt ∧ (zI M 336 6).toInt ≤ 500 from ⟨by omega, by omega⟩)
          refine zs_putI (pc := 2) t239_2 (zk1 (hs.k fk_zMm_336)) rfl ?_
          refine zs_iconst (pc := 5) t239_5 (v := 0) (by decide) ?_
          refine zs_iret (pc := 6) t239_6 mr239 (by decide) ?_
          show zGo X l 3 0 0 343 60 [(2, .int (0 : Int32)), (1, .int (zhere M)), (0, .ref 336)] [.int (0 : Int32)] (zsI M 336 7 (zI M 336 6)) _
          have w123 : (0 : Int32).toInt = 0 := li0
          have w124 : (zI (zsI M 336 7 (zI M 336 6)) 336 6).toInt = (zI M 336 6).toInt := (congrArg Int32.toInt ((zIoj (by decide)).trans rfl)).trans rfl
          have w125 : (zI (zsI M 336 7 (zI M 336 6)) 336 7).toInt = (zI M 336 6).toInt := (congrArg Int32.toInt zIs).trans rfl
          have w126 : (zI (zsI M 336 7 (zI M 336 6)) 336 47).toInt = (zI M 336 47).toInt := (congrArg Int32.toInt ((zIoj (by decide)).trans rfl)).trans rfl
          exact zs_iret (pc := 60) t343_60 mr343 (by decide) (hQ _ _ hs w122 ((zFr.refl).put rfl) rfl ⟨(fun p k hp hk => by obtain rfl : w7n = p := (by omega); obtain rfl : w10n = k := (by omega); exact Or.inr ⟨by decide, by omega, by first | exact Or.inl (by omega) | exact Or.inr (pAc.no (by omega))⟩), (fun j hj => (zIo (by decide)))⟩ (by decide) (by decide))
        · refine zs_icmp_neF (pc := 30) t343_30 rfl li110 (by omega) ?_
          refine zs_iconst (pc := 33) t343_33 (v := 1) (by decide) ?_
          refine zs_goto (pc := 34) t343_34 ?_
          refine zs_istore_n (pc := 38) t343_38 (ls' := [(2, .int (1 : Int32)), (1, .int (zhere M)), (0, .ref 336)]) (zml mf343 (by decide)) rfl ?_
          refine zs_iload_n (pc := 39) t343_39 rfl ?_
          refine zs_if_eqF (pc := 40) t343_40 li1 (by decide) ?_
          refine zs_aload_n (pc := 43) t343_43 rfl ?_
          refine zs_get (pc := 44) t343_44 (by decide) (zk1 (hs.k fk_zMm_336)) (zfvi rfl rfl) ?_
          refine zs_bipush (pc := 47) t343_47 (v := 20) (by decide) ?_
          by_cases w127 : (zI M 336 47).toInt ≠ 20
          · refine zs_icmp_neT (pc := 49) t343_49 rfl li20 (by omega) ?_
            refine zs_iconst (pc := 61) t343_61 (v := 4) (by decide) ?_
            refine zs_aload_n (pc := 62) t343_62 rfl ?_
            refine zs_get (pc := 63) t343_63 (by decide) (zk1 (hs.k fk_zMm_336)) (zfvi rfl rfl) ?_
            obtain ⟨w128v, w128⟩ : ∃ v, (4 : Int32) * (zI M 336 47) = v := ⟨_, rfl⟩
            have w128g : w128v.toInt = 4 * (zI M 336 47).toInt := by rw [← w128]; exact zmulc li4 rfl (by omega) (by omega)
            refine zs_imul (pc := 66) t343_66 (c := w128v) w128 ?_
            refine zs_istore_n (pc := 67) t343_67 (ls' := [(3, .int w128v), (2, .int (1 : Int32)), (1, .int (zhere M)), (0, .ref 336)]) (zml mf343 (by decide)) rfl ?_
            refine zs_aload_n (pc := 68) t343_68 rfl ?_
            refine zs_get (pc := 69) t343_69 (by decide) (zk1 (hs.k fk_zMm_336)) (hs.p rfl fv_zMm_336_46) ?_
            refine zs_iload_n (pc := 72) t343_72 rfl ?_
            refine zs_iload_n (pc := 73) t343_73 rfl ?_
            have w129 : zIv mLo mHi (zsI M 362 (4 * w10n) (zhere M)) := zIv.put hI (show (-2147483648) ≤ (zhere M).toInt ∧ (zhere M).toInt ≤ 2147483647 from zrg (zhere M))
            refine zs_iast (pc := 74) t343_74 (j := (4 * w10n)) (by decide) (zk1 (hs.k fk_zMm_362)) (show w128v.toInt = (((4 * w10n) : Nat) : Int) by omega) (zk2 (hs.k fk_zMm_362) (by omega)) ?_
            refine zs_aload_n (pc := 75) t343_75 rfl ?_
            refine zs_dup (pc := 76) t343_76 rfl ?_
            refine zs_get (pc := 77) t343_77 (by decide) (zk1 (hs.k fk_zMm_336)) (zfvi rfl ((zIo (by decide)).trans rfl)) ?_
            refine zs_iconst (pc := 80) t343_80 (v := 1) (by decide) ?_
            obtain ⟨w130v, w130e, w130⟩ := ziadd (a := (zI M 336 6)) (b := (1 : Int32)) rfl li1 (by omega) (by omega)
            refine zs_iadd (pc := 81) t343_81 (c := w130v) w130e ?_
            have w131 : zIv mLo mHi (zsI (zsI M 362 (4 * w10n) (zhere M)) 336 6 w130v) := zIv.put w129 (show 0 ≤ w130v.toInt ∧ w130v.toInt ≤ 500 from ⟨by omega, by omega⟩)
            refine zs_putI (pc := 82) t343_82 (zk1 (hs.k fk_zMm_336)) rfl ?_
            refine zs_iconst (pc := 85) t343_85 (v := 1) (by decide) ?_
            refine zs_istore (pc := 86) t343_86 (ls' := [(4, .int (1 : Int32)), (3, .int w128v), (2, .int (1 : Int32)), (1, .int (zhere M)), (0, .ref 336)]) (zml mf343 (by decide)) rfl ?_
            refine zs_iload (pc := 88) t343_88 rfl ?_
            refine zs_iload_n (pc := 90) t343_90 rfl ?_
            refine zs_icmp_gtF (pc := 91) t343_91 li1 li1 (by decide) ?_
            refine zs_aload_n (pc := 94) t343_94 rfl ?_
            refine zs_sipush (pc := 95) t343_95 (v := -9999) (by decide) ?_
            refine zs_sipush (pc := 98) t343_98 (v := 9999) (by decide) ?_
            have w132 : (zI (zsI (zsI M 362 (4 * w10n) (zhere M)) 336 6 w130v) 336 6).toInt = ((zI M 336 6).toInt + 1) := (congrArg Int32.toInt zIs).trans w130
            have w133 : (-9999 : Int32).toInt = (-9999) := lin9999
            have w134 : (9999 : Int32).toInt = 9999 := li9999
            have w135 : (zI (zsI (zsI M 362 (4 * w10n) (zhere M)) 336 6 w130v) 336 6).toInt = ((zI M 336 6).toInt + 1) := (congrArg Int32.toInt zIs).trans w130
            have w136 : (zI (zsI (zsI M 362 (4 * w10n) (zhere M)) 336 6 w130v) 336 5).toInt = (zI M 336 5).toInt := (congrArg Int32.toInt ((zIoj (by decide)).trans ((zIo (by decide)).trans rfl))).trans rfl
            have w137 : (zI (zsI (zsI M 362 (4 * w10n) (zhere M)) 336 6 w130v) 336 7).toInt = (zI M 336 7).toInt := (congrArg Int32.toInt ((zIoj (by decide)).trans ((zIo (by decide)).trans rfl))).trans rfl
            have w138 : (zI (zsI (zsI M 362 (4 * w10n) (zhere M)) 336 6 w130v) 336 6).toInt = ((zI M 336 6).toInt + 1) := (congrArg Int32.toInt zIs).trans w130
            refine zs_invV (pc := 101) (k := 336) (as' := [.int (-9999 : Int32), .int (9999 : Int32)]) (st := []) t343_101 mf243 rfl rfl (Or.inl ⟨by decide, (zk1 (hs.k fk_zMm_336))⟩) ⟨by decide, by decide, Nat.le_of_ble_eq_true rfl, Nat.le_of_ble_eq_true rfl⟩ (R243 hs w131 (by omega) (by omega) (by omega) (zTm.mk x0 (fun j => ((zIo (by decide)).trans (zIo (by decide)))) ((zIoj (by decide)).trans (zIo (by decide)))) ?_) (fun _ _ q => q)
            intro w139M w139v w139s w139I w139F w139J w139t0 w139x0 w139a w139b
            have w140 := ib336_6 w139I
            show zGo X l 3 0 0 343 104 [(4, .int (1 : Int32)), (3, .int w128v), (2, .int (1 : Int32)), (1, .int (zhere M)), (0, .ref 336)] [.int w139v] w139M _
            rcases w139x0 (w7n + 1) (by omega) with ⟨w141v, w141e, w141x, w141_1, w141_2, w141_3, w141_4, w141_5, w141_6, w141_7, w141_8, w141_9, w141_10⟩ | ⟨w141v, w141_8, w141z⟩
            · skip
              have w141y := x0.rg w141e
              refine zs_if_eqF (pc := 104) t343_104 rfl (by omega) ?_
              refine zs_aload_n (pc := 107) t343_107 rfl ?_
              refine zs_iload (pc := 108) t343_108 rfl ?_
              refine zs_iload_n (pc := 110) t343_110 rfl ?_
              refine zs_icmp_neF (pc := 111) t343_111 li1 li1 (by decide) ?_
              refine zs_bipush (pc := 114) t343_114 (v := 59) (by decide) ?_
              refine zs_goto (pc := 116) t343_116 ?_
              have w142 : (zI w139M 336 6).toInt = (zI w139M 336 6).toInt := (congrArg Int32.toInt rfl).trans rfl
              have w143 : (59 : Int32).toInt = 59 := li59
              have w144 : (zI w139M 336 6).toInt = (zI w139M 336 6).toInt := (congrArg Int32.toInt rfl).trans rfl
              have w145 : (zI w139M 336 5).toInt = (zI M 336 5).toInt := (congrArg Int32.toInt ((w139F 336 5 rfl).trans ((zIoj (by decide)).trans ((zIo (by decide)).trans rfl)))).trans rfl
              have w146 := ib336_7 w139I
              have w147 : (zI w139M 336 7).toInt = (zI w139M 336 7).toInt := (congrArg Int32.toInt rfl).trans rfl
              have w148 : (zI w139M 336 6).toInt = (zI w139M 336 6).toInt := (congrArg Int32.toInt rfl).trans rfl
              have w149 : (zI w139M 336 7).toInt = (zI w139M 336 7).toInt := (congrArg Int32.toInt rfl).trans rfl
              refine zs_invV (pc := 121) (k := 336) (as' := [.int (59 : Int32)]) (st := []) t343_121 mf246 rfl rfl (Or.inl ⟨by decide, (zk1 (w139s.k fk_zMm_336))⟩) ⟨by decide, by decide, Nat.le_of_ble_eq_true rfl, Nat.le_of_ble_eq_true rfl⟩ (R246 w139s w139I ⟨by decide, by decide⟩ (by omega) (by omega) (by omega) (zTm.mk x0 (fun j => ((w139F 339 j rfl).trans ((zIo (by decide)).trans (zIo (by decide))))) ((w139F 336 5 rfl).trans ((zIoj (by decide)).trans (zIo (by decide))))) ?_) (fun _ _ q => q)
              intro w150M w150v w150s w150I w150F w150J w150t0 w150t1 w150x0 w150a w150b
              have w151 := ib336_6 w150I
              have w152 := ib336_7 w150I
              show zGo X l 3 0 0 343 124 [(4, .int (1 : Int32)), (3, .int w128v), (2, .int (1 : Int32)), (1, .int (zhere M)), (0, .ref 336)] [.int w150v] w150M _
              rw [show (59 : Int32).toInt = 59 by decide] at w150x0
              rcases w150x0 w141e (by omega) with ⟨w153v, w153_1, w153_2, w153_3, w153_4⟩ | ⟨w153v, w153_1, w153_4⟩
              · skip
                refine zs_if_neT (pc := 124) t343_124 rfl (by omega) ?_
                refine zs_aload_n (pc := 129) t343_129 rfl ?_
                refine zs_get (pc := 130) t343_130 (by decide) (zk1 (w150s.k fk_zMm_336)) (w150s.p rfl fv_zMm_336_46) ?_
                refine zs_iload_n (pc := 133) t343_133 rfl ?_
                refine zs_iload (pc := 134) t343_134 rfl ?_
                obtain ⟨w154v, w154e, w154⟩ := ziadd (a := w128v) (b := (1 : Int32)) w128g li1 (by omega) (by omega)
                refine zs_iadd (pc := 136) t343_136 (c := w154v) w154e ?_
                refine zs_aload_n (pc := 137) t343_137 rfl ?_
                have w155 := zrg (zI w139M 336 8)
                refine zs_get (pc := 138) t343_138 (by decide) (zk1 (w150s.k fk_zMm_336)) (zfvi rfl ((w150F 336 8 rfl).trans rfl)) ?_
                have w156 : zIv mLo mHi (zsI w150M 362 (1 + 4 * w10n) (zI w139M 336 8)) := zIv.put w150I (show (-2147483648) ≤ (zI w139M 336 8).toInt ∧ (zI w139M 336 8).toInt ≤ 2147483647 from zrg (zI w139M 336 8))
                refine zs_iast (pc := 141) t343_141 (j := (1 + 4 * w10n)) (by decide) (zk1 (w150s.k fk_zMm_362)) (show w154v.toInt = (((1 + 4 * w10n) : Nat) : Int) by omega) (zk2 (w150s.k fk_zMm_362) (by omega)) ?_
                refine zs_iinc (pc := 142) t343_142 (ls' := [(4, .int (2 : Int32)), (3, .int w128v), (2, .int (1 : Int32)), (1, .int (zhere M)), (0, .ref 336)]) (zml mf343 (by decide)) rfl (c := 2) (by decide) rfl ?_
                refine zs_goto (pc := 145) t343_145 ?_
                refine zs_iload (pc := 88) t343_88 rfl ?_
                refine zs_iload_n (pc := 90) t343_90 rfl ?_
                refine zs_icmp_gtT (pc := 91) t343_91 li2 li1 (by decide) ?_
                refine zs_aload_n (pc := 148) t343_148 rfl ?_
                refine zs_dup (pc := 149) t343_149 rfl ?_
                refine zs_get (pc := 150) t343_150 (by decide) (zk1 (w150s.k fk_zMm_336)) (zfvi rfl ((zIo (by decide)).trans ((w150F 336 47 rfl).trans ((w139F 336 47 rfl).trans ((zIoj (by decide)).trans ((zIo (by decide)).trans rfl)))))) ?_
                refine zs_iconst (pc := 153) t343_153 (v := 1) (by decide) ?_
                obtain ⟨w157v, w157e, w157⟩ := ziadd (a := (zI M 336 47)) (b := (1 : Int32)) rfl li1 (by omega) (by omega)
                refine zs_iadd (pc := 154) t343_154 (c := w157v) w157e ?_
                have w158 : zIv mLo mHi (zsI (zsI w150M 362 (1 + 4 * w10n) (zI w139M 336 8)) 336 47 w157v) := zIv.put w156 (show 0 ≤ w157v.toInt ∧ w157v.toInt ≤ 20 from ⟨by omega, by omega⟩)
                refine zs_putI (pc := 155) t343_155 (zk1 (w150s.k fk_zMm_336)) rfl ?_
                refine zs_iconst (pc := 158) t343_158 (v := 1) (by decide) ?_
                have w159 : (1 : Int32).toInt = 1 := li1
                have w160 : (zI (zsI (zsI w150M 362 (1 + 4 * w10n) (zI w139M 336 8)) 336 47 w157v) 336 6).toInt = (zI w150M 336 6).toInt := (congrArg Int32.toInt ((zIoj (by decide)).trans ((zIo (by decide)).trans rfl))).trans rfl
                have w161 : (zI (zsI (zsI w150M 362 (1 + 4 * w10n) (zI w139M 336 8)) 336 47 w157v) 336 7).toInt = (zI w150M 336 7).toInt := (congrArg Int32.toInt ((zIoj (by decide)).trans ((zIo (by decide)).trans rfl))).trans rfl
                have w162 : (zI (zsI (zsI w150M 362 (1 + 4 * w10n) (zI w139M 336 8)) 336 47 w157v) 336 47).toInt = ((zI M 336 47).toInt + 1) := (congrArg Int32.toInt zIs).trans w157
                exact zs_iret (pc := 159) t343_159 mr343 (by decide) (hQ _ _ w150s w158 (((((((zFr.refl).put rfl).put rfl).trans (w139F.mono rfl)).trans (w150F.mono rfl)).put rfl).put rfl) (w150J.trans w139J) ⟨(fun p k hp hk => by obtain rfl : w7n = p := (by omega); obtain rfl : w10n = k := (by omega); exact Or.inl ⟨by decide, by omega, w141e + 1, _, ((pAc.o (L := 110) (by omega) (by decide)).trans (pB.y (pRd.y w141_1 (by omega) (by omega) (by omega)))), by omega, by omega, by omega, by omega, by omega, ⟨(by rw [show 4 * w10n = (4 * w10n) by omega]; have z : (zI (zsI (zsI w150M 362 (1 + 4 * w10n) (zI w139M 336 8)) 336 47 w157v) 362 (4 * w10n)).toInt = (zhere M).toInt := ((congrArg Int32.toInt ((zIo (by decide)).trans ((zIoj (by omega)).trans ((w150F 362 (4 * w10n) rfl).trans ((w139F 362 (4 * w10n) rfl).trans ((zIo (by decide)).trans zIs)))))).trans rfl); show (zI (zsI (zsI w150M 362 (1 + 4 * w10n) (zI w139M 336 8)) 336 47 w157v) 362 (4 * w10n)).toInt = 110; omega), (by rw [show 4 * w10n + 1 = (1 + 4 * w10n) by omega]; have z : (zI (zsI (zsI w150M 362 (1 + 4 * w10n) (zI w139M 336 8)) 336 47 w157v) 362 (1 + 4 * w10n)).toInt = (zI w139M 336 8).toInt := ((congrArg Int32.toInt ((zIo (by decide)).trans zIs)).trans rfl); show (zI (zsI (zsI w150M 362 (1 + 4 * w10n) (zI w139M 336 8)) 336 47 w157v) 362 (1 + 4 * w10n)).toInt = w141x; omega), (fun z => absurd (show (110 : Int) = 104 from z) (by decide)), (show (110 : Int) = 104 ∨ (110 : Int) = 120 ∨ (110 : Int) = 100 ∨ (110 : Int) = 110 by decide)⟩⟩), (fun j hj => ((zIo (by decide)).trans ((zIoj (by omega)).trans ((w150F 362 j rfl).trans ((w139F 362 j rfl).trans ((zIo (by decide)).trans (zIoj (by omega))))))))⟩ (by decide) (by decide))
              · skip
                refine zs_if_neF (pc := 124) t343_124 rfl (by omega) ?_
                refine zs_iconst (pc := 127) t343_127 (v := 0) (by decide) ?_
                have w163 : (0 : Int32).toInt = 0 := li0
                have w164 : (zI w150M 336 6).toInt = (zI w150M 336 6).toInt := (congrArg Int32.toInt rfl).trans rfl
                have w165 : (zI w150M 336 7).toInt = (zI w150M 336 7).toInt := (congrArg Int32.toInt rfl).trans rfl
                have w166 : (zI w150M 336 47).toInt = (zI M 336 47).toInt := (congrArg Int32.toInt ((w150F 336 47 rfl).trans ((w139F 336 47 rfl).trans ((zIoj (by decide)).trans ((zIo (by decide)).trans rfl))))).trans rfl
                exact zs_iret (pc := 128) t343_128 mr343 (by decide) (hQ _ _ w150s w150I (((((zFr.refl).put rfl).put rfl).trans (w139F.mono rfl)).trans (w150F.mono rfl)) (w150J.trans w139J) ⟨(fun p k hp hk => by obtain rfl : w7n = p := (by omega); obtain rfl : w10n = k := (by omega); exact Or.inr ⟨by decide, by omega, Or.inr ((pAc.o (L := 110) (by omega) (by decide)).trans (pB.f (pRd.n w141_1 (by omega))))⟩), (fun j hj => ((w150F 362 j rfl).trans ((w139F 362 j rfl).trans ((zIo (by decide)).trans (zIoj (by omega))))))⟩ (by decide) (by decide))
            · skip
              rw [show (-9999 : Int32).toInt = -9999 by decide, show (9999 : Int32).toInt = 9999 by decide] at w141z
              refine zs_if_eqT (pc := 104) t343_104 rfl (by omega) ?_
              refine zs_iconst (pc := 127) t343_127 (v := 0) (by decide) ?_
              have w167 : (0 : Int32).toInt = 0 := li0
              have w168 : (zI w139M 336 6).toInt = (zI w139M 336 6).toInt := (congrArg Int32.toInt rfl).trans rfl
              have w169 := ib336_7 w139I
              have w170 : (zI w139M 336 7).toInt = (zI w139M 336 7).toInt := (congrArg Int32.toInt rfl).trans rfl
              have w171 : (zI w139M 336 47).toInt = (zI M 336 47).toInt := (congrArg Int32.toInt ((w139F 336 47 rfl).trans ((zIoj (by decide)).trans ((zIo (by decide)).trans rfl)))).trans rfl
              exact zs_iret (pc := 128) t343_128 mr343 (by decide) (hQ _ _ w139s w139I ((((zFr.refl).put rfl).put rfl).trans (w139F.mono rfl)) w139J ⟨(fun p k hp hk => by obtain rfl : w7n = p := (by omega); obtain rfl : w10n = k := (by omega); exact Or.inr ⟨by decide, by omega, Or.inr ((pAc.o (L := 110) (by omega) (by decide)).trans (pB.f (by rcases w141z with q | ⟨e, x, q, q2⟩; exact pRd.f q; exact pRd.n q (by omega))))⟩), (fun j hj => ((w139F 362 j rfl).trans ((zIo (by decide)).trans (zIoj (by omega)))))⟩ (by decide) (by decide))
          · refine zs_icmp_neF (pc := 49) t343_49 rfl li20 (by omega) ?_
            refine zs_aload_n (pc := 52) t343_52 rfl ?_
            refine zs_aload_n (pc := 53) t343_53 rfl ?_
            refine zs_get (pc := 54) t343_54 (by decide) (zk1 (hs.k fk_zMm_336)) (zfvi rfl rfl) ?_
            refine zs_invV (pc := 57) (k := 336) (as' := [.int (zI M 336 6)]) (st := []) t343_57 mf239 rfl rfl (Or.inl ⟨by decide, (zk1 (hs.k fk_zMm_336))⟩) ⟨by decide, by decide, Nat.le_of_ble_eq_true rfl, Nat.le_of_ble_eq_true rfl⟩ (zs_in (by decide) mf239 (Nat.le_of_ble_eq_true rfl) ?_) (fun _ _ q => q)
            show zGo X l 0 0 0 239 0 [(0, .ref 336), (1, .int (zI M 336 6))] [] M _
            refine zs_aload_n (pc := 0) t239_0 rfl ?_
            refine zs_iload_n (pc := 1) t239_1 rfl ?_
            have w172 : zIv mLo mHi (zsI M 336 7 (zI M 336 6)) := zIv.put hI (show (-1) ≤ (zI M 336 6).toInt ∧ (zI M 336 6).toInt ≤ 500 from ⟨by omega, by omega⟩)
            refine zs_putI (pc := 2) t239_2 (zk1 (hs.k fk_zMm_336)) rfl ?_
            refine zs_iconst (pc := 5) t239_5 (v := 0) (by decide) ?_
            refine zs_iret (pc := 6) t239_6 mr239 (by decide) ?_
            show zGo X l 3 0 0 343 60 [(2, .int (1 : Int32)), (1, .int (zhere M)), (0, .ref 336)] [.int (0 : Int32)] (zsI M 336 7 (zI M 336 6)) _
            have w173 : (0 : Int32).toInt = 0 := li0
            have w174 : (zI (zsI M 336 7 (zI M 336 6)) 336 6).toInt = (zI M 336 6).toInt := (congrArg Int32.toInt ((zIoj (by decide)).trans rfl)).trans rfl
            have w175 : (zI (zsI M 336 7 (zI M 336 6)) 336 7).toInt = (zI M 336 6).toInt := (congrArg Int32.toInt zIs).trans rfl
            have w176 : (zI (zsI M 336 7 (zI M 336 6)) 336 47).toInt = (zI M 336 47).toInt := (congrArg Int32.toInt ((zIoj (by decide)).trans rfl)).trans rfl
            exact zs_iret (pc := 60) t343_60 mr343 (by decide) (hQ _ _ hs w172 ((zFr.refl).put rfl) rfl ⟨(fun p k hp hk => by obtain rfl : w7n = p := (by omega); obtain rfl : w10n = k := (by omega); exact Or.inr ⟨by decide, by omega, by first | exact Or.inl (by omega) | exact Or.inr (pAc.no (by omega))⟩), (fun j hj => (zIo (by decide)))⟩ (by decide) (by decide))
  · refine zs_icmp_neF (pc := 8) t343_8 rfl li104 (by omega) ?_
    refine zs_iconst (pc := 11) t343_11 (v := 3) (by decide) ?_
    refine zs_goto (pc := 12) t343_12 ?_
    refine zs_istore_n (pc := 38) t343_38 (ls' := [(2, .int (3 : Int32)), (1, .int (zhere M)), (0, .ref 336)]) (zml mf343 (by decide)) rfl ?_
    refine zs_iload_n (pc := 39) t343_39 rfl ?_
    refine zs_if_eqF (pc := 40) t343_40 li3 (by decide) ?_
    refine zs_aload_n (pc := 43) t343_43 rfl ?_
    refine zs_get (pc := 44) t343_44 (by decide) (zk1 (hs.k fk_zMm_336)) (zfvi rfl rfl) ?_
    refine zs_bipush (pc := 47) t343_47 (v := 20) (by decide) ?_
    by_cases w177 : (zI M 336 47).toInt ≠ 20
    · refine zs_icmp_neT (pc := 49) t343_49 rfl li20 (by omega) ?_
      refine zs_iconst (pc := 61) t343_61 (v := 4) (by decide) ?_
      refine zs_aload_n (pc := 62) t343_62 rfl ?_
      refine zs_get (pc := 63) t343_63 (by decide) (zk1 (hs.k fk_zMm_336)) (zfvi rfl rfl) ?_
      obtain ⟨w178v, w178⟩ : ∃ v, (4 : Int32) * (zI M 336 47) = v := ⟨_, rfl⟩
      have w178g : w178v.toInt = 4 * (zI M 336 47).toInt := by rw [← w178]; exact zmulc li4 rfl (by omega) (by omega)
      refine zs_imul (pc := 66) t343_66 (c := w178v) w178 ?_
      refine zs_istore_n (pc := 67) t343_67 (ls' := [(3, .int w178v), (2, .int (3 : Int32)), (1, .int (zhere M)), (0, .ref 336)]) (zml mf343 (by decide)) rfl ?_
      refine zs_aload_n (pc := 68) t343_68 rfl ?_
      refine zs_get (pc := 69) t343_69 (by decide) (zk1 (hs.k fk_zMm_336)) (hs.p rfl fv_zMm_336_46) ?_
      refine zs_iload_n (pc := 72) t343_72 rfl ?_
      refine zs_iload_n (pc := 73) t343_73 rfl ?_
      have w179 : zIv mLo mHi (zsI M 362 (4 * w10n) (zhere M)) := zIv.put hI (show (-2147483648) ≤ (zhere M).toInt ∧ (zhere M).toInt ≤ 2147483647 from zrg (zhere M))
      refine zs_iast (pc := 74) t343_74 (j := (4 * w10n)) (by decide) (zk1 (hs.k fk_zMm_362)) (show w178v.toInt = (((4 * w10n) : Nat) : Int) by omega) (zk2 (hs.k fk_zMm_362) (by omega)) ?_
      refine zs_aload_n (pc := 75) t343_75 rfl ?_
      refine zs_dup (pc := 76) t343_76 rfl ?_
      refine zs_get (pc := 77) t343_77 (by decide) (zk1 (hs.k fk_zMm_336)) (zfvi rfl ((zIo (by decide)).trans rfl)) ?_
      refine zs_iconst (pc := 80) t343_80 (v := 1) (by decide) ?_
      obtain ⟨w180v, w180e, w180⟩ := ziadd (a := (zI M 336 6)) (b := (1 : Int32)) rfl li1 (by omega) (by omega)
      refine zs_iadd (pc := 81) t343_81 (c := w180v) w180e ?_
      have w181 : zIv mLo mHi (zsI (zsI M 362 (4 * w10n) (zhere M)) 336 6 w180v) := zIv.put w179 (show 0 ≤ w180v.toInt ∧ w180v.toInt ≤ 500 from ⟨by omega, by omega⟩)
      refine zs_putI (pc := 82) t343_82 (zk1 (hs.k fk_zMm_336)) rfl ?_
      refine zs_iconst (pc := 85) t343_85 (v := 1) (by decide) ?_
      refine zs_istore (pc := 86) t343_86 (ls' := [(4, .int (1 : Int32)), (3, .int w178v), (2, .int (3 : Int32)), (1, .int (zhere M)), (0, .ref 336)]) (zml mf343 (by decide)) rfl ?_
      refine zs_iload (pc := 88) t343_88 rfl ?_
      refine zs_iload_n (pc := 90) t343_90 rfl ?_
      refine zs_icmp_gtF (pc := 91) t343_91 li1 li3 (by decide) ?_
      refine zs_aload_n (pc := 94) t343_94 rfl ?_
      refine zs_sipush (pc := 95) t343_95 (v := -9999) (by decide) ?_
      refine zs_sipush (pc := 98) t343_98 (v := 9999) (by decide) ?_
      have w182 : (zI (zsI (zsI M 362 (4 * w10n) (zhere M)) 336 6 w180v) 336 6).toInt = ((zI M 336 6).toInt + 1) := (congrArg Int32.toInt zIs).trans w180
      have w183 : (-9999 : Int32).toInt = (-9999) := lin9999
      have w184 : (9999 : Int32).toInt = 9999 := li9999
      have w185 : (zI (zsI (zsI M 362 (4 * w10n) (zhere M)) 336 6 w180v) 336 6).toInt = ((zI M 336 6).toInt + 1) := (congrArg Int32.toInt zIs).trans w180
      have w186 : (zI (zsI (zsI M 362 (4 * w10n) (zhere M)) 336 6 w180v) 336 5).toInt = (zI M 336 5).toInt := (congrArg Int32.toInt ((zIoj (by decide)).trans ((zIo (by decide)).trans rfl))).trans rfl
      have w187 : (zI (zsI (zsI M 362 (4 * w10n) (zhere M)) 336 6 w180v) 336 7).toInt = (zI M 336 7).toInt := (congrArg Int32.toInt ((zIoj (by decide)).trans ((zIo (by decide)).trans rfl))).trans rfl
      have w188 : (zI (zsI (zsI M 362 (4 * w10n) (zhere M)) 336 6 w180v) 336 6).toInt = ((zI M 336 6).toInt + 1) := (congrArg Int32.toInt zIs).trans w180
      refine zs_invV (pc := 101) (k := 336) (as' := [.int (-9999 : Int32), .int (9999 : Int32)]) (st := []) t343_101 mf243 rfl rfl (Or.inl ⟨by decide, (zk1 (hs.k fk_zMm_336))⟩) ⟨by decide, by decide, Nat.le_of_ble_eq_true rfl, Nat.le_of_ble_eq_true rfl⟩ (R243 hs w181 (by omega) (by omega) (by omega) (zTm.mk x0 (fun j => ((zIo (by decide)).trans (zIo (by decide)))) ((zIoj (by decide)).trans (zIo (by decide)))) ?_) (fun _ _ q => q)
      intro w189M w189v w189s w189I w189F w189J w189t0 w189x0 w189a w189b
      have w190 := ib336_6 w189I
      show zGo X l 3 0 0 343 104 [(4, .int (1 : Int32)), (3, .int w178v), (2, .int (3 : Int32)), (1, .int (zhere M)), (0, .ref 336)] [.int w189v] w189M _
      rcases w189x0 (w7n + 1) (by omega) with ⟨w191v, w191e, w191x, w191_1, w191_2, w191_3, w191_4, w191_5, w191_6, w191_7, w191_8, w191_9, w191_10⟩ | ⟨w191v, w191_8, w191z⟩
      · skip
        have w191y := x0.rg w191e
        refine zs_if_eqF (pc := 104) t343_104 rfl (by omega) ?_
        refine zs_aload_n (pc := 107) t343_107 rfl ?_
        refine zs_iload (pc := 108) t343_108 rfl ?_
        refine zs_iload_n (pc := 110) t343_110 rfl ?_
        refine zs_icmp_neT (pc := 111) t343_111 li1 li3 (by decide) ?_
        refine zs_bipush (pc := 119) t343_119 (v := 44) (by decide) ?_
        have w192 : (zI w189M 336 6).toInt = (zI w189M 336 6).toInt := (congrArg Int32.toInt rfl).trans rfl
        have w193 : (44 : Int32).toInt = 44 := li44
        have w194 : (zI w189M 336 6).toInt = (zI w189M 336 6).toInt := (congrArg Int32.toInt rfl).trans rfl
        have w195 : (zI w189M 336 5).toInt = (zI M 336 5).toInt := (congrArg Int32.toInt ((w189F 336 5 rfl).trans ((zIoj (by decide)).trans ((zIo (by decide)).trans rfl)))).trans rfl
        have w196 := ib336_7 w189I
        have w197 : (zI w189M 336 7).toInt = (zI w189M 336 7).toInt := (congrArg Int32.toInt rfl).trans rfl
        have w198 : (zI w189M 336 6).toInt = (zI w189M 336 6).toInt := (congrArg Int32.toInt rfl).trans rfl
        have w199 : (zI w189M 336 7).toInt = (zI w189M 336 7).toInt := (congrArg Int32.toInt rfl).trans rfl
        refine zs_invV (pc := 121) (k := 336) (as' := [.int (44 : Int32)]) (st := []) t343_121 mf246 rfl rfl (Or.inl ⟨by decide, (zk1 (w189s.k fk_zMm_336))⟩) ⟨by decide, by decide, Nat.le_of_ble_eq_true rfl, Nat.le_of_ble_eq_true rfl⟩ (R246 w189s w189I ⟨by decide, by decide⟩ (by omega) (by omega) (by omega) (zTm.mk x0 (fun j => ((w189F 339 j rfl).trans ((zIo (by decide)).trans (zIo (by decide))))) ((w189F 336 5 rfl).trans ((zIoj (by decide)).trans (zIo (by decide))))) ?_) (fun _ _ q => q)
        intro w200M w200v w200s w200I w200F w200J w200t0 w200t1 w200x0 w200a w200b
        have w201 := ib336_6 w200I
        have w202 := ib336_7 w200I
        show zGo X l 3 0 0 343 124 [(4, .int (1 : Int32)), (3, .int w178v), (2, .int (3 : Int32)), (1, .int (zhere M)), (0, .ref 336)] [.int w200v] w200M _
        rw [show (44 : Int32).toInt = 44 by decide] at w200x0
        rcases w200x0 w191e (by omega) with ⟨w203v, w203_1, w203_2, w203_3, w203_4⟩ | ⟨w203v, w203_1, w203_4⟩
        · skip
          refine zs_if_neT (pc := 124) t343_124 rfl (by omega) ?_
          refine zs_aload_n (pc := 129) t343_129 rfl ?_
          refine zs_get (pc := 130) t343_130 (by decide) (zk1 (w200s.k fk_zMm_336)) (w200s.p rfl fv_zMm_336_46) ?_
          refine zs_iload_n (pc := 133) t343_133 rfl ?_
          refine zs_iload (pc := 134) t343_134 rfl ?_
          obtain ⟨w204v, w204e, w204⟩ := ziadd (a := w178v) (b := (1 : Int32)) w178g li1 (by omega) (by omega)
          refine zs_iadd (pc := 136) t343_136 (c := w204v) w204e ?_
          refine zs_aload_n (pc := 137) t343_137 rfl ?_
          have w205 := zrg (zI w189M 336 8)
          refine zs_get (pc := 138) t343_138 (by decide) (zk1 (w200s.k fk_zMm_336)) (zfvi rfl ((w200F 336 8 rfl).trans rfl)) ?_
          have w206 : zIv mLo mHi (zsI w200M 362 (1 + 4 * w10n) (zI w189M 336 8)) := zIv.put w200I (show (-2147483648) ≤ (zI w189M 336 8).toInt ∧ (zI w189M 336 8).toInt ≤ 2147483647 from zrg (zI w189M 336 8))
          refine zs_iast (pc := 141) t343_141 (j := (1 + 4 * w10n)) (by decide) (zk1 (w200s.k fk_zMm_362)) (show w204v.toInt = (((1 + 4 * w10n) : Nat) : Int) by omega) (zk2 (w200s.k fk_zMm_362) (by omega)) ?_
          refine zs_iinc (pc := 142) t343_142 (ls' := [(4, .int (2 : Int32)), (3, .int w178v), (2, .int (3 : Int32)), (1, .int (zhere M)), (0, .ref 336)]) (zml mf343 (by decide)) rfl (c := 2) (by decide) rfl ?_
          refine zs_goto (pc := 145) t343_145 ?_
          refine zs_iload (pc := 88) t343_88 rfl ?_
          refine zs_iload_n (pc := 90) t343_90 rfl ?_
          refine zs_icmp_gtF (pc := 91) t343_91 li2 li3 (by decide) ?_
          refine zs_aload_n (pc := 94) t343_94 rfl ?_
          refine zs_sipush (pc := 95) t343_95 (v := -9999) (by decide) ?_
          refine zs_sipush (pc := 98) t343_98 (v := 9999) (by decide) ?_
          have w207 : (zI (zsI w200M 362 (1 + 4 * w10n) (zI w189M 336 8)) 336 6).toInt = (zI w200M 336 6).toInt := (congrArg Int32.toInt ((zIo (by decide)).trans rfl)).trans rfl
          have w208 : (-9999 : Int32).toInt = (-9999) := lin9999
          have w209 : (9999 : Int32).toInt = 9999 := li9999
          have w210 : (zI (zsI w200M 362 (1 + 4 * w10n) (zI w189M 336 8)) 336 6).toInt = (zI w200M 336 6).toInt := (congrArg Int32.toInt ((zIo (by decide)).trans rfl)).trans rfl
          have w211 : (zI (zsI w200M 362 (1 + 4 * w10n) (zI w189M 336 8)) 336 5).toInt = (zI M 336 5).toInt := (congrArg Int32.toInt ((zIo (by decide)).trans ((w200F 336 5 rfl).trans ((w189F 336 5 rfl).trans ((zIoj (by decide)).trans ((zIo (by decide)).trans rfl)))))).trans rfl
          have w212 : (zI (zsI w200M 362 (1 + 4 * w10n) (zI w189M 336 8)) 336 7).toInt = (zI w200M 336 7).toInt := (congrArg Int32.toInt ((zIo (by decide)).trans rfl)).trans rfl
          have w213 : (zI (zsI w200M 362 (1 + 4 * w10n) (zI w189M 336 8)) 336 6).toInt = (zI w200M 336 6).toInt := (congrArg Int32.toInt ((zIo (by decide)).trans rfl)).trans rfl
          refine zs_invV (pc := 101) (k := 336) (as' := [.int (-9999 : Int32), .int (9999 : Int32)]) (st := []) t343_101 mf243 rfl rfl (Or.inl ⟨by decide, (zk1 (w200s.k fk_zMm_336))⟩) ⟨by decide, by decide, Nat.le_of_ble_eq_true rfl, Nat.le_of_ble_eq_true rfl⟩ (R243 w200s w206 (by omega) (by omega) (by omega) (zTm.mk x0 (fun j => ((zIo (by decide)).trans ((w200F 339 j rfl).trans ((w189F 339 j rfl).trans ((zIo (by decide)).trans (zIo (by decide))))))) ((zIo (by decide)).trans ((w200F 336 5 rfl).trans ((w189F 336 5 rfl).trans ((zIoj (by decide)).trans (zIo (by decide))))))) ?_) (fun _ _ q => q)
          intro w214M w214v w214s w214I w214F w214J w214t0 w214x0 w214a w214b
          have w215 := ib336_6 w214I
          show zGo X l 3 0 0 343 104 [(4, .int (2 : Int32)), (3, .int w178v), (2, .int (3 : Int32)), (1, .int (zhere M)), (0, .ref 336)] [.int w214v] w214M _
          rcases w214x0 (w191e + 1) (by omega) with ⟨w216v, w216e, w216x, w216_1, w216_2, w216_3, w216_4, w216_5, w216_6, w216_7, w216_8, w216_9, w216_10⟩ | ⟨w216v, w216_8, w216z⟩
          · skip
            have w216y := x0.rg w216e
            refine zs_if_eqF (pc := 104) t343_104 rfl (by omega) ?_
            refine zs_aload_n (pc := 107) t343_107 rfl ?_
            refine zs_iload (pc := 108) t343_108 rfl ?_
            refine zs_iload_n (pc := 110) t343_110 rfl ?_
            refine zs_icmp_neT (pc := 111) t343_111 li2 li3 (by decide) ?_
            refine zs_bipush (pc := 119) t343_119 (v := 44) (by decide) ?_
            have w217 : (zI w214M 336 6).toInt = (zI w214M 336 6).toInt := (congrArg Int32.toInt rfl).trans rfl
            have w218 : (44 : Int32).toInt = 44 := li44
            have w219 : (zI w214M 336 6).toInt = (zI w214M 336 6).toInt := (congrArg Int32.toInt rfl).trans rfl
            have w220 : (zI w214M 336 5).toInt = (zI M 336 5).toInt := (congrArg Int32.toInt ((w214F 336 5 rfl).trans ((zIo (by decide)).trans ((w200F 336 5 rfl).trans ((w189F 336 5 rfl).trans ((zIoj (by decide)).trans ((zIo (by decide)).trans rfl))))))).trans rfl
            have w221 := ib336_7 w214I
            have w222 : (zI w214M 336 7).toInt = (zI w214M 336 7).toInt := (congrArg Int32.toInt rfl).trans rfl
            have w223 : (zI w214M 336 6).toInt = (zI w214M 336 6).toInt := (congrArg Int32.toInt rfl).trans rfl
            have w224 : (zI w214M 336 7).toInt = (zI w214M 336 7).toInt := (congrArg Int32.toInt rfl).trans rfl
            refine zs_invV (pc := 121) (k := 336) (as' := [.int (44 : Int32)]) (st := []) t343_121 mf246 rfl rfl (Or.inl ⟨by decide, (zk1 (w214s.k fk_zMm_336))⟩) ⟨by decide, by decide, Nat.le_of_ble_eq_true rfl, Nat.le_of_ble_eq_true rfl⟩ (R246 w214s w214I ⟨by decide, by decide⟩ (by omega) (by omega) (by omega) (zTm.mk x0 (fun j => ((w214F 339 j rfl).trans ((zIo (by decide)).trans ((w200F 339 j rfl).trans ((w189F 339 j rfl).trans ((zIo (by decide)).trans (zIo (by decide)))))))) ((w214F 336 5 rfl).trans ((zIo (by decide)).trans ((w200F 336 5 rfl).trans ((w189F 336 5 rfl).trans ((zIoj (by decide)).trans (zIo (by decide)))))))) ?_) (fun _ _ q => q)
            intro w225M w225v w225s w225I w225F w225J w225t0 w225t1 w225x0 w225a w225b
            have w226 := ib336_6 w225I
            have w227 := ib336_7 w225I
            show zGo X l 3 0 0 343 124 [(4, .int (2 : Int32)), (3, .int w178v), (2, .int (3 : Int32)), (1, .int (zhere M)), (0, .ref 336)] [.int w225v] w225M _
            rw [show (44 : Int32).toInt = 44 by decide] at w225x0
            rcases w225x0 w216e (by omega) with ⟨w228v, w228_1, w228_2, w228_3, w228_4⟩ | ⟨w228v, w228_1, w228_4⟩
            · skip
              refine zs_if_neT (pc := 124) t343_124 rfl (by omega) ?_
              refine zs_aload_n (pc := 129) t343_129 rfl ?_
              refine zs_get (pc := 130) t343_130 (by decide) (zk1 (w225s.k fk_zMm_336)) (w225s.p rfl fv_zMm_336_46) ?_
              refine zs_iload_n (pc := 133) t343_133 rfl ?_
              refine zs_iload (pc := 134) t343_134 rfl ?_
              obtain ⟨w229v, w229e, w229⟩ := ziadd (a := w178v) (b := (2 : Int32)) w178g li2 (by omega) (by omega)
              refine zs_iadd (pc := 136) t343_136 (c := w229v) w229e ?_
              refine zs_aload_n (pc := 137) t343_137 rfl ?_
              have w230 := zrg (zI w214M 336 8)
              refine zs_get (pc := 138) t343_138 (by decide) (zk1 (w225s.k fk_zMm_336)) (zfvi rfl ((w225F 336 8 rfl).trans rfl)) ?_
              have w231 : zIv mLo mHi (zsI w225M 362 (2 + 4 * w10n) (zI w214M 336 8)) := zIv.put w225I (show (-2147483648) ≤ (zI w214M 336 8).toInt ∧ (zI w214M 336 8).toInt ≤ 2147483647 from zrg (zI w214M 336 8))
              refine zs_iast (pc := 141) t343_141 (j := (2 + 4 * w10n)) (by decide) (zk1 (w225s.k fk_zMm_362)) (show w229v.toInt = (((2 + 4 * w10n) : Nat) : Int) by omega) (zk2 (w225s.k fk_zMm_362) (by omega)) ?_
              refine zs_iinc (pc := 142) t343_142 (ls' := [(4, .int (3 : Int32)), (3, .int w178v), (2, .int (3 : Int32)), (1, .int (zhere M)), (0, .ref 336)]) (zml mf343 (by decide)) rfl (c := 3) (by decide) rfl ?_
              refine zs_goto (pc := 145) t343_145 ?_
              refine zs_iload (pc := 88) t343_88 rfl ?_
              refine zs_iload_n (pc := 90) t343_90 rfl ?_
              refine zs_icmp_gtF (pc := 91) t343_91 li3 li3 (by decide) ?_
              refine zs_aload_n (pc := 94) t343_94 rfl ?_
              refine zs_sipush (pc := 95) t343_95 (v := -9999) (by decide) ?_
              refine zs_sipush (pc := 98) t343_98 (v := 9999) (by decide) ?_
              have w232 : (zI (zsI w225M 362 (2 + 4 * w10n) (zI w214M 336 8)) 336 6).toInt = (zI w225M 336 6).toInt := (congrArg Int32.toInt ((zIo (by decide)).trans rfl)).trans rfl
              have w233 : (-9999 : Int32).toInt = (-9999) := lin9999
              have w234 : (9999 : Int32).toInt = 9999 := li9999
              have w235 : (zI (zsI w225M 362 (2 + 4 * w10n) (zI w214M 336 8)) 336 6).toInt = (zI w225M 336 6).toInt := (congrArg Int32.toInt ((zIo (by decide)).trans rfl)).trans rfl
              have w236 : (zI (zsI w225M 362 (2 + 4 * w10n) (zI w214M 336 8)) 336 5).toInt = (zI M 336 5).toInt := (congrArg Int32.toInt ((zIo (by decide)).trans ((w225F 336 5 rfl).trans ((w214F 336 5 rfl).trans ((zIo (by decide)).trans ((w200F 336 5 rfl).trans ((w189F 336 5 rfl).trans ((zIoj (by decide)).trans ((zIo (by decide)).trans rfl))))))))).trans rfl
              have w237 : (zI (zsI w225M 362 (2 + 4 * w10n) (zI w214M 336 8)) 336 7).toInt = (zI w225M 336 7).toInt := (congrArg Int32.toInt ((zIo (by decide)).trans rfl)).trans rfl
              have w238 : (zI (zsI w225M 362 (2 + 4 * w10n) (zI w214M 336 8)) 336 6).toInt = (zI w225M 336 6).toInt := (congrArg Int32.toInt ((zIo (by decide)).trans rfl)).trans rfl
              refine zs_invV (pc := 101) (k := 336) (as' := [.int (-9999 : Int32), .int (9999 : Int32)]) (st := []) t343_101 mf243 rfl rfl (Or.inl ⟨by decide, (zk1 (w225s.k fk_zMm_336))⟩) ⟨by decide, by decide, Nat.le_of_ble_eq_true rfl, Nat.le_of_ble_eq_true rfl⟩ (R243 w225s w231 (by omega) (by omega) (by omega) (zTm.mk x0 (fun j => ((zIo (by decide)).trans ((w225F 339 j rfl).trans ((w214F 339 j rfl).trans ((zIo (by decide)).trans ((w200F 339 j rfl).trans ((w189F 339 j rfl).trans ((zIo (by decide)).trans (zIo (by decide)))))))))) ((zIo (by decide)).trans ((w225F 336 5 rfl).trans ((w214F 336 5 rfl).trans ((zIo (by decide)).trans ((w200F 336 5 rfl).trans ((w189F 336 5 rfl).trans ((zIoj (by decide)).trans (zIo (by decide)))))))))) ?_) (fun _ _ q => q)
              intro w239M w239v w239s w239I w239F w239J w239t0 w239x0 w239a w239b
              have w240 := ib336_6 w239I
              show zGo X l 3 0 0 343 104 [(4, .int (3 : Int32)), (3, .int w178v), (2, .int (3 : Int32)), (1, .int (zhere M)), (0, .ref 336)] [.int w239v] w239M _
              rcases w239x0 (w216e + 1) (by omega) with ⟨w241v, w241e, w241x, w241_1, w241_2, w241_3, w241_4, w241_5, w241_6, w241_7, w241_8, w241_9, w241_10⟩ | ⟨w241v, w241_8, w241z⟩
              · skip
                have w241y := x0.rg w241e
                refine zs_if_eqF (pc := 104) t343_104 rfl (by omega) ?_
                refine zs_aload_n (pc := 107) t343_107 rfl ?_
                refine zs_iload (pc := 108) t343_108 rfl ?_
                refine zs_iload_n (pc := 110) t343_110 rfl ?_
                refine zs_icmp_neF (pc := 111) t343_111 li3 li3 (by decide) ?_
                refine zs_bipush (pc := 114) t343_114 (v := 59) (by decide) ?_
                refine zs_goto (pc := 116) t343_116 ?_
                have w242 : (zI w239M 336 6).toInt = (zI w239M 336 6).toInt := (congrArg Int32.toInt rfl).trans rfl
                have w243 : (59 : Int32).toInt = 59 := li59
                have w244 : (zI w239M 336 6).toInt = (zI w239M 336 6).toInt := (congrArg Int32.toInt rfl).trans rfl
                have w245 : (zI w239M 336 5).toInt = (zI M 336 5).toInt := (congrArg Int32.toInt ((w239F 336 5 rfl).trans ((zIo (by decide)).trans ((w225F 336 5 rfl).trans ((w214F 336 5 rfl).trans ((zIo (by decide)).trans ((w200F 336 5 rfl).trans ((w189F 336 5 rfl).trans ((zIoj (by decide)).trans ((zIo (by decide)).trans rfl)))))))))).trans rfl
                have w246 := ib336_7 w239I
                have w247 : (zI w239M 336 7).toInt = (zI w239M 336 7).toInt := (congrArg Int32.toInt rfl).trans rfl
                have w248 : (zI w239M 336 6).toInt = (zI w239M 336 6).toInt := (congrArg Int32.toInt rfl).trans rfl
                have w249 : (zI w239M 336 7).toInt = (zI w239M 336 7).toInt := (congrArg Int32.toInt rfl).trans rfl
                refine zs_invV (pc := 121) (k := 336) (as' := [.int (59 : Int32)]) (st := []) t343_121 mf246 rfl rfl (Or.inl ⟨by decide, (zk1 (w239s.k fk_zMm_336))⟩) ⟨by decide, by decide, Nat.le_of_ble_eq_true rfl, Nat.le_of_ble_eq_true rfl⟩ (R246 w239s w239I ⟨by decide, by decide⟩ (by omega) (by omega) (by omega) (zTm.mk x0 (fun j => ((w239F 339 j rfl).trans ((zIo (by decide)).trans ((w225F 339 j rfl).trans ((w214F 339 j rfl).trans ((zIo (by decide)).trans ((w200F 339 j rfl).trans ((w189F 339 j rfl).trans ((zIo (by decide)).trans (zIo (by decide))))))))))) ((w239F 336 5 rfl).trans ((zIo (by decide)).trans ((w225F 336 5 rfl).trans ((w214F 336 5 rfl).trans ((zIo (by decide)).trans ((w200F 336 5 rfl).trans ((w189F 336 5 rfl).trans ((zIoj (by decide)).trans (zIo (by decide))))))))))) ?_) (fun _ _ q => q)
                intro w250M w250v w250s w250I w250F w250J w250t0 w250t1 w250x0 w250a w250b
                have w251 := ib336_6 w250I
                have w252 := ib336_7 w250I
                show zGo X l 3 0 0 343 124 [(4, .int (3 : Int32)), (3, .int w178v), (2, .int (3 : Int32)), (1, .int (zhere M)), (0, .ref 336)] [.int w250v] w250M _
                rw [show (59 : Int32).toInt = 59 by decide] at w250x0
                rcases w250x0 w241e (by omega) with ⟨w253v, w253_1, w253_2, w253_3, w253_4⟩ | ⟨w253v, w253_1, w253_4⟩
                · skip
                  refine zs_if_neT (pc := 124) t343_124 rfl (by omega) ?_
                  refine zs_aload_n (pc := 129) t343_129 rfl ?_
                  refine zs_get (pc := 130) t343_130 (by decide) (zk1 (w250s.k fk_zMm_336)) (w250s.p rfl fv_zMm_336_46) ?_
                  refine zs_iload_n (pc := 133) t343_133 rfl ?_
                  refine zs_iload (pc := 134) t343_134 rfl ?_
                  obtain ⟨w254v, w254e, w254⟩ := ziadd (a := w178v) (b := (3 : Int32)) w178g li3 (by omega) (by omega)
                  refine zs_iadd (pc := 136) t343_136 (c := w254v) w254e ?_
                  refine zs_aload_n (pc := 137) t343_137 rfl ?_
                  have w255 := zrg (zI w239M 336 8)
                  refine zs_get (pc := 138) t343_138 (by decide) (zk1 (w250s.k fk_zMm_336)) (zfvi rfl ((w250F 336 8 rfl).trans rfl)) ?_
                  have w256 : zIv mLo mHi (zsI w250M 362 (3 + 4 * w10n) (zI w239M 336 8)) := zIv.put w250I (show (-2147483648) ≤ (zI w239M 336 8).toInt ∧ (zI w239M 336 8).toInt ≤ 2147483647 from zrg (zI w239M 336 8))
                  refine zs_iast (pc := 141) t343_141 (j := (3 + 4 * w10n)) (by decide) (zk1 (w250s.k fk_zMm_362)) (show w254v.toInt = (((3 + 4 * w10n) : Nat) : Int) by omega) (zk2 (w250s.k fk_zMm_362) (by omega)) ?_
                  refine zs_iinc (pc := 142) t343_142 (ls' := [(4, .int (4 : Int32)), (3, .int w178v), (2, .int (3 : Int32)), (1, .int (zhere M)), (0, .ref 336)]) (zml mf343 (by decide)) rfl (c := 4) (by decide) rfl ?_
                  refine zs_goto (pc := 145) t343_145 ?_
                  refine zs_iload (pc := 88) t343_88 rfl ?_
                  refine zs_iload_n (pc := 90) t343_90 rfl ?_
                  refine zs_icmp_gtT (pc := 91) t343_91 li4 li3 (by decide) ?_
                  refine zs_aload_n (pc := 148) t343_148 rfl ?_
                  refine zs_dup (pc := 149) t343_149 rfl ?_
                  refine zs_get (pc := 150) t343_150 (by decide) (zk1 (w250s.k fk_zMm_336)) (zfvi rfl ((zIo (by decide)).trans ((w250F 336 47 rfl).trans ((w239F 336 47 rfl).trans ((zIo (by decide)).trans ((w225F 336 47 rfl).trans ((w214F 336 47 rfl).trans ((zIo (by decide)).trans ((w200F 336 47 rfl).trans ((w189F 336 47 rfl).trans ((zIoj (by decide)).trans ((zIo (by decide)).trans rfl)))))))))))) ?_
                  refine zs_iconst (pc := 153) t343_153 (v := 1) (by decide) ?_
                  obtain ⟨w257v, w257e, w257⟩ := ziadd (a := (zI M 336 47)) (b := (1 : Int32)) rfl li1 (by omega) (by omega)
                  refine zs_iadd (pc := 154) t343_154 (c := w257v) w257e ?_
                  have w258 : zIv mLo mHi (zsI (zsI w250M 362 (3 + 4 * w10n) (zI w239M 336 8)) 336 47 w257v) := zIv.put w256 (show 0 ≤ w257v.toInt ∧ w257v.toInt ≤ 20 from ⟨by omega, by omega⟩)
                  refine zs_putI (pc := 155) t343_155 (zk1 (w250s.k fk_zMm_336)) rfl ?_
                  refine zs_iconst (pc := 158) t343_158 (v := 1) (by decide) ?_
                  have w259 : (1 : Int32).toInt = 1 := li1
                  have w260 : (zI (zsI (zsI w250M 362 (3 + 4 * w10n) (zI w239M 336 8)) 336 47 w257v) 336 6).toInt = (zI w250M 336 6).toInt := (congrArg Int32.toInt ((zIoj (by decide)).trans ((zIo (by decide)).trans rfl))).trans rfl
                  have w261 : (zI (zsI (zsI w250M 362 (3 + 4 * w10n) (zI w239M 336 8)) 336 47 w257v) 336 7).toInt = (zI w250M 336 7).toInt := (congrArg Int32.toInt ((zIoj (by decide)).trans ((zIo (by decide)).trans rfl))).trans rfl
                  have w262 : (zI (zsI (zsI w250M 362 (3 + 4 * w10n) (zI w239M 336 8)) 336 47 w257v) 336 47).toInt = ((zI M 336 47).toInt + 1) := (congrArg Int32.toInt zIs).trans w257
                  exact zs_iret (pc := 159) t343_159 mr343 (by decide) (hQ _ _ w250s w258 (((((((((((((zFr.refl).put rfl).put rfl).trans (w189F.mono rfl)).trans (w200F.mono rfl)).put rfl).trans (w214F.mono rfl)).trans (w225F.mono rfl)).put rfl).trans (w239F.mono rfl)).trans (w250F.mono rfl)).put rfl).put rfl) (w250J.trans (w239J.trans (w225J.trans (w214J.trans (w200J.trans w189J))))) ⟨(fun p k hp hk => by obtain rfl : w7n = p := (by omega); obtain rfl : w10n = k := (by omega); exact Or.inl ⟨by decide, by omega, w241e + 1, _, ((((pAc.h (by omega)).trans (pB.y (pRd.y w191_1 (by omega) (by omega) (by omega)))).trans (pB.y (pRd.y w216_1 (by omega) (by omega) (by omega)))).trans (pB.y (pRd.y w241_1 (by omega) (by omega) (by omega)))), by omega, by omega, by omega, by omega, by omega, ⟨(by rw [show 4 * w10n = (4 * w10n) by omega]; have z : (zI (zsI (zsI w250M 362 (3 + 4 * w10n) (zI w239M 336 8)) 336 47 w257v) 362 (4 * w10n)).toInt = (zhere M).toInt := ((congrArg Int32.toInt ((zIo (by decide)).trans ((zIoj (by omega)).trans ((w250F 362 (4 * w10n) rfl).trans ((w239F 362 (4 * w10n) rfl).trans ((zIoj (by omega)).trans ((w225F 362 (4 * w10n) rfl).trans ((w214F 362 (4 * w10n) rfl).trans ((zIoj (by omega)).trans ((w200F 362 (4 * w10n) rfl).trans ((w189F 362 (4 * w10n) rfl).trans ((zIo (by decide)).trans zIs)))))))))))).trans rfl); show (zI (zsI (zsI w250M 362 (3 + 4 * w10n) (zI w239M 336 8)) 336 47 w257v) 362 (4 * w10n)).toInt = 104; omega), (by rw [show 4 * w10n + 1 = (1 + 4 * w10n) by omega]; have z : (zI (zsI (zsI w250M 362 (3 + 4 * w10n) (zI w239M 336 8)) 336 47 w257v) 362 (1 + 4 * w10n)).toInt = (zI w189M 336 8).toInt := ((congrArg Int32.toInt ((zIo (by decide)).trans ((zIoj (by omega)).trans ((w250F 362 (1 + 4 * w10n) rfl).trans ((w239F 362 (1 + 4 * w10n) rfl).trans ((zIoj (by omega)).trans ((w225F 362 (1 + 4 * w10n) rfl).trans ((w214F 362 (1 + 4 * w10n) rfl).trans zIs)))))))).trans rfl); show (zI (zsI (zsI w250M 362 (3 + 4 * w10n) (zI w239M 336 8)) 336 47 w257v) 362 (1 + 4 * w10n)).toInt = w191x; omega), (fun _ => ⟨(by rw [show 4 * w10n + 2 = (2 + 4 * w10n) by omega]; have z : (zI (zsI (zsI w250M 362 (3 + 4 * w10n) (zI w239M 336 8)) 336 47 w257v) 362 (2 + 4 * w10n)).toInt = (zI w214M 336 8).toInt := ((congrArg Int32.toInt ((zIo (by decide)).trans ((zIoj (by omega)).trans ((w250F 362 (2 + 4 * w10n) rfl).trans ((w239F 362 (2 + 4 * w10n) rfl).trans zIs))))).trans rfl); show (zI (zsI (zsI w250M 362 (3 + 4 * w10n) (zI w239M 336 8)) 336 47 w257v) 362 (2 + 4 * w10n)).toInt = w216x; omega), (by rw [show 4 * w10n + 3 = (3 + 4 * w10n) by omega]; have z : (zI (zsI (zsI w250M 362 (3 + 4 * w10n) (zI w239M 336 8)) 336 47 w257v) 362 (3 + 4 * w10n)).toInt = (zI w239M 336 8).toInt := ((congrArg Int32.toInt ((zIo (by decide)).trans zIs)).trans rfl); show (zI (zsI (zsI w250M 362 (3 + 4 * w10n) (zI w239M 336 8)) 336 47 w257v) 362 (3 + 4 * w10n)).toInt = w241x; omega)⟩), (show (104 : Int) = 104 ∨ (104 : Int) = 120 ∨ (104 : Int) = 100 ∨ (104 : Int) = 110 by decide)⟩⟩), (fun j hj => ((zIo (by decide)).trans ((zIoj (by omega)).trans ((w250F 362 j rfl).trans ((w239F 362 j rfl).trans ((zIoj (by omega)).trans ((w225F 362 j rfl).trans ((w214F 362 j rfl).trans ((zIoj (by omega)).trans ((w200F 362 j rfl).trans ((w189F 362 j rfl).trans ((zIo (by decide)).trans (zIoj (by omega))))))))))))))⟩ (by decide) (by decide))
                · skip
                  refine zs_if_neF (pc := 124) t343_124 rfl (by omega) ?_
                  refine zs_iconst (pc := 127) t343_127 (v := 0) (by decide) ?_
                  have w263 : (0 : Int32).toInt = 0 := li0
                  have w264 : (zI w250M 336 6).toInt = (zI w250M 336 6).toInt := (congrArg Int32.toInt rfl).trans rfl
                  have w265 : (zI w250M 336 7).toInt = (zI w250M 336 7).toInt := (congrArg Int32.toInt rfl).trans rfl
                  have w266 : (zI w250M 336 47).toInt = (zI M 336 47).toInt := (congrArg Int32.toInt ((w250F 336 47 rfl).trans ((w239F 336 47 rfl).trans ((zIo (by decide)).trans ((w225F 336 47 rfl).trans ((w214F 336 47 rfl).trans ((zIo (by decide)).trans ((w200F 336 47 rfl).trans ((w189F 336 47 rfl).trans ((zIoj (by decide)).trans ((zIo (by decide)).trans rfl))))))))))).trans rfl
                  exact zs_iret (pc := 128) t343_128 mr343 (by decide) (hQ _ _ w250s w250I (((((((((((zFr.refl).put rfl).put rfl).trans (w189F.mono rfl)).trans (w200F.mono rfl)).put rfl).trans (w214F.mono rfl)).trans (w225F.mono rfl)).put rfl).trans (w239F.mono rfl)).trans (w250F.mono rfl)) (w250J.trans (w239J.trans (w225J.trans (w214J.trans (w200J.trans w189J))))) ⟨(fun p k hp hk => by obtain rfl : w7n = p := (by omega); obtain rfl : w10n = k := (by omega); exact Or.inr ⟨by decide, by omega, Or.inr ((((pAc.h (by omega)).trans (pB.y (pRd.y w191_1 (by omega) (by omega) (by omega)))).trans (pB.y (pRd.y w216_1 (by omega) (by omega) (by omega)))).trans (pB.f (pRd.n w241_1 (by omega))))⟩), (fun j hj => ((w250F 362 j rfl).trans ((w239F 362 j rfl).trans ((zIoj (by omega)).trans ((w225F 362 j rfl).trans ((w214F 362 j rfl).trans ((zIoj (by omega)).trans ((w200F 362 j rfl).trans ((w189F 362 j rfl).trans ((zIo (by decide)).trans (zIoj (by omega))))))))))))⟩ (by decide) (by decide))
              · skip
                rw [show (-9999 : Int32).toInt = -9999 by decide, show (9999 : Int32).toInt = 9999 by decide] at w241z
                refine zs_if_eqT (pc := 104) t343_104 rfl (by omega) ?_
                refine zs_iconst (pc := 127) t343_127 (v := 0) (by decide) ?_
                have w267 : (0 : Int32).toInt = 0 := li0
                have w268 : (zI w239M 336 6).toInt = (zI w239M 336 6).toInt := (congrArg Int32.toInt rfl).trans rfl
                have w269 := ib336_7 w239I
                have w270 : (zI w239M 336 7).toInt = (zI w239M 336 7).toInt := (congrArg Int32.toInt rfl).trans rfl
                have w271 : (zI w239M 336 47).toInt = (zI M 336 47).toInt := (congrArg Int32.toInt ((w239F 336 47 rfl).trans ((zIo (by decide)).trans ((w225F 336 47 rfl).trans ((w214F 336 47 rfl).trans ((zIo (by decide)).trans ((w200F 336 47 rfl).trans ((w189F 336 47 rfl).trans ((zIoj (by decide)).trans ((zIo (by decide)).trans rfl)))))))))).trans rfl
                exact zs_iret (pc := 128) t343_128 mr343 (by decide) (hQ _ _ w239s w239I ((((((((((zFr.refl).put rfl).put rfl).trans (w189F.mono rfl)).trans (w200F.mono rfl)).put rfl).trans (w214F.mono rfl)).trans (w225F.mono rfl)).put rfl).trans (w239F.mono rfl)) (w239J.trans (w225J.trans (w214J.trans (w200J.trans w189J)))) ⟨(fun p k hp hk => by obtain rfl : w7n = p := (by omega); obtain rfl : w10n = k := (by omega); exact Or.inr ⟨by decide, by omega, Or.inr ((((pAc.h (by omega)).trans (pB.y (pRd.y w191_1 (by omega) (by omega) (by omega)))).trans (pB.y (pRd.y w216_1 (by omega) (by omega) (by omega)))).trans (pB.f (by rcases w241z with q | ⟨e, x, q, q2⟩; exact pRd.f q; exact pRd.n q (by omega))))⟩), (fun j hj => ((w239F 362 j rfl).trans ((zIoj (by omega)).trans ((w225F 362 j rfl).trans ((w214F 362 j rfl).trans ((zIoj (by omega)).trans ((w200F 362 j rfl).trans ((w189F 362 j rfl).trans ((zIo (by decide)).trans (zIoj (by omega)))))))))))⟩ (by decide) (by decide))
            · skip
              refine zs_if_neF (pc := 124) t343_124 rfl (by omega) ?_
              refine zs_iconst (pc := 127) t343_127 (v := 0) (by decide) ?_
              have w272 : (0 : Int32).toInt = 0 := li0
              have w273 : (zI w225M 336 6).toInt = (zI w225M 336 6).toInt := (congrArg Int32.toInt rfl).trans rfl
              have w274 : (zI w225M 336 7).toInt = (zI w225M 336 7).toInt := (congrArg Int32.toInt rfl).trans rfl
              have w275 : (zI w225M 336 47).toInt = (zI M 336 47).toInt := (congrArg Int32.toInt ((w225F 336 47 rfl).trans ((w214F 336 47 rfl).trans ((zIo (by decide)).trans ((w200F 336 47 rfl).trans ((w189F 336 47 rfl).trans ((zIoj (by decide)).trans ((zIo (by decide)).trans rfl)))))))).trans rfl
              exact zs_iret (pc := 128) t343_128 mr343 (by decide) (hQ _ _ w225s w225I ((((((((zFr.refl).put rfl).put rfl).trans (w189F.mono rfl)).trans (w200F.mono rfl)).put rfl).trans (w214F.mono rfl)).trans (w225F.mono rfl)) (w225J.trans (w214J.trans (w200J.trans w189J))) ⟨(fun p k hp hk => by obtain rfl : w7n = p := (by omega); obtain rfl : w10n = k := (by omega); exact Or.inr ⟨by decide, by omega, Or.inr (((pAc.h (by omega)).trans (pB.y (pRd.y w191_1 (by omega) (by omega) (by omega)))).trans (pB.f (pRd.n w216_1 (by omega))))⟩), (fun j hj => ((w225F 362 j rfl).trans ((w214F 362 j rfl).trans ((zIoj (by omega)).trans ((w200F 362 j rfl).trans ((w189F 362 j rfl).trans ((zIo (by decide)).trans (zIoj (by omega)))))))))⟩ (by decide) (by decide))
          · skip
            rw [show (-9999 : Int32).toInt = -9999 by decide, show (9999 : Int32).toInt = 9999 by decide] at w216z
            refine zs_if_eqT (pc := 104) t343_104 rfl (by omega) ?_
            refine zs_iconst (pc := 127) t343_127 (v := 0) (by decide) ?_
            have w276 : (0 : Int32).toInt = 0 := li0
            have w277 : (zI w214M 336 6).toInt = (zI w214M 336 6).toInt := (congrArg Int32.toInt rfl).trans rfl
            have w278 := ib336_7 w214I
            have w279 : (zI w214M 336 7).toInt = (zI w214M 336 7).toInt := (congrArg Int32.toInt rfl).trans rfl
            have w280 : (zI w214M 336 47).toInt = (zI M 336 47).toInt := (congrArg Int32.toInt ((w214F 336 47 rfl).trans ((zIo (by decide)).trans ((w200F 336 47 rfl).trans ((w189F 336 47 rfl).trans ((zIoj (by decide)).trans ((zIo (by decide)).trans rfl))))))).trans rfl
            exact zs_iret (pc := 128) t343_128 mr343 (by decide) (hQ _ _ w214s w214I (((((((zFr.refl).put rfl).put rfl).trans (w189F.mono rfl)).trans (w200F.mono rfl)).put rfl).trans (w214F.mono rfl)) (w214J.trans (w200J.trans w189J)) ⟨(fun p k hp hk => by obtain rfl : w7n = p := (by omega); obtain rfl : w10n = k := (by omega); exact Or.inr ⟨by decide, by omega, Or.inr (((pAc.h (by omega)).trans (pB.y (pRd.y w191_1 (by omega) (by omega) (by omega)))).trans (pB.f (by rcases w216z with q | ⟨e, x, q, q2⟩; exact pRd.f q; exact pRd.n q (by omega))))⟩), (fun j hj => ((w214F 362 j rfl).trans ((zIoj (by omega)).trans ((w200F 362 j rfl).trans ((w189F 362 j rfl).trans ((zIo (by decide)).trans (zIoj (by omega))))))))⟩ (by decide) (by decide))
        · skip
          refine zs_if_neF (pc := 124) t343_124 rfl (by omega) ?_
          refine zs_iconst (pc := 127) t343_127 (v := 0) (by decide) ?_
          have w281 : (0 : Int32).toInt = 0 := li0
          have w282 : (zI w200M 336 6).toInt = (zI w200M 336 6).toInt := (congrArg Int32.toInt rfl).trans rfl
          have w283 : (zI w200M 336 7).toInt = (zI w200M 336 7).toInt := (congrArg Int32.toInt rfl).trans rfl
          have w284 : (zI w200M 336 47).toInt = (zI M 336 47).toInt := (congrArg Int32.toInt ((w200F 336 47 rfl).trans ((w189F 336 47 rfl).trans ((zIoj (by decide)).trans ((zIo (by decide)).trans rfl))))).trans rfl
          exact zs_iret (pc := 128) t343_128 mr343 (by decide) (hQ _ _ w200s w200I (((((zFr.refl).put rfl).put rfl).trans (w189F.mono rfl)).trans (w200F.mono rfl)) (w200J.trans w189J) ⟨(fun p k hp hk => by obtain rfl : w7n = p := (by omega); obtain rfl : w10n = k := (by omega); exact Or.inr ⟨by decide, by omega, Or.inr ((pAc.h (by omega)).trans (pB.f (pRd.n w191_1 (by omega))))⟩), (fun j hj => ((w200F 362 j rfl).trans ((w189F 362 j rfl).trans ((zIo (by decide)).trans (zIoj (by omega))))))⟩ (by decide) (by decide))
      · skip
        rw [show (-9999 : Int32).toInt = -9999 by decide, show (9999 : Int32).toInt = 9999 by decide] at w191z
        refine zs_if_eqT (pc := 104) t343_104 rfl (by omega) ?_
        refine zs_iconst (pc := 127) t343_127 (v := 0) (by decide) ?_
        have w285 : (0 : Int32).toInt = 0 := li0
        have w286 : (zI w189M 336 6).toInt = (zI w189M 336 6).toInt := (congrArg Int32.toInt rfl).trans rfl
        have w287 := ib336_7 w189I
        have w288 : (zI w189M 336 7).toInt = (zI w189M 336 7).toInt := (congrArg Int32.toInt rfl).trans rfl
        have w289 : (zI w189M 336 47).toInt = (zI M 336 47).toInt := (congrArg Int32.toInt ((w189F 336 47 rfl).trans ((zIoj (by decide)).trans ((zIo (by decide)).trans rfl)))).trans rfl
        exact zs_iret (pc := 128) t343_128 mr343 (by decide) (hQ _ _ w189s w189I ((((zFr.refl).put rfl).put rfl).trans (w189F.mono rfl)) w189J ⟨(fun p k hp hk => by obtain rfl : w7n = p := (by omega); obtain rfl : w10n = k := (by omega); exact Or.inr ⟨by decide, by omega, Or.inr ((pAc.h (by omega)).trans (pB.f (by rcases w191z with q | ⟨e, x, q, q2⟩; exact pRd.f q; exact pRd.n q (by omega))))⟩), (fun j hj => ((w189F 362 j rfl).trans ((zIo (by decide)).trans (zIoj (by omega)))))⟩ (by decide) (by decide))
    · refine zs_icmp_neF (pc := 49) t343_49 rfl li20 (by omega) ?_
      refine zs_aload_n (pc := 52) t343_52 rfl ?_
      refine zs_aload_n (pc := 53) t343_53 rfl ?_
      refine zs_get (pc := 54) t343_54 (by decide) (zk1 (hs.k fk_zMm_336)) (zfvi rfl rfl) ?_
      refine zs_invV (pc := 57) (k := 336) (as' := [.int (zI M 336 6)]) (st := []) t343_57 mf239 rfl rfl (Or.inl ⟨by decide, (zk1 (hs.k fk_zMm_336))⟩) ⟨by decide, by decide, Nat.le_of_ble_eq_true rfl, Nat.le_of_ble_eq_true rfl⟩ (zs_in (by decide) mf239 (Nat.le_of_ble_eq_true rfl) ?_) (fun _ _ q => q)
      show zGo X l 0 0 0 239 0 [(0, .ref 336), (1, .int (zI M 336 6))] [] M _
      refine zs_aload_n (pc := 0) t239_0 rfl ?_
      refine zs_iload_n (pc := 1) t239_1 rfl ?_
      have w290 : zIv mLo mHi (zsI M 336 7 (zI M 336 6)) := zIv.put hI (show (-1) ≤ (zI M 336 6).toInt ∧ (zI M 336 6).toInt ≤ 500 from ⟨by omega, by omega⟩)
      refine zs_putI (pc := 2) t239_2 (zk1 (hs.k fk_zMm_336)) rfl ?_
      refine zs_iconst (pc := 5) t239_5 (v := 0) (by decide) ?_
      refine zs_iret (pc := 6) t239_6 mr239 (by decide) ?_
      show zGo X l 3 0 0 343 60 [(2, .int (3 : Int32)), (1, .int (zhere M)), (0, .ref 336)] [.int (0 : Int32)] (zsI M 336 7 (zI M 336 6)) _
      have w291 : (0 : Int32).toInt = 0 := li0
      have w292 : (zI (zsI M 336 7 (zI M 336 6)) 336 6).toInt = (zI M 336 6).toInt := (congrArg Int32.toInt ((zIoj (by decide)).trans rfl)).trans rfl
      have w293 : (zI (zsI M 336 7 (zI M 336 6)) 336 7).toInt = (zI M 336 6).toInt := (congrArg Int32.toInt zIs).trans rfl
      have w294 : (zI (zsI M 336 7 (zI M 336 6)) 336 47).toInt = (zI M 336 47).toInt := (congrArg Int32.toInt ((zIoj (by decide)).trans rfl)).trans rfl
      exact zs_iret (pc := 60) t343_60 mr343 (by decide) (hQ _ _ hs w290 ((zFr.refl).put rfl) rfl ⟨(fun p k hp hk => by obtain rfl : w7n = p := (by omega); obtain rfl : w10n = k := (by omega); exact Or.inr ⟨by decide, by omega, by first | exact Or.inl (by omega) | exact Or.inr (pAc.no (by omega))⟩), (fun j hj => (zIo (by decide)))⟩ (by decide) (by decide))
theorem R344 {X : zX} {l : Launch} {M : zM} {Q : Option Value → zM → Prop} {a : Int32} (hs : zSk zMm M) (hI : zIv mLo mHi M) {F : Nat → Int} {H : Nat → Nat → Int} {n : Int} {K : Nat → Nat → Int} {T : Nat → Int} {A : aT} {i : Nat} (pR : zPR M) (pC : zPC M) (pF : zPF M) (ha : 0 ≤ a.toInt ∧ a.toInt ≤ 76) (x0 : zRw M 0 F) (x1 : zHM M H n) (x2 : zKM M K T) (x3 : zWF F) (x4 : zBt M 362 i A) (x5 : a.toInt = 4 * (i : Int)) (hQ : ∀ (M' : zM) (v : Int32), zSk zMm M' → zIv mLo mHi M' → zFr [(337, 337, none), (336, 336, some 1), (336, 336, some 3)] M M' → zJ M' 351 = zJ M 351 → zPR M' → zPC M' → zPF M' → ((zI M' 336 3).toInt = 0 ∨ (v.toInt = -1 ∧ (zI M' 336 3).toInt = (zI M 336 3).toInt)) → ((v.toInt = -1 ∧ aDo A F = none ∧ zSM M' F H n K T) ∨ (v.toInt ≠ -1 ∧ ∃ G, aDo A F = some G ∧ zSM M' G (pushH F H) (nP n) K T)) → Q (some (.int v)) M') : zCall X l 4 0 0 344 [.ref 336, .int a] M Q := by
  have ga := zrg a
  refine zs_in (by decide) mf344 (Nat.le_of_ble_eq_true rfl) ?_
  show zGo X l 4 0 0 344 0 [(0, .ref 336), (1, .int a)] [] M _
  have f1 := x3.1
  have f3 := x3.2.2.2
  have w1 := ibA0 hI
  have w2 : (zI M 337 0).toInt = (zI M 337 0).toInt := (congrArg Int32.toInt rfl).trans rfl
  have e0 : (zI M 337 0).toInt = F 0 := x0.at (by decide) (by decide) (by decide)
  have w3 := ibA1 hI
  have w4 : (zI M 337 1).toInt = (zI M 337 1).toInt := (congrArg Int32.toInt rfl).trans rfl
  have e1 : (zI M 337 1).toInt = F 1 := x0.at (by decide) (by decide) (by decide)
  have w5 := ibA2 hI
  have w6 : (zI M 337 2).toInt = (zI M 337 2).toInt := (congrArg Int32.toInt rfl).trans rfl
  have e2 : (zI M 337 2).toInt = F 2 := x0.at (by decide) (by decide) (by decide)
  obtain ⟨L, y0, y1, y2⟩ := A
  have yl : (zI M 362 (4 * i)).toInt = L := x4.1
  have y160 : (zI M 362 (4 * i + 1)).toInt = y0 := x4.2.1
  have y161 : L = 104 → (zI M 362 (4 * i + 2)).toInt = y1 ∧ (zI M 362 (4 * i + 3)).toInt = y2 := x4.2.2.1
  have yc : L = 104 ∨ L = 120 ∨ L = 100 ∨ L = 110 := x4.2.2.2
  refine zs_aload_n (pc := 0) t344_0 rfl ?_
  refine zs_get (pc := 1) t344_1 (by decide) (zk1 (hs.k fk_zMm_336)) (hs.p rfl fv_zMm_336_46) ?_
  refine zs_iload_n (pc := 4) t344_4 rfl ?_
  obtain ⟨w7n, w7⟩ : ∃ n : Nat, a.toInt = (n : Int) := ⟨(a.toInt).toNat, by omega⟩
  have w8 := zrg (zI M 362 w7n)
  have w9 : (zI M 362 w7n).toInt = L := by rw [show w7n = 4 * i by omega]; exact yl
  refine zs_iald (pc := 5) t344_5 (j := w7n) (by decide) (zk1 (hs.k fk_zMm_362)) (show a.toInt = ((w7n : Nat) : Int) by omega) (zk2 (hs.k fk_zMm_362) (by omega)) rfl ?_
  by_cases w10 : (zI M 362 w7n).toInt = 100
  · refine zs_lsw (pc := 6) t344_6 (off := 76) ((rfl : (zI M 362 w7n).toInt = (zI M 362 w7n).toInt).trans w10) rfl (pc2 := 82) rfl ?_
    refine zs_aload_n (pc := 82) t344_82 rfl ?_
    refine zs_aload_n (pc := 83) t344_83 rfl ?_
    refine zs_get (pc := 84) t344_84 (by decide) (zk1 (hs.k fk_zMm_336)) (hs.p rfl fv_zMm_336_46) ?_
    refine zs_iload_n (pc := 87) t344_87 rfl ?_
    refine zs_iconst (pc := 88) t344_88 (v := 1) (by decide) ?_
    obtain ⟨w11v, w11e, w11⟩ := ziadd (a := a) (b := (1 : Int32)) rfl li1 (by omega) (by omega)
    refine zs_iadd (pc := 89) t344_89 (c := w11v) w11e ?_
    have w12 := zrg (zI M 362 (1 + w7n))
    have w13 : (zI M 362 (1 + w7n)).toInt = y0 := by rw [show (1 + w7n) = 4 * i + 1 by omega]; exact y160
    refine zs_iald (pc := 90) t344_90 (j := (1 + w7n)) (by decide) (zk1 (hs.k fk_zMm_362)) (show w11v.toInt = (((1 + w7n) : Nat) : Int) by omega) (zk2 (hs.k fk_zMm_362) (by omega)) rfl ?_
    have w14 := ib336_3 hI
    have w15 : (zI M 336 3).toInt = (zI M 336 3).toInt := (congrArg Int32.toInt rfl).trans rfl
    refine zs_invV (pc := 91) (k := 336) (as' := [.int (zI M 362 (1 + w7n))]) (st := []) t344_91 mf333 rfl rfl (Or.inl ⟨by decide, (zk1 (hs.k fk_zMm_336))⟩) ⟨by decide, by decide, Nat.le_of_ble_eq_true rfl, Nat.le_of_ble_eq_true rfl⟩ (R333 hs hI pR pC pF x0 x1 x2 x3 ?_) (fun _ _ q => q)
    intro w16M w16v w16s w16I w16F w16J w16PR w16PC w16PF w16t0 w16x0
    have w16g := zrg w16v
    have w17 := ib336_3 w16I
    show zGo X l 4 0 0 344 94 [(0, .ref 336), (1, .int a)] [.int w16v] w16M _
    have w18 : (zI w16M 336 3).toInt = (zI w16M 336 3).toInt := (congrArg Int32.toInt rfl).trans rfl
    have w19 := w16x0
    rw [show (zI M 362 (1 + w7n)).toInt = y0 by omega] at w19
    exact zs_iret (pc := 94) t344_94 mr344 rfl (hQ _ _ w16s w16I ((zFr.refl).trans (w16F.mono rfl)) w16J w16PR w16PC w16PF (by omega) (by
        rcases w19 with ⟨q1, q2, q3⟩ | ⟨q1, q2, q3, q4⟩
        · exact Or.inl ⟨by omega, aDo.dn (by omega) (by omega), q3⟩
        · exact Or.inr ⟨by have z := (x3.2.1 y0.toNat (by omega)).2.2; omega, _, aDo.dy (by omega) ⟨q1, q2⟩, (by rw [q3] at q4; exact q4)⟩))
  by_cases w20 : (zI M 362 w7n).toInt = 104
  · refine zs_lsw (pc := 6) t344_6 (off := 34) ((rfl : (zI M 362 w7n).toInt = (zI M 362 w7n).toInt).trans w20) rfl (pc2 := 40) rfl ?_
    refine zs_aload_n (pc := 40) t344_40 rfl ?_
    refine zs_aload_n (pc := 41) t344_41 rfl ?_
    refine zs_get (pc := 42) t344_42 (by decide) (zk1 (hs.k fk_zMm_336)) (hs.p rfl fv_zMm_336_46) ?_
    refine zs_iload_n (pc := 45) t344_45 rfl ?_
    refine zs_iconst (pc := 46) t344_46 (v := 1) (by decide) ?_
    obtain ⟨w21v, w21e, w21⟩ := ziadd (a := a) (b := (1 : Int32)) rfl li1 (by omega) (by omega)
    refine zs_iadd (pc := 47) t344_47 (c := w21v) w21e ?_
    have w22 := zrg (zI M 362 (1 + w7n))
    have w23 : (zI M 362 (1 + w7n)).toInt = y0 := by rw [show (1 + w7n) = 4 * i + 1 by omega]; exact y160
    refine zs_iald (pc := 48) t344_48 (j := (1 + w7n)) (by decide) (zk1 (hs.k fk_zMm_362)) (show w21v.toInt = (((1 + w7n) : Nat) : Int) by omega) (zk2 (hs.k fk_zMm_362) (by omega)) rfl ?_
    refine zs_aload_n (pc := 49) t344_49 rfl ?_
    refine zs_get (pc := 50) t344_50 (by decide) (zk1 (hs.k fk_zMm_336)) (hs.p rfl fv_zMm_336_46) ?_
    refine zs_iload_n (pc := 53) t344_53 rfl ?_
    refine zs_iconst (pc := 54) t344_54 (v := 2) (by decide) ?_
    obtain ⟨w24v, w24e, w24⟩ := ziadd (a := a) (b := (2 : Int32)) rfl li2 (by omega) (by omega)
    refine zs_iadd (pc := 55) t344_55 (c := w24v) w24e ?_
    have w25 := zrg (zI M 362 (2 + w7n))
    have w26 : L = 104 → (zI M 362 (2 + w7n)).toInt = y1 := fun q => by rw [show (2 + w7n) = 4 * i + 2 by omega]; exact (y161 q).1
    refine zs_iald (pc := 56) t344_56 (j := (2 + w7n)) (by decide) (zk1 (hs.k fk_zMm_362)) (show w24v.toInt = (((2 + w7n) : Nat) : Int) by omega) (zk2 (hs.k fk_zMm_362) (by omega)) rfl ?_
    refine zs_aload_n (pc := 57) t344_57 rfl ?_
    refine zs_get (pc := 58) t344_58 (by decide) (zk1 (hs.k fk_zMm_336)) (hs.p rfl fv_zMm_336_46) ?_
    refine zs_iload_n (pc := 61) t344_61 rfl ?_
    refine zs_iconst (pc := 62) t344_62 (v := 3) (by decide) ?_
    obtain ⟨w27v, w27e, w27⟩ := ziadd (a := a) (b := (3 : Int32)) rfl li3 (by omega) (by omega)
    refine zs_iadd (pc := 63) t344_63 (c := w27v) w27e ?_
    have w28 := zrg (zI M 362 (3 + w7n))
    have w29 : L = 104 → (zI M 362 (3 + w7n)).toInt = y2 := fun q => by rw [show (3 + w7n) = 4 * i + 3 by omega]; exact (y161 q).2
    refine zs_iald (pc := 64) t344_64 (j := (3 + w7n)) (by decide) (zk1 (hs.k fk_zMm_362)) (show w27v.toInt = (((3 + w7n) : Nat) : Int) by omega) (zk2 (hs.k fk_zMm_362) (by omega)) rfl ?_
    have w30 := ib336_3 hI
    have w31 : (zI M 336 3).toInt = (zI M 336 3).toInt := (congrArg Int32.toInt rfl).trans rfl
    refine zs_invV (pc := 65) (k := 336) (as' := [.int (zI M 362 (1 + w7n)), .int (zI M 362 (2 + w7n)), .int (zI M 362 (3 + w7n))]) (st := []) t344_65 mf331 rfl rfl (Or.inl ⟨by decide, (zk1 (hs.k fk_zMm_336))⟩) ⟨by decide, by decide, Nat.le_of_ble_eq_true rfl, Nat.le_of_ble_eq_true rfl⟩ (R331 hs hI pR pC pF x0 x1 x2 x3 ?_) (fun _ _ q => q)
    intro w32M w32v w32s w32I w32F w32J w32PR w32PC w32PF w32t0 w32x0
    have w32g := zrg w32v
    have w33 := ib336_3 w32I
    show zGo X l 4 0 0 344 68 [(0, .ref 336), (1, .int a)] [.int w32v] w32M _
    have w34 : (zI w32M 336 3).toInt = (zI w32M 336 3).toInt := (congrArg Int32.toInt rfl).trans rfl
    have w35 := w32x0
    rw [show (zI M 362 (1 + w7n)).toInt = y0 by omega, show (zI M 362 (2 + w7n)).toInt = y1 by omega, show (zI M 362 (3 + w7n)).toInt = y2 by omega] at w35
    exact zs_iret (pc := 68) t344_68 mr344 rfl (hQ _ _ w32s w32I ((zFr.refl).trans (w32F.mono rfl)) w32J w32PR w32PC w32PF (by omega) (by
        rcases w35 with ⟨q1, q2, q3⟩ | ⟨q1, q2, q3⟩
        · exact Or.inl ⟨by omega, aDo.hn (by omega) (by omega), q3⟩
        · exact Or.inr ⟨by omega, _, aDo.hy (by omega) q1, q3⟩))
  by_cases w36 : (zI M 362 w7n).toInt = 120
  · refine zs_lsw (pc := 6) t344_6 (off := 63) ((rfl : (zI M 362 w7n).toInt = (zI M 362 w7n).toInt).trans w36) rfl (pc2 := 69) rfl ?_
    refine zs_aload_n (pc := 69) t344_69 rfl ?_
    refine zs_aload_n (pc := 70) t344_70 rfl ?_
    refine zs_get (pc := 71) t344_71 (by decide) (zk1 (hs.k fk_zMm_336)) (hs.p rfl fv_zMm_336_46) ?_
    refine zs_iload_n (pc := 74) t344_74 rfl ?_
    refine zs_iconst (pc := 75) t344_75 (v := 1) (by decide) ?_
    obtain ⟨w37v, w37e, w37⟩ := ziadd (a := a) (b := (1 : Int32)) rfl li1 (by omega) (by omega)
    refine zs_iadd (pc := 76) t344_76 (c := w37v) w37e ?_
    have w38 := zrg (zI M 362 (1 + w7n))
    have w39 : (zI M 362 (1 + w7n)).toInt = y0 := by rw [show (1 + w7n) = 4 * i + 1 by omega]; exact y160
    refine zs_iald (pc := 77) t344_77 (j := (1 + w7n)) (by decide) (zk1 (hs.k fk_zMm_362)) (show w37v.toInt = (((1 + w7n) : Nat) : Int) by omega) (zk2 (hs.k fk_zMm_362) (by omega)) rfl ?_
    have w40 := ib336_3 hI
    have w41 : (zI M 336 3).toInt = (zI M 336 3).toInt := (congrArg Int32.toInt rfl).trans rfl
    refine zs_invV (pc := 78) (k := 336) (as' := [.int (zI M 362 (1 + w7n))]) (st := []) t344_78 mf332 rfl rfl (Or.inl ⟨by decide, (zk1 (hs.k fk_zMm_336))⟩) ⟨by decide, by decide, Nat.le_of_ble_eq_true rfl, Nat.le_of_ble_eq_true rfl⟩ (R332 hs hI pR pC pF x0 x1 x2 x3 ?_) (fun _ _ q => q)
    intro w42M w42v w42s w42I w42F w42J w42PR w42PC w42PF w42t0 w42x0
    have w42g := zrg w42v
    have w43 := ib336_3 w42I
    show zGo X l 4 0 0 344 81 [(0, .ref 336), (1, .int a)] [.int w42v] w42M _
    have w44 : (zI w42M 336 3).toInt = (zI w42M 336 3).toInt := (congrArg Int32.toInt rfl).trans rfl
    have w45 := w42x0
    rw [show (zI M 362 (1 + w7n)).toInt = y0 by omega] at w45
    exact zs_iret (pc := 81) t344_81 mr344 rfl (hQ _ _ w42s w42I ((zFr.refl).trans (w42F.mono rfl)) w42J w42PR w42PC w42PF (by omega) (by
        rcases w45 with ⟨q1, q2, q3⟩ | ⟨q1, q2, q3, q4, q5⟩
        · exact Or.inl ⟨by omega, aDo.xn (by omega) (by omega), q3⟩
        · exact Or.inr ⟨by have z := pct.nn (P := zctb (uS F (32 + 4 * y0.toNat) (-1))) ((uS F (32 + 4 * y0.toNat) (-1)) 1).toNat; omega, _, aDo.xy (by omega) ⟨q1, q2, q3⟩, q5⟩))
  refine zs_lsw (pc := 6) t344_6 (off := 89) rfl (by unfold zlsel; repeat (first | rfl | (rw [if_neg (by omega)]; unfold zlsel))) (pc2 := 95) rfl ?_
  refine zs_aload_n (pc := 95) t344_95 rfl ?_
  refine zs_aload_n (pc := 96) t344_96 rfl ?_
  refine zs_get (pc := 97) t344_97 (by decide) (zk1 (hs.k fk_zMm_336)) (hs.p rfl fv_zMm_336_46) ?_
  refine zs_iload_n (pc := 100) t344_100 rfl ?_
  refine zs_iconst (pc := 101) t344_101 (v := 1) (by decide) ?_
  obtain ⟨w46v, w46e, w46⟩ := ziadd (a := a) (b := (1 : Int32)) rfl li1 (by omega) (by omega)
  refine zs_iadd (pc := 102) t344_102 (c := w46v) w46e ?_
  have w47 := zrg (zI M 362 (1 + w7n))
  have w48 : (zI M 362 (1 + w7n)).toInt = y0 := by rw [show (1 + w7n) = 4 * i + 1 by omega]; exact y160
  refine zs_iald (pc := 103) t344_103 (j := (1 + w7n)) (by decide) (zk1 (hs.k fk_zMm_362)) (show w46v.toInt = (((1 + w7n) : Nat) : Int) by omega) (zk2 (hs.k fk_zMm_362) (by omega)) rfl ?_
  have w49 := ib336_3 hI
  have w50 : (zI M 336 3).toInt = (zI M 336 3).toInt := (congrArg Int32.toInt rfl).trans rfl
  refine zs_invV (pc := 104) (k := 336) (as' := [.int (zI M 362 (1 + w7n))]) (st := []) t344_104 mf334 rfl rfl (Or.inl ⟨by decide, (zk1 (hs.k fk_zMm_336))⟩) ⟨by decide, by decide, Nat.le_of_ble_eq_true rfl, Nat.le_of_ble_eq_true rfl⟩ (R334 hs hI pR pC pF x0 x1 x2 x3 ?_) (fun _ _ q => q)
  intro w51M w51v w51s w51I w51F w51J w51PR w51PC w51PF w51t0 w51x0
  have w51g := zrg w51v
  have w52 := ib336_3 w51I
  show zGo X l 4 0 0 344 107 [(0, .ref 336), (1, .int a)] [.int w51v] w51M _
  have w53 : (zI w51M 336 3).toInt = (zI w51M 336 3).toInt := (congrArg Int32.toInt rfl).trans rfl
  have w54 := w51x0
  rw [show (zI M 362 (1 + w7n)).toInt = y0 by omega] at w54
  exact zs_iret (pc := 107) t344_107 mr344 rfl (hQ _ _ w51s w51I ((zFr.refl).trans (w51F.mono rfl)) w51J w51PR w51PC w51PF (by omega) (by
      rcases w54 with ⟨q1, q2, q3⟩ | ⟨q1, q2, q3, q4⟩
      · exact Or.inl ⟨by omega, aDo.nn (by omega) (by omega), q3⟩
      · exact Or.inr ⟨by omega, _, aDo.ny (by omega) ⟨q1, q2⟩, q4⟩))
