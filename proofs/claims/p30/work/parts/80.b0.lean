theorem R343 {X : zX} {l : Launch} {M : zM} {Q : Option Value → zM → Prop} (hs : zSk zMm M) (hI : zIv mLo mHi M) {gg : Nat → Int} {nn : Int} (u0 : (zI M 336 7).toInt = -1) (u1 : (zI M 336 6).toInt < (zI M 336 5).toInt) (u2 : 0 ≤ (zI M 336 6).toInt) (u3 : (zI M 336 47).toInt ≤ 20) (x0 : zTm M gg nn) (hQ : ∀ (M' : zM) (v : Int32), zSk zMm M' → zIv mLo mHi M' → zFr [(336, 336, some 6), (336, 336, some 7), (336, 336, some 8), (362, 362, none), (336, 336, some 47)] M M' → zJ M' 351 = zJ M 351 → ((∀ p k : Nat, (zI M 336 6).toInt = (p : Int) → (zI M 336 47).toInt = (k : Int) → (v.toInt = 1 ∧ k ≠ 20 ∧ ∃ (q : Nat) (A : aT), pAc gg p = some (q, A) ∧ (zI M' 336 6).toInt = (q : Int) ∧ p < q ∧ (q : Int) ≤ nn ∧ (zI M' 336 7).toInt = -1 ∧ (zI M' 336 47).toInt = (k : Int) + 1 ∧ zBt M' 362 k A) ∨ (v.toInt = 0 ∧ (zI M' 336 7).toInt ≠ -1 ∧ (k = 20 ∨ pAc gg p = none))) ∧ (∀ j : Nat, (j : Int) < 4 * (zI M 336 47).toInt → zI M' 362 j = zI M 362 j)) → 0 ≤ v.toInt → v.toInt ≤ 1 → Q (some (.int v)) M') : zCall X l 3 0 0 343 [.ref 336] M Q := by
  refine zs_in (by decide) mf343 (Nat.le_of_ble_eq_true rfl) ?_
  show zGo X l 3 0 0 343 0 [(0, .ref 336)] [] M _
  have hn := x0.2
  have w1 := ib336_5 hI
  have w2 : (zI M 336 5).toInt = (zI M 336 5).toInt := (congrArg Int32.toInt rfl).trans rfl
  have w3 := ib336_6 hI
  have w4 : (zI M 336 6).toInt = (zI M 336 6).toInt := (congrArg Int32.toInt rfl).trans rfl
  have w5 := ib336_7 hI
  have w6 : (zI M 336 7).toInt = (zI M 336 7).toInt := (congrArg Int32.toInt rfl).trans rfl
  obtain ⟨w7n, w7⟩ : ∃ n : Nat, (zI M 336 6).toInt = (n : Int) := ⟨((zI M 336 6).toInt).toNat, by omega⟩
  have w8 := ib336_47 hI
  have w9 : (zI M 336 47).toInt = (zI M 336 47).toInt := (congrArg Int32.toInt rfl).trans rfl
  obtain ⟨w10n, w10⟩ : ∃ n : Nat, (zI M 336 47).toInt = (n : Int) := ⟨((zI M 336 47).toInt).toNat, by omega⟩
  refine zs_aload_n (pc := 0) t343_0 rfl ?_
  refine zs_invV (pc := 1) (k := 336) (as' := []) (st := []) t343_1 mf238 rfl rfl (Or.inl ⟨by decide, (zk1 (hs.k fk_zMm_336))⟩) ⟨by decide, by decide, Nat.le_of_ble_eq_true rfl, Nat.le_of_ble_eq_true rfl⟩ (H238 hs hI ?_) (fun _ _ q => q)
  have w11 := zhere.rg (M := M)
  have w12 : (zI M 336 6).toInt = (zI M 336 6).toInt := (congrArg Int32.toInt rfl).trans rfl
  have w13 : (zI M 336 5).toInt = (zI M 336 5).toInt := (congrArg Int32.toInt rfl).trans rfl
  have w14 : (zI M 336 6).toInt = (zI M 336 6).toInt := (congrArg Int32.toInt rfl).trans rfl
  have w15 : (zI M 336 5).toInt = (zI M 336 5).toInt := (congrArg Int32.toInt rfl).trans rfl
  have w16 : (zhere M).toInt = gg w7n := zhere.tr x0 (by omega)
  have w17 := zTm.rg x0 w7n
  show zGo X l 3 0 0 343 4 [(0, .ref 336)] [.int (zhere M)] M _
  refine zs_istore_n (pc := 4) t343_4 (ls' := [(1, .int (zhere M)), (0, .ref 336)]) (zml mf343 (by decide)) rfl ?_
  refine zs_iload_n (pc := 5) t343_5 rfl ?_
  refine zs_bipush (pc := 6) t343_6 (v := 104) (by decide) ?_
  by_cases w18 : (zhere M).toInt ≠ 104
  · refine zs_icmp_neT (pc := 8) t343_8 rfl li104 (by omega) ?_
    refine zs_iload_n (pc := 15) t343_15 rfl ?_
    refine zs_bipush (pc := 16) t343_16 (v := 120) (by decide) ?_
    by_cases w19 : (zhere M).toInt = 120
    · refine zs_icmp_eqT (pc := 18) t343_18 rfl li120 (by omega) ?_
      refine zs_iconst (pc := 33) t343_33 (v := 1) (by decide) ?_
      refine zs_goto (pc := 34) t343_34 ?_
      refine zs_istore_n (pc := 38) t343_38 (ls' := [(2, .int (1 : Int32)), (1, .int (zhere M)), (0, .ref 336)]) (zml mf343 (by decide)) rfl ?_
      refine zs_iload_n (pc := 39) t343_39 rfl ?_
      refine zs_if_eqF (pc := 40) t343_40 li1 (by decide) ?_
      refine zs_aload_n (pc := 43) t343_43 rfl ?_
      refine zs_get (pc := 44) t343_44 (by decide) (zk1 (hs.k fk_zMm_336)) (zfvi rfl rfl) ?_
      refine zs_bipush (pc := 47) t343_47 (v := 20) (by decide) ?_
      by_cases w20 : (zI M 336 47).toInt ≠ 20
      · refine zs_icmp_neT (pc := 49) t343_49 rfl li20 (by omega) ?_
        refine zs_iconst (pc := 61) t343_61 (v := 4) (by decide) ?_
        refine zs_aload_n (pc := 62) t343_62 rfl ?_
        refine zs_get (pc := 63) t343_63 (by decide) (zk1 (hs.k fk_zMm_336)) (zfvi rfl rfl) ?_
        obtain ⟨w21v, w21⟩ : ∃ v, (4 : Int32) * (zI M 336 47) = v := ⟨_, rfl⟩
        have w21g : w21v.toInt = 4 * (zI M 336 47).toInt := by rw [← w21]; exact zmulc li4 rfl (by omega) (by omega)
        refine zs_imul (pc := 66) t343_66 (c := w21v) w21 ?_
        refine zs_istore_n (pc := 67) t343_67 (ls' := [(3, .int w21v), (2, .int (1 : Int32)), (1, .int (zhere M)), (0, .ref 336)]) (zml mf343 (by decide)) rfl ?_
        refine zs_aload_n (pc := 68) t343_68 rfl ?_
        refine zs_get (pc := 69) t343_69 (by decide) (zk1 (hs.k fk_zMm_336)) (hs.p rfl fv_zMm_336_46) ?_
        refine zs_iload_n (pc := 72) t343_72 rfl ?_
        refine zs_iload_n (pc := 73) t343_73 rfl ?_
        have w22 : zIv mLo mHi (zsI M 362 (4 * w10n) (zhere M)) := zIv.put hI (show (-2147483648) ≤ (zhere M).toInt ∧ (zhere M).toInt ≤ 2147483647 from zrg (zhere M))
        refine zs_iast (pc := 74) t343_74 (j := (4 * w10n)) (by decide) (zk1 (hs.k fk_zMm_362)) (show w21v.toInt = (((4 * w10n) : Nat) : Int) by omega) (zk2 (hs.k fk_zMm_362) (by omega)) ?_
        refine zs_aload_n (pc := 75) t343_75 rfl ?_
        refine zs_dup (pc := 76) t343_76 rfl ?_
        refine zs_get (pc := 77) t343_77 (by decide) (zk1 (hs.k fk_zMm_336)) (zfvi rfl ((zIo (by decide)).trans rfl)) ?_
        refine zs_iconst (pc := 80) t343_80 (v := 1) (by decide) ?_
        obtain ⟨w23v, w23e, w23⟩ := ziadd (a := (zI M 336 6)) (b := (1 : Int32)) rfl li1 (by omega) (by omega)
        refine zs_iadd (pc := 81) t343_81 (c := w23v) w23e ?_
        have w24 : zIv mLo mHi (zsI (zsI M 362 (4 * w10n) (zhere M)) 336 6 w23v) := zIv.put w22 (show 0 ≤ w23v.toInt ∧ w23v.toInt ≤ 500 from ⟨by omega, by omega⟩)
        refine zs_putI (pc := 82) t343_82 (zk1 (hs.k fk_zMm_336)) rfl ?_
        refine zs_iconst (pc := 85) t343_85 (v := 1) (by decide) ?_
        refine zs_istore (pc := 86) t343_86 (ls' := [(4, .int (1 : Int32)), (3, .int w21v), (2, .int (1 : Int32)), (1, .int (zhere M)), (0, .ref 336)]) (zml mf343 (by decide)) rfl ?_
        refine zs_iload (pc := 88) t343_88 rfl ?_
        refine zs_iload_n (pc := 90) t343_90 rfl ?_
        refine zs_icmp_gtF (pc := 91) t343_91 li1 li1 (by decide) ?_
        refine zs_aload_n (pc := 94) t343_94 rfl ?_
        refine zs_sipush (pc := 95) t343_95 (v := -9999) (by decide) ?_
        refine zs_sipush (pc := 98) t343_98 (v := 9999) (by decide) ?_
        have w25 : (zI (zsI (zsI M 362 (4 * w10n) (zhere M)) 336 6 w23v) 336 6).toInt = ((zI M 336 6).toInt + 1) := (congrArg Int32.toInt zIs).trans w23
        have w26 : (-9999 : Int32).toInt = (-9999) := lin9999
        have w27 : (9999 : Int32).toInt = 9999 := li9999
        have w28 : (zI (zsI (zsI M 362 (4 * w10n) (zhere M)) 336 6 w23v) 336 5).toInt = (zI M 336 5).toInt := (congrArg Int32.toInt ((zIoj (by decide)).trans ((zIo (by decide)).trans rfl))).trans rfl
        have w29 : (zI (zsI (zsI M 362 (4 * w10n) (zhere M)) 336 6 w23v) 336 6).toInt = ((zI M 336 6).toInt + 1) := (congrArg Int32.toInt zIs).trans w23
        have w30 : (zI (zsI (zsI M 362 (4 * w10n) (zhere M)) 336 6 w23v) 336 7).toInt = (zI M 336 7).toInt := (congrArg Int32.toInt ((zIoj (by decide)).trans ((zIo (by decide)).trans rfl))).trans rfl
        refine zs_invV (pc := 101) (k := 336) (as' := [.int (-9999 : Int32), .int (9999 : Int32)]) (st := []) t343_101 mf243 rfl rfl (Or.inl ⟨by decide, (zk1 (hs.k fk_zMm_336))⟩) ⟨by decide, by decide, Nat.le_of_ble_eq_true rfl, Nat.le_of_ble_eq_true rfl⟩ (R243 hs w24 (by omega) (by omega) (by omega) (zTm.mk x0 (fun j => ((zIo (by decide)).trans (zIo (by decide)))) ((zIoj (by decide)).trans (zIo (by decide)))) ?_) (fun _ _ q => q)
        intro w31M w31v w31s w31I w31F w31J w31x0 w31a w31b
        show zGo X l 3 0 0 343 104 [(4, .int (1 : Int32)), (3, .int w21v), (2, .int (1 : Int32)), (1, .int (zhere M)), (0, .ref 336)] [.int w31v] w31M _
        rcases w31x0 (w7n + 1) (by omega) with ⟨w32v, w32e, w32x, w32_1, w32_2, w32_3, w32_4, w32_5, w32_6, w32_7, w32_8, w32_9, w32_10⟩ | ⟨w32v, w32_8, w32z⟩
        · skip
          have w32y := x0.rg w32e
          refine zs_if_eqF (pc := 104) t343_104 rfl (by omega) ?_
          refine zs_aload_n (pc := 107) t343_107 rfl ?_
          refine zs_iload (pc := 108) t343_108 rfl ?_
          refine zs_iload_n (pc := 110) t343_110 rfl ?_
          refine zs_icmp_neF (pc := 111) t343_111 li1 li1 (by decide) ?_
          refine zs_bipush (pc := 114) t343_114 (v := 59) (by decide) ?_
          refine zs_goto (pc := 116) t343_116 ?_
          have w33 := ib336_6 w31I
          have w34 : (zI w31M 336 6).toInt = (zI w31M 336 6).toInt := (congrArg Int32.toInt rfl).trans rfl
          have w35 : (59 : Int32).toInt = 59 := li59
          have w36 : (zI w31M 336 5).toInt = (zI M 336 5).toInt := (congrArg Int32.toInt ((w31F 336 5 rfl).trans ((zIoj (by decide)).trans ((zIo (by decide)).trans rfl)))).trans rfl
          have w37 : (zI w31M 336 6).toInt = (zI w31M 336 6).toInt := (congrArg Int32.toInt rfl).trans rfl
          have w38 := ib336_7 w31I
          have w39 : (zI w31M 336 7).toInt = (zI w31M 336 7).toInt := (congrArg Int32.toInt rfl).trans rfl
          refine zs_invV (pc := 121) (k := 336) (as' := [.int (59 : Int32)]) (st := []) t343_121 mf246 rfl rfl (Or.inl ⟨by decide, (zk1 (w31s.k fk_zMm_336))⟩) ⟨by decide, by decide, Nat.le_of_ble_eq_true rfl, Nat.le_of_ble_eq_true rfl⟩ (R246 w31s w31I ⟨by decide, by decide⟩ (by omega) (by omega) (by omega) (zTm.mk x0 (fun j => ((w31F 339 j rfl).trans ((zIo (by decide)).trans (zIo (by decide))))) ((w31F 336 5 rfl).trans ((zIoj (by decide)).trans (zIo (by decide))))) ?_) (fun _ _ q => q)
          intro w40M w40v w40s w40I w40F w40J w40x0 w40a w40b
          show zGo X l 3 0 0 343 124 [(4, .int (1 : Int32)), (3, .int w21v), (2, .int (1 : Int32)), (1, .int (zhere M)), (0, .ref 336)] [.int w40v] w40M _
          rw [show (59 : Int32).toInt = 59 by decide] at w40x0
          rcases w40x0 w32e (by omega) with ⟨w41v, w41_1, w41_2, w41_3, w41_4⟩ | ⟨w41v, w41_1, w41_4⟩
          · skip
            refine zs_if_neT (pc := 124) t343_124 rfl (by omega) ?_
            refine zs_aload_n (pc := 129) t343_129 rfl ?_
            refine zs_get (pc := 130) t343_130 (by decide) (zk1 (w40s.k fk_zMm_336)) (w40s.p rfl fv_zMm_336_46) ?_
            refine zs_iload_n (pc := 133) t343_133 rfl ?_
            refine zs_iload (pc := 134) t343_134 rfl ?_
            obtain ⟨w42v, w42e, w42⟩ := ziadd (a := w21v) (b := (1 : Int32)) w21g li1 (by omega) (by omega)
            refine zs_iadd (pc := 136) t343_136 (c := w42v) w42e ?_
            refine zs_aload_n (pc := 137) t343_137 rfl ?_
            have w43 := zrg (zI w31M 336 8)
            refine zs_get (pc := 138) t343_138 (by decide) (zk1 (w40s.k fk_zMm_336)) (zfvi rfl ((w40F 336 8 rfl).trans rfl)) ?_
            have w44 : zIv mLo mHi (zsI w40M 362 (1 + 4 * w10n) (zI w31M 336 8)) := zIv.put w40I (show (-2147483648) ≤ (zI w31M 336 8).toInt ∧ (zI w31M 336 8).toInt ≤ 2147483647 from zrg (zI w31M 336 8))
            refine zs_iast (pc := 141) t343_141 (j := (1 + 4 * w10n)) (by decide) (zk1 (w40s.k fk_zMm_362)) (show w42v.toInt = (((1 + 4 * w10n) : Nat) : Int) by omega) (zk2 (w40s.k fk_zMm_362) (by omega)) ?_
            refine zs_iinc (pc := 142) t343_142 (ls' := [(4, .int (2 : Int32)), (3, .int w21v), (2, .int (1 : Int32)), (1, .int (zhere M)), (0, .ref 336)]) (zml mf343 (by decide)) rfl (c := 2) (by decide) rfl ?_
            refine zs_goto (pc := 145) t343_145 ?_
            refine zs_iload (pc := 88) t343_88 rfl ?_
            refine zs_iload_n (pc := 90) t343_90 rfl ?_
            refine zs_icmp_gtT (pc := 91) t343_91 li2 li1 (by decide) ?_
            refine zs_aload_n (pc := 148) t343_148 rfl ?_
            refine zs_dup (pc := 149) t343_149 rfl ?_
            refine zs_get (pc := 150) t343_150 (by decide) (zk1 (w40s.k fk_zMm_336)) (zfvi rfl ((zIo (by decide)).trans ((w40F 336 47 rfl).trans ((w31F 336 47 rfl).trans ((zIoj (by decide)).trans ((zIo (by decide)).trans rfl)))))) ?_
            refine zs_iconst (pc := 153) t343_153 (v := 1) (by decide) ?_
            obtain ⟨w45v, w45e, w45⟩ := ziadd (a := (zI M 336 47)) (b := (1 : Int32)) rfl li1 (by omega) (by omega)
            refine zs_iadd (pc := 154) t343_154 (c := w45v) w45e ?_
            have w46 : zIv mLo mHi (zsI (zsI w40M 362 (1 + 4 * w10n) (zI w31M 336 8)) 336 47 w45v) := zIv.put w44 (show 0 ≤ w45v.toInt ∧ w45v.toInt ≤ 20 from ⟨by omega, by omega⟩)
            refine zs_putI (pc := 155) t343_155 (zk1 (w40s.k fk_zMm_336)) rfl ?_
            refine zs_iconst (pc := 158) t343_158 (v := 1) (by decide) ?_
            have w47 : (1 : Int32).toInt = 1 := li1
            have w48 := ib336_6 w40I
            have w49 : (zI (zsI (zsI w40M 362 (1 + 4 * w10n) (zI w31M 336 8)) 336 47 w45v) 336 6).toInt = (zI w40M 336 6).toInt := (congrArg Int32.toInt ((zIoj (by decide)).trans ((zIo (by decide)).trans rfl))).trans rfl
            have w50 := ib336_7 w40I
            have w51 : (zI (zsI (zsI w40M 362 (1 + 4 * w10n) (zI w31M 336 8)) 336 47 w45v) 336 7).toInt = (zI w40M 336 7).toInt := (congrArg Int32.toInt ((zIoj (by decide)).trans ((zIo (by decide)).trans rfl))).trans rfl
            have w52 : (zI (zsI (zsI w40M 362 (1 + 4 * w10n) (zI w31M 336 8)) 336 47 w45v) 336 47).toInt = ((zI M 336 47).toInt + 1) := (congrArg Int32.toInt zIs).trans w45
            exact zs_iret (pc := 159) t343_159 mr343 (by decide) (hQ _ _ w40s w46 (((((((zFr.refl).put rfl).put rfl).trans (w31F.mono rfl)).trans (w40F.mono rfl)).put rfl).put rfl) (w40J.trans w31J) ⟨(fun p k hp hk => by obtain rfl : w7n = p := (by omega); obtain rfl : w10n = k := (by omega); exact Or.inl ⟨by decide, by omega, w32e + 1, _, ((pAc.o (L := 120) (by omega) (by decide)).trans (pB.y (pRd.y w32_1 (by omega) (by omega) (by omega)))), by omega, by omega, by omega, by omega, by omega, ⟨(by rw [show 4 * w10n = (4 * w10n) by omega]; have z := ((congrArg Int32.toInt ((zIo (by decide)).trans ((zIoj (by omega)).trans ((w40F 362 (4 * w10n) rfl).trans ((w31F 362 (4 * w10n) rfl).trans ((zIo (by decide)).trans zIs)))))).trans rfl); omega), (by rw [show 4 * w10n + 1 = (1 + 4 * w10n) by omega]; have z := ((congrArg Int32.toInt ((zIo (by decide)).trans zIs)).trans rfl); omega), (fun z => absurd z (by decide)), by decide⟩⟩), (fun j hj => ((zIo (by decide)).trans ((zIoj (by omega)).trans ((w40F 362 j rfl).trans ((w31F 362 j rfl).trans ((zIo (by decide)).trans (zIoj (by omega))))))))⟩ (by decide) (by decide))
          · skip
            refine zs_if_neF (pc := 124) t343_124 rfl (by omega) ?_
            refine zs_iconst (pc := 127) t343_127 (v := 0) (by decide) ?_
            have w53 : (0 : Int32).toInt = 0 := li0
            have w54 := ib336_6 w40I
            have w55 : (zI w40M 336 6).toInt = (zI w40M 336 6).toInt := (congrArg Int32.toInt rfl).trans rfl
            have w56 := ib336_7 w40I
            have w57 : (zI w40M 336 7).toInt = (zI w40M 336 7).toInt := (congrArg Int32.toInt rfl).trans rfl
            have w58 : (zI w40M 336 47).toInt = (zI M 336 47).toInt := (congrArg Int32.toInt ((w40F 336 47 rfl).trans ((w31F 336 47 rfl).trans ((zIoj (by decide)).trans ((zIo (by decide)).trans rfl))))).trans rfl
            exact zs_iret (pc := 128) t343_128 mr343 (by decide) (hQ _ _ w40s w40I (((((zFr.refl).put rfl).put rfl).trans (w31F.mono rfl)).trans (w40F.mono rfl)) (w40J.trans w31J) ⟨(fun p k hp hk => by obtain rfl : w7n = p := (by omega); obtain rfl : w10n = k := (by omega); exact Or.inr ⟨by decide, by omega, Or.inr ((pAc.o (L := 120) (by omega) (by decide)).trans (pB.f (pRd.n w32_1 (by omega))))⟩), (fun j hj => ((w40F 362 j rfl).trans ((w31F 362 j rfl).trans ((zIo (by decide)).trans (zIoj (by omega))))))⟩ (by decide) (by decide))
        · skip
          rw [show (-9999 : Int32).toInt = -9999 by decide, show (9999 : Int32).toInt = 9999 by decide] at w32z
          refine zs_if_eqT (pc := 104) t343_104 rfl (by omega) ?_
          refine zs_iconst (pc := 127) t343_127 (v := 0) (by decide) ?_
          have w59 : (0 : Int32).toInt = 0 := li0
          have w60 := ib336_6 w31I
          have w61 : (zI w31M 336 6).toInt = (zI w31M 336 6).toInt := (congrArg Int32.toInt rfl).trans rfl
          have w62 := ib336_7 w31I
          have w63 : (zI w31M 336 7).toInt = (zI w31M 336 7).toInt := (congrArg Int32.toInt rfl).trans rfl
          have w64 : (zI w31M 336 47).toInt = (zI M 336 47).toInt := (congrArg Int32.toInt ((w31F 336 47 rfl).trans ((zIoj (by decide)).trans ((zIo (by decide)).trans rfl)))).trans rfl
          exact zs_iret (pc := 128) t343_128 mr343 (by decide) (hQ _ _ w31s w31I ((((zFr.refl).put rfl).put rfl).trans (w31F.mono rfl)) w31J ⟨(fun p k hp hk => by obtain rfl : w7n = p := (by omega); obtain rfl : w10n = k := (by omega); exact Or.inr ⟨by decide, by omega, Or.inr ((pAc.o (L := 120) (by omega) (by decide)).trans (pB.f (by rcases w32z with q | ⟨e, x, q, q2⟩; exact pRd.f q; exact pRd.n q (by omega))))⟩), (fun j hj => ((w31F 362 j rfl).trans ((zIo (by decide)).trans (zIoj (by omega)))))⟩ (by decide) (by decide))
      · refine zs_icmp_neF (pc := 49) t343_49 rfl li20 (by omega) ?_
        refine zs_aload_n (pc := 52) t343_52 rfl ?_
        refine zs_aload_n (pc := 53) t343_53 rfl ?_
        refine zs_get (pc := 54) t343_54 (by decide) (zk1 (hs.k fk_zMm_336)) (zfvi rfl rfl) ?_
        refine zs_invV (pc := 57) (k := 336) (as' := [.int (zI M 336 6)]) (st := []) t343_57 mf239 rfl rfl (Or.inl ⟨by decide, (zk1 (hs.k fk_zMm_336))⟩) ⟨by decide, by decide, Nat.le_of_ble_eq_true rfl, Nat.le_of_ble_eq_true rfl⟩ (zs_in (by decide) mf239 (Nat.le_of_ble_eq_true rfl) ?_) (fun _ _ q => q)
        show zGo X l 0 0 0 239 0 [(0, .ref 336), (1, .int (zI M 336 6))] [] M _
        refine zs_aload_n (pc := 0) t239_0 rfl ?_
        refine zs_iload_n (pc := 1) t239_1 rfl ?_
        have w65 : zIv mLo mHi (zsI M 336 7 (zI M 336 6)) := zIv.put hI (show (-1) ≤ (zI M 336 6).toInt ∧ (zI M 336 6).toInt ≤ 500 from ⟨by omega, by omega⟩)
        refine zs_putI (pc := 2) t239_2 (zk1 (hs.k fk_zMm_336)) rfl ?_
        refine zs_iconst (pc := 5) t239_5 (v := 0) (by decide) ?_
        refine zs_iret (pc := 6) t239_6 mr239 (by decide) ?_
        show zGo X l 3 0 0 343 60 [(2, .int (1 : Int32)), (1, .int (zhere M)), (0, .ref 336)] [.int (0 : Int32)] (zsI M 336 7 (zI M 336 6)) _
        have w66 : (0 : Int32).toInt = 0 := li0
        have w67 : (zI (zsI M 336 7 (zI M 336 6)) 336 6).toInt = (zI M 336 6).toInt := (congrArg Int32.toInt ((zIoj (by decide)).trans rfl)).trans rfl
        have w68 : (zI (zsI M 336 7 (zI M 336 6)) 336 7).toInt = (zI M 336 6).toInt := (congrArg Int32.toInt zIs).trans rfl
        have w69 : (zI (zsI M 336 7 (zI M 336 6)) 336 47).toInt = (zI M 336 47).toInt := (congrArg Int32.toInt ((zIoj (by decide)).trans rfl)).trans rfl
        exact zs_iret (pc := 60) t343_60 mr343 (by decide) (hQ _ _ hs w65 ((zFr.refl).put rfl) rfl ⟨(fun p k hp hk => by obtain rfl : w7n = p := (by omega); obtain rfl : w10n = k := (by omega); exact Or.inr ⟨by decide, by omega, by first | exact Or.inl (by omega) | exact Or.inr (pAc.no (by omega))⟩), (fun j hj => (zIo (by decide)))⟩ (by decide) (by decide))
    · refine zs_icmp_eqF (pc := 18) t343_18 rfl li120 (by omega) ?_
      refine zs_iload_n (pc := 21) t343_21 rfl ?_
      refine zs_bipush (pc := 22) t343_22 (v := 100) (by decide) ?_
      by_cases w70 : (zhere M).toInt = 100
      · refine zs_icmp_eqT (pc := 24) t343_24 rfl li100 (by omega) ?_
        refine zs_iconst (pc := 33) t343_33 (v := 1) (by decide) ?_
        refine zs_goto (pc := 34) t343_34 ?_
        refine zs_istore_n (pc := 38) t343_38 (ls' := [(2, .int (1 : Int32)), (1, .int (zhere M)), (0, .ref 336)]) (zml mf343 (by decide)) rfl ?_
        refine zs_iload_n (pc := 39) t343_39 rfl ?_
        refine zs_if_eqF (pc := 40) t343_40 li1 (by decide) ?_
        refine zs_aload_n (pc := 43) t343_43 rfl ?_
        refine zs_get (pc := 44) t343_44 (by decide) (zk1 (hs.k fk_zMm_336)) (zfvi rfl rfl) ?_
        refine zs_bipush (pc := 47) t343_47 (v := 20) (by decide) ?_
        by_cases w71 : (zI M 336 47).toInt ≠ 20
        · refine zs_icmp_neT (pc := 49) t343_49 rfl li20 (by omega) ?_
          refine zs_iconst (pc := 61) t343_61 (v := 4) (by decide) ?_
          refine zs_aload_n (pc := 62) t343_62 rfl ?_
          refine zs_get (pc := 63) t343_63 (by decide) (zk1 (hs.k fk_zMm_336)) (zfvi rfl rfl) ?_
          obtain ⟨w72v, w72⟩ : ∃ v, (4 : Int32) * (zI M 336 47) = v := ⟨_, rfl⟩
          have w72g : w72v.toInt = 4 * (zI M 336 47).toInt := by rw [← w72]; exact zmulc li4 rfl (by omega) (by omega)
          refine zs_imul (pc := 66) t343_66 (c := w72v) w72 ?_
          refine zs_istore_n (pc := 67) t343_67 (ls' := [(3, .int w72v), (2, .int (1 : Int32)), (1, .int (zhere M)), (0, .ref 336)]) (zml mf343 (by decide)) rfl ?_
          refine zs_aload_n (pc := 68) t343_68 rfl ?_
          refine zs_get (pc := 69) t343_69 (by decide) (zk1 (hs.k fk_zMm_336)) (hs.p rfl fv_zMm_336_46) ?_
          refine zs_iload_n (pc := 72) t343_72 rfl ?_
          refine zs_iload_n (pc := 73) t343_73 rfl ?_
          have w73 : zIv mLo mHi (zsI M 362 (4 * w10n) (zhere M)) := zIv.put hI (show (-2147483648) ≤ (zhere M).toInt ∧ (zhere M).toInt ≤ 2147483647 from zrg (zhere M))
          refine zs_iast (pc := 74) t343_74 (j := (4 * w10n)) (by decide) (zk1 (hs.k fk_zMm_362)) (show w72v.toInt = (((4 * w10n) : Nat) : Int) by omega) (zk2 (hs.k fk_zMm_362) (by omega)) ?_
          refine zs_aload_n (pc := 75) t343_75 rfl ?_
          refine zs_dup (pc := 76) t343_76 rfl ?_
          refine zs_get (pc := 77) t343_77 (by decide) (zk1 (hs.k fk_zMm_336)) (zfvi rfl ((zIo (by decide)).trans rfl)) ?_
          refine zs_iconst (pc := 80) t343_80 (v := 1) (by decide) ?_
          obtain ⟨w74v, w74e, w74⟩ := ziadd (a := (zI M 336 6)) (b := (1 : Int32)) rfl li1 (by omega) (by omega)
          refine zs_iadd (pc := 81) t343_81 (c := w74v) w74e ?_
          have w75 : zIv mLo mHi (zsI (zsI M 362 (4 * w10n) (zhere M)) 336 6 w74v) := zIv.put w73 (show 0 ≤ w74v.toInt ∧ w74v.toInt ≤ 500 from ⟨by omega, by omega⟩)
          refine zs_putI (pc := 82) t343_82 (zk1 (hs.k fk_zMm_336)) rfl ?_
          refine zs_iconst (pc := 85) t343_85 (v := 1) (by decide) ?_
          refine zs_istore (pc := 86) t343_86 (ls' := [(4, .int (1 : Int32)), (3, .int w72v), (2, .int (1 : Int32)), (1, .int (zhere M)), (0, .ref 336)]) (zml mf343 (by decide)) rfl ?_
          refine zs_iload (pc := 88) t343_88 rfl ?_
          refine zs_iload_n (pc := 90) t343_90 rfl ?_
          refine zs_icmp_gtF (pc := 91) t343_91 li1 li1 (by decide) ?_
          refine zs_aload_n (pc := 94) t343_94 rfl ?_
          refine zs_sipush (pc := 95) t343_95 (v := -9999) (by decide) ?_
          refine zs_sipush (pc := 98) t343_98 (v := 9999) (by decide) ?_
          have w76 : (zI (zsI (zsI M 362 (4 * w10n) (zhere M)) 336 6 w74v) 336 6).toInt = ((zI M 336 6).toInt + 1) := (congrArg Int32.toInt zIs).trans w74
          have w77 : (-9999 : Int32).toInt = (-9999) := lin9999
          have w78 : (9999 : Int32).toInt = 9999 := li9999
          have w79 : (zI (zsI (zsI M 362 (4 * w10n) (zhere M)) 336 6 w74v) 336 5).toInt = (zI M 336 5).toInt := (congrArg Int32.toInt ((zIoj (by decide)).trans ((zIo (by decide)).trans rfl))).trans rfl
          have w80 : (zI (zsI (zsI M 362 (4 * w10n) (zhere M)) 336 6 w74v) 336 6).toInt = ((zI M 336 6).toInt + 1) := (congrArg Int32.toInt zIs).trans w74
          have w81 : (zI (zsI (zsI M 362 (4 * w10n) (zhere M)) 336 6 w74v) 336 7).toInt = (zI M 336 7).toInt := (congrArg Int32.toInt ((zIoj (by decide)).trans ((zIo (by decide)).trans rfl))).trans rfl
          refine zs_invV (pc := 101) (k := 336) (as' := [.int (-9999 : Int32), .int (9999 : Int32)]) (st := []) t343_101 mf243 rfl rfl (Or.inl ⟨by decide, (zk1 (hs.k fk_zMm_336))⟩) ⟨by decide, by decide, Nat.le_of_ble_eq_true rfl, Nat.le_of_ble_eq_true rfl⟩ (R243 hs w75 (by omega) (by omega) (by omega) (zTm.mk x0 (fun j => ((zIo (by decide)).trans (zIo (by decide)))) ((zIoj (by decide)).trans (zIo (by decide)))) ?_) (fun _ _ q => q)
          intro w82M w82v w82s w82I w82F w82J w82x0 w82a w82b
          show zGo X l 3 0 0 343 104 [(4, .int (1 : Int32)), (3, .int w72v), (2, .int (1 : Int32)), (1, .int (zhere M)), (0, .ref 336)] [.int w82v] w82M _
          rcases w82x0 (w7n + 1) (by omega) with ⟨w83v, w83e, w83x, w83_1, w83_2, w83_3, w83_4, w83_5, w83_6, w83_7, w83_8, w83_9, w83_10⟩ | ⟨w83v, w83_8, w83z⟩
          · skip
            have w83y := x0.rg w83e
            refine zs_if_eqF (pc := 104) t343_104 rfl (by omega) ?_
            refine zs_aload_n (pc := 107) t343_107 rfl ?_
            refine zs_iload (pc := 108) t343_108 rfl ?_
            refine zs_iload_n (pc := 110) t343_110 rfl ?_
            refine zs_icmp_neF (pc := 111) t343_111 li1 li1 (by decide) ?_
            refine zs_bipush (pc := 114) t343_114 (v := 59) (by decide) ?_
            refine zs_goto (pc := 116) t343_116 ?_
            have w84 := ib336_6 w82I
            have w85 : (zI w82M 336 6).toInt = (zI w82M 336 6).toInt := (congrArg Int32.toInt rfl).trans rfl
            have w86 : (59 : Int32).toInt = 59 := li59
            have w87 : (zI w82M 336 5).toInt = (zI M 336 5).toInt := (congrArg Int32.toInt ((w82F 336 5 rfl).trans ((zIoj (by decide)).trans ((zIo (by decide)).trans rfl)))).trans rfl
            have w88 : (zI w82M 336 6).toInt = (zI w82M 336 6).toInt := (congrArg Int32.toInt rfl).trans rfl
            have w89 := ib336_7 w82I
            have w90 : (zI w82M 336 7).toInt = (zI w82M 336 7).toInt := (congrArg Int32.toInt rfl).trans rfl
            refine zs_invV (pc := 121) (k := 336) (as' := [.int (59 : Int32)]) (st := []) t343_121 mf246 rfl rfl (Or.inl ⟨by decide, (zk1 (w82s.k fk_zMm_336))⟩) ⟨by decide, by decide, Nat.le_of_ble_eq_true rfl, Nat.le_of_ble_eq_true rfl⟩ (R246 w82s w82I ⟨by decide, by decide⟩ (by omega) (by omega) (by omega) (zTm.mk x0 (fun j => ((w82F 339 j rfl).trans ((zIo (by decide)).trans (zIo (by decide))))) ((w82F 336 5 rfl).trans ((zIoj (by decide)).trans (zIo (by decide))))) ?_) (fun _ _ q => q)
            intro w91M w91v w91s w91I w91F w91J w91x0 w91a w91b
            show zGo X l 3 0 0 343 124 [(4, .int (1 : Int32)), (3, .int w72v), (2, .int (1 : Int32)), (1, .int (zhere M)), (0, .ref 336)] [.int w91v] w91M _
            rw [show (59 : Int32).toInt = 59 by decide] at w91x0
            rcases w91x0 w83e (by omega) with ⟨w92v, w92_1, w92_2, w92_3, w92_4⟩ | ⟨w92v, w92_1, w92_4⟩
            · skip
              refine zs_if_neT (pc := 124) t343_124 rfl (by omega) ?_
              refine zs_aload_n (pc := 129) t343_129 rfl ?_
              refine zs_get (pc := 130) t343_130 (by decide) (zk1 (w91s.k fk_zMm_336)) (w91s.p rfl fv_zMm_336_46) ?_
              refine zs_iload_n (pc := 133) t343_133 rfl ?_
              refine zs_iload (pc := 134) t343_134 rfl ?_
              obtain ⟨w93v, w93e, w93⟩ := ziadd (a := w72v) (b := (1 : Int32)) w72g li1 (by omega) (by omega)
              refine zs_iadd (pc := 136) t343_136 (c := w93v) w93e ?_
              refine zs_aload_n (pc := 137) t343_137 rfl ?_
              have w94 := zrg (zI w82M 336 8)
              refine zs_get (pc := 138) t343_138 (by decide) (zk1 (w91s.k fk_zMm_336)) (zfvi rfl ((w91F 336 8 rfl).trans rfl)) ?_
              have w95 : zIv mLo mHi (zsI w91M 362 (1 + 4 * w10n) (zI w82M 336 8)) := zIv.put w91I (show (-2147483648) ≤ (zI w82M 336 8).toInt ∧ (zI w82M 336 8).toInt ≤ 2147483647 from zrg (zI w82M 336 8))
              refine zs_iast (pc := 141) t343_141 (j := (1 + 4 * w10n)) (by decide) (zk1 (w91s.k fk_zMm_362)) (show w93v.toInt = (((1 + 4 * w10n) : Nat) : Int) by omega) (zk2 (w91s.k fk_zMm_362) (by omega)) ?_
              refine zs_iinc (pc := 142) t343_142 (ls' := [(4, .int (2 : Int32)), (3, .int w72v), (2, .int (1 : Int32)), (1, .int (zhere M)), (0, .ref 336)]) (zml mf343 (by decide)) rfl (c := 2) (by decide) rfl ?_
              refine zs_goto (pc := 145) t343_145 ?_
              refine zs_iload (pc := 88) t343_88 rfl ?_
              refine zs_iload_n (pc := 90) t343_90 rfl ?_
              refine zs_icmp_gtT (pc := 91) t343_91 li2 li1 (by decide) ?_
              refine zs_aload_n (pc := 148) t343_148 rfl ?_
              refine zs_dup (pc := 149) t343_149 rfl ?_
              refine zs_get (pc := 150) t343_150 (by decide) (zk1 (w91s.k fk_zMm_336)) (zfvi rfl ((zIo (by decide)).trans ((w91F 336 47 rfl).trans ((w82F 336 47 rfl).trans ((zIoj (by decide)).trans ((zIo (by decide)).trans rfl)))))) ?_
              refine zs_iconst (pc := 153) t343_153 (v := 1) (by decide) ?_
              obtain ⟨w96v, w96e, w96⟩ := ziadd (a := (zI M 336 47)) (b := (1 : Int32)) rfl li1 (by omega) (by omega)
              refine zs_iadd (pc := 154) t343_154 (c := w96v) w96e ?_
              have w97 : zIv mLo mHi (zsI (zsI w91M 362 (1 + 4 * w10n) (zI w82M 336 8)) 336 47 w96v) := zIv.put w95 (show 0 ≤ w96v.toInt ∧ w96v.toInt ≤ 20 from ⟨by omega, by omega⟩)
              refine zs_putI (pc := 155) t343_155 (zk1 (w91s.k fk_zMm_336)) rfl ?_
              refine zs_iconst (pc := 158) t343_158 (v := 1) (by decide) ?_
              have w98 : (1 : Int32).toInt = 1 := li1
              have w99 := ib336_6 w91I
              have w100 : (zI (zsI (zsI w91M 362 (1 + 4 * w10n) (zI w82M 336 8)) 336 47 w96v) 336 6).toInt = (zI w91M 336 6).toInt := (congrArg Int32.toInt ((zIoj (by decide)).trans ((zIo (by decide)).trans rfl))).trans rfl
              have w101 := ib336_7 w91I
              have w102 : (zI (zsI (zsI w91M 362 (1 + 4 * w10n) (zI w82M 336 8)) 336 47 w96v) 336 7).toInt = (zI w91M 336 7).toInt := (congrArg Int32.toInt ((zIoj (by decide)).trans ((zIo (by decide)).trans rfl))).trans rfl
              have w103 : (zI (zsI (zsI w91M 362 (1 + 4 * w10n) (zI w82M 336 8)) 336 47 w96v) 336 47).toInt = ((zI M 336 47).toInt + 1) := (congrArg Int32.toInt zIs).trans w96
              exact zs_iret (pc := 159) t343_159 mr343 (by decide) (hQ _ _ w91s w97 (((((((zFr.refl).put rfl).put rfl).trans (w82F.mono rfl)).trans (w91F.mono rfl)).put rfl).put rfl) (w91J.trans w82J) ⟨(fun p k hp hk => by obtain rfl : w7n = p := (by omega); obtain rfl : w10n = k := (by omega); exact Or.inl ⟨by decide, by omega, w83e + 1, _, ((pAc.o (L := 100) (by omega) (by decide)).trans (pB.y (pRd.y w83_1 (by omega) (by omega) (by omega)))), by omega, by omega, by omega, by omega, by omega, ⟨(by rw [show 4 * w10n = (4 * w10n) by omega]; have z := ((congrArg Int32.toInt ((zIo (by decide)).trans ((zIoj (by omega)).trans ((w91F 362 (4 * w10n) rfl).trans ((w82F 362 (4 * w10n) rfl).trans ((zIo (by decide)).trans zIs)))))).trans rfl); omega), (by rw [show 4 * w10n + 1 = (1 + 4 * w10n) by omega]; have z := ((congrArg Int32.toInt ((zIo (by decide)).trans zIs)).trans rfl); omega), (fun z => absurd z (by decide)), by decide⟩⟩), (fun j hj => ((zIo (by decide)).trans ((zIoj (by omega)).trans ((w91F 362 j rfl).trans ((w82F 362 j rfl).trans ((zIo (by decide)).trans (zIoj (by omega))))))))⟩ (by decide) (by decide))
            · skip
              refine zs_if_neF (pc := 124) t343_124 rfl (by omega) ?_
              refine zs_iconst (pc := 127) t343_127 (v := 0) (by decide) ?_
              have w104 : (0 : Int32).toInt = 0 := li0
              have w105 := ib336_6 w91I
              have w106 : (zI w91M 336 6).toInt = (zI w91M 336 6).toInt := (congrArg Int32.toInt rfl).trans rfl
              have w107 := ib336_7 w91I
              have w108 : (zI w91M 336 7).toInt = (zI w91M 336 7).toInt := (congrArg Int32.toInt rfl).trans rfl
              have w109 : (zI w91M 336 47).toInt = (zI M 336 47).toInt := (congrArg Int32.toInt ((w91F 336 47 rfl).trans ((w82F 336 47 rfl).trans ((zIoj (by decide)).trans ((zIo (by decide)).trans rfl))))).trans rfl
              exact zs_iret (pc := 128) t343_128 mr343 (by decide) (hQ _ _ w91s w91I (((((zFr.refl).put rfl).put rfl).trans (w82F.mono rfl)).trans (w91F.mono rfl)) (w91J.trans w82J) ⟨(fun p k hp hk => by obtain rfl : w7n = p := (by omega); obtain rfl : w10n = k := (by omega); exact Or.inr ⟨by decide, by omega, Or.inr ((pAc.o (L := 100) (by omega) (by decide)).trans (pB.f (pRd.n w83_1 (by omega))))⟩), (fun j hj => ((w91F 362 j rfl).trans ((w82F 362 j rfl).trans ((zIo (by decide)).trans (zIoj (by omega))))))⟩ (by decide) (by decide))
          · skip
            rw [show (-9999 : Int32).toInt = -9999 by decide, show (9999 : Int32).toInt = 9999 by decide] at w83z
            refine zs_if_eqT (pc := 104) t343_104 rfl (by omega) ?_
            refine zs_iconst (pc := 127) t343_127 (v := 0) (by decide) ?_
            have w110 : (0 : Int32).toInt = 0 := li0
            have w111 := ib336_6 w82I
            have w112 : (zI w82M 336 6).toInt = (zI w82M 336 6).toInt := (congrArg Int32.toInt rfl).trans rfl
            have w113 := ib336_7 w82I
            have w114 : (zI w82M 336 7).toInt = (zI w82M 336 7).toInt := (congrArg Int32.toInt rfl).trans rfl
            have w115 : (zI w82M 336 47).toInt = (zI M 336 47).toInt := (congrArg Int32.toInt ((w82F 336 47 rfl).trans ((zIoj (by decide)).trans ((zIo (by decide)).trans rfl)))).trans rfl
            exact zs_iret (pc := 128) t343_128 mr343 (by decide) (hQ _ _ w82s w82I ((((zFr.refl).put rfl).put rfl).trans (w82F.mono rfl)) w82J ⟨(fun p k hp hk => by obtain rfl : w7n = p := (by omega); obtain rfl : w10n = k := (by omega); exact Or.inr ⟨by decide, by omega, Or.inr ((pAc.o (L := 100) (by omega) (by decide)).trans (pB.f (by rcases w83z with q | ⟨e, x, q, q2⟩; exact pRd.f q; exact pRd.n q (by omega))))⟩), (fun j hj => ((w82F 362 j rfl).trans ((zIo (by decide)).trans (zIoj (by omega)))))⟩ (by decide) (by decide))
        · refine zs_icmp_neF (pc := 49) t343_49 rfl li20 (by omega) ?_
          refine zs_aload_n (pc := 52) t343_52 rfl ?_
          refine zs_aload_n (pc := 53) t343_53 rfl ?_
          refine zs_get (pc := 54) t343_54 (by decide) (zk1 (hs.k fk_zMm_336)) (zfvi rfl rfl) ?_
          refine zs_invV (pc := 57) (k := 336) (as' := [.int (zI M 336 6)]) (st := []) t343_57 mf239 rfl rfl (Or.inl ⟨by decide, (zk1 (hs.k fk_zMm_336))⟩) ⟨by decide, by decide, Nat.le_of_ble_eq_true rfl, Nat.le_of_ble_eq_true rfl⟩ (zs_in (by decide) mf239 (Nat.le_of_ble_eq_true rfl) ?_) (fun _ _ q => q)
          show zGo X l 0 0 0 239 0 [(0, .ref 336), (1, .int (zI M 336 6))] [] M _
          refine zs_aload_n (pc := 0) t239_0 rfl ?_
          refine zs_iload_n (pc := 1) t239_1 rfl ?_
          have w116 : zIv mLo mHi (zsI M 336 7 (zI M 336 6)) := zIv.put hI (show (-1) ≤ (zI M 336 6).toInt ∧ (zI M 336 6).toInt ≤ 500 from ⟨by omega, by omega⟩)
          refine zs_putI (pc := 2) t239_2 (zk1 (hs.k fk_zMm_336)) rfl ?_
          refine zs_iconst (pc := 5) t239_5 (v := 0) (by decide) ?_
          refine zs_iret (pc := 6) t239_6 mr239 (by decide) ?_
          show zGo X l 3 0 0 343 60 [(2, .int (1 : Int32)), (1, .int (zhere M)), (0, .ref 336)] [.int (0 : Int32)] (zsI M 336 7 (zI M 336 6)) _
          have w117 : (0 : Int32).toInt = 0 := li0
          have w118 : (zI (zsI M 336 7 (zI M 336 6)) 336 6).toInt = (zI M 336 6).toInt := (congrArg Int32.toInt ((zIoj (by decide)).trans rfl)).trans rfl
          have w119 : (zI (zsI M 336 7 (zI M 336 6)) 336 7).toInt = (zI M 336 6).toInt := (congrArg Int32.toInt zIs).trans rfl
          have w120 : (zI (zsI M 336 7 (zI M 336 6)) 336 47).toInt = (zI M 336 47).toInt := (congrArg Int32.toInt ((zIoj (by decide)).trans rfl)).trans rfl
          exact zs_iret (pc := 60) t343_60 mr343 (by decide) (hQ _ _ hs w116 ((zFr.refl).put rfl) rfl ⟨(fun p k hp hk => by obtain rfl : w7n = p := (by omega); obtain rfl : w10n = k := (by omega); exact Or.inr ⟨by decide, by omega, by first | exact Or.inl (by omega) | exact Or.inr (pAc.no (by omega))⟩), (fun j hj => (zIo (by decide)))⟩ (by decide) (by decide))
      · refine zs_icmp_eqF (pc := 24) t343_24 rfl li100 (by omega) ?_
        refine zs_iload_n (pc := 27) t343_27 rfl ?_
        refine zs_bipush (pc := 28) t343_28 (v := 110) (by decide) ?_
        by_cases w121 : (zhere M).toInt ≠ 110
        · refine zs_icmp_neT (pc := 30) t343_30 rfl li110 (by omega) ?_
          refine zs_iconst (pc := 37) t343_37 (v := 0) (by decide) ?_
          refine zs_istore_n (pc := 38) t343_38 (ls' := [(2, .int (0 : Int32)), (1, .int (zhere M)), (0, .ref 336)]) (zml mf343 (by decide)) rfl ?_
          refine zs_iload_n (pc := 39) t343_39 rfl ?_
          refine zs_if_eqT (pc := 40) t343_40 li0 (by decide) ?_
          refine zs_aload_n (pc := 52) t343_52 rfl ?_
          refine zs_aload_n (pc := 53) t343_53 rfl ?_
          refine zs_get (pc := 54) t343_54 (by decide) (zk1 (hs.k fk_zMm_336)) (zfvi rfl rfl) ?_
          refine zs_invV (pc := 57) (k := 336) (as' := [.int (zI M 336 6)]) (st := []) t343_57 mf239 rfl rfl (Or.inl ⟨by decide, (zk1 (hs.k fk_zMm_336))⟩) ⟨by decide, by decide, Nat.le_of_ble_eq_true rfl, Nat.le_of_ble_eq_true rfl⟩ (zs_in (by decide) mf239 (Nat.le_of_ble_eq_true rfl) ?_) (fun _ _ q => q)
          show zGo X l 0 0 0 239 0 [(0, .ref 336), (1, .int (zI M 336 6))] [] M _
          refine zs_aload_n (pc := 0) t239_0 rfl ?_
          refine zs_iload_n (pc := 1) t239_1 rfl ?_
          have w122 : zIv mLo mHi (zsI M 336 7 (zI M 336 6)) := zIv.put hI (show (-1) ≤ (zI M 336 6).toInt ∧ (zI M 336 6).toInt ≤ 500 from ⟨by omega, by omega⟩)
          refine zs_putI (pc := 2) t239_2 (zk1 (hs.k fk_zMm_336)) rfl ?_
          refine zs_iconst (pc := 5) t239_5 (v := 0) (by decide) ?_
          refine zs_iret (pc := 6) t239_6 mr239 (by decide) ?_
          show zGo X l 3 0 0 343 60 [(2, .int (0 : Int32)), (1, .int (zhere M)), (0, .ref 336)] [.int (0 : Int32)] (zsI M 336 7 (zI M 336 6)) _
          have w123 : (0 : Int32).toInt = 0 := li0
          have w124 : (zI (zsI M 336 7 (zI M 336 6)) 336 6).toInt = (zI M 336 6).toInt := (congrArg Int32.toInt ((zIoj (by decide)).trans rfl)).trans rfl
          have w125 : (zI (zsI M 336 7 (zI M 336 6)) 336 7).toInt = (zI M 336 6).toInt := (congrArg Int32.toInt zIs).trans rfl
          have w126 : (zI (zsI M 336 7 (zI M 336 6)) 336 47).toInt = (zI M 336 47).toInt := (congrArg Int32.toInt ((zIoj (by decide)).trans rfl)).trans rfl
          exact zs_iret (pc := 60) t343_60 mr343 (by decide) (hQ _ _ hs w122 ((zFr.refl).put rfl) rfl ⟨(fun p k hp hk => by obtain rfl : w7n = p := (by omega); obtain rfl : w10n = k := (by omega); exact Or.inr ⟨by decide, by omega, by first | exact Or.inl (by omega) | exact Or.inr (pAc.no (by omega))⟩), (fun j hj => (zIo (by decide)))⟩ (by decide) (by decide))
        · refine zs_icmp_neF (pc := 30) t343_30 rfl li110 (by omega) ?_
          refine zs_iconst (pc := 33) t343_33 (v := 1) (by decide) ?_
          refine zs_goto (pc := 34) t343_34 ?_
          refine zs_istore_n (pc := 38) t343_38 (ls' := [(2, .int (1 : Int32)), (1, .int (zhere M)), (0, .ref 336)]) (zml mf343 (by decide)) rfl ?_
          refine zs_iload_n (pc := 39) t343_39 rfl ?_
          refine zs_if_eqF (pc := 40) t343_40 li1 (by decide) ?_
          refine zs_aload_n (pc := 43) t343_43 rfl ?_
          refine zs_get (pc := 44) t343_44 (by decide) (zk1 (hs.k fk_zMm_336)) (zfvi rfl rfl) ?_
          refine zs_bipush (pc := 47) t343_47 (v := 20) (by decide) ?_
          by_cases w127 : (zI M 336 47).toInt ≠ 20
          · refine zs_icmp_neT (pc := 49) t343_49 rfl li20 (by omega) ?_
            refine zs_iconst (pc := 61) t343_61 (v := 4) (by decide) ?_
            refine zs_aload_n (pc := 62) t343_62 rfl ?_
            refine zs_get (pc := 63) t343_63 (by decide) (zk1 (hs.k fk_zMm_336)) (zfvi rfl rfl) ?_
            obtain ⟨w128v, w128⟩ : ∃ v, (4 : Int32) * (zI M 336 47) = v := ⟨_, rfl⟩
            have w128g : w128v.toInt = 4 * (zI M 336 47).toInt := by rw [← w128]; exact zmulc li4 rfl (by omega) (by omega)
            refine zs_imul (pc := 66) t343_66 (c := w128v) w128 ?_
            refine zs_istore_n (pc := 67) t343_67 (ls' := [(3, .int w128v), (2, .int (1 : Int32)), (1, .int (zhere M)), (0, .ref 336)]) (zml mf343 (by decide)) rfl ?_
            refine zs_aload_n (pc := 68) t343_68 rfl ?_
            refine zs_get (pc := 69) t343_69 (by decide) (zk1 (hs.k fk_zMm_336)) (hs.p rfl fv_zMm_336_46) ?_
            refine zs_iload_n (pc := 72) t343_72 rfl ?_
            refine zs_iload_n (pc := 73) t343_73 rfl ?_
            have w129 : zIv mLo mHi (zsI M 362 (4 * w10n) (zhere M)) := zIv.put hI (show (-2147483648) ≤ (zhere M).toInt ∧ (zhere M).toInt ≤ 2147483647 from zrg (zhere M))
            refine zs_iast (pc := 74) t343_74 (j := (4 * w10n)) (by decide) (zk1 (hs.k fk_zMm_362)) (show w128v.toInt = (((4 * w10n) : Nat) : Int) by omega) (zk2 (hs.k fk_zMm_362) (by omega)) ?_
            refine zs_aload_n (pc := 75) t343_75 rfl ?_
            refine zs_dup (pc := 76) t343_76 rfl ?_
            refine zs_get (pc := 77) t343_77 (by decide) (zk1 (hs.k fk_zMm_336)) (zfvi rfl ((zIo (by decide)).trans rfl)) ?_
            refine zs_iconst (pc := 80) t343_80 (v := 1) (by decide) ?_
            obtain ⟨w130v, w130e, w130⟩ := ziadd (a := (zI M 336 6)) (b := (1 : Int32)) rfl li1 (by omega) (by omega)
            refine zs_iadd (pc := 81) t343_81 (c := w130v) w130e ?_
            have w131 : zIv mLo mHi (zsI (zsI M 362 (4 * w10n) (zhere M)) 336 6 w130v) := zIv.put w129 (show 0 ≤ w130v.toInt ∧ w130v.toInt ≤ 500 from ⟨by omega, by omega⟩)
            refine zs_putI (pc := 82) t343_82 (zk1 (hs.k fk_zMm_336)) rfl ?_
            refine zs_iconst (pc := 85) t343_85 (v := 1) (by decide) ?_
            refine zs_istore (pc := 86) t343_86 (ls' := [(4, .int (1 : Int32)), (3, .int w128v), (2, .int (1 : Int32)), (1, .int (zhere M)), (0, .ref 336)]) (zml mf343 (by decide)) rfl ?_
            refine zs_iload (pc := 88) t343_88 rfl ?_
            refine zs_iload_n (pc := 90) t343_90 rfl ?_
            refine zs_icmp_gtF (pc := 91) t343_91 li1 li1 (by decide) ?_
            refine zs_aload_n (pc := 94) t343_94 rfl ?_
            refine zs_sipush (pc := 95) t343_95 (v := -9999) (by decide) ?_
            refine zs_sipush (pc := 98) t343_98 (v := 9999) (by decide) ?_
            have w132 : (zI (zsI (zsI M 362 (4 * w10n) (zhere M)) 336 6 w130v) 336 6).toInt = ((zI M 336 6).toInt + 1) := (congrArg Int32.toInt zIs).trans w130
            have w133 : (-9999 : Int32).toInt = (-9999) := lin9999
            have w134 : (9999 : Int32).toInt = 9999 := li9999
            have w135 : (zI (zsI (zsI M 362 (4 * w10n) (zhere M)) 336 6 w130v) 336 5).toInt = (zI M 336 5).toInt := (congrArg Int32.toInt ((zIoj (by decide)).trans ((zIo (by decide)).trans rfl))).trans rfl
            have w136 : (zI (zsI (zsI M 362 (4 * w10n) (zhere M)) 336 6 w130v) 336 6).toInt = ((zI M 336 6).toInt + 1) := (congrArg Int32.toInt zIs).trans w130
            have w137 : (zI (zsI (zsI M 362 (4 * w10n) (zhere M)) 336 6 w130v) 336 7).toInt = (zI M 336 7).toInt := (congrArg Int32.toInt ((zIoj (by decide)).trans ((zIo (by decide)).trans rfl))).trans rfl
            refine zs_invV (pc := 101) (k := 336) (as' := [.int (-9999 : Int32), .int (9999 : Int32)]) (st := []) t343_101 mf243 rfl rfl (Or.inl ⟨by decide, (zk1 (hs.k fk_zMm_336))⟩) ⟨by decide, by decide, Nat.le_of_ble_eq_true rfl, Nat.le_of_ble_eq_true rfl⟩ (R243 hs w131 (by omega) (by omega) (by omega) (zTm.mk x0 (fun j => ((zIo (by decide)).trans (zIo (by decide)))) ((zIoj (by decide)).trans (zIo (by decide)))) ?_) (fun _ _ q => q)
            intro w138M w138v w138s w138I w138F w138J w138x0 w138a w138b
            show zGo X l 3 0 0 343 104 [(4, .int (1 : Int32)), (3, .int w128v), (2, .int (1 : Int32)), (1, .int (zhere M)), (0, .ref 336)] [.int w138v] w138M _
            rcases w138x0 (w7n + 1) (by omega) with ⟨w139v, w139e, w139x, w139_1, w139_2, w139_3, w139_4, w139_5, w139_6, w139_7, w139_8, w139_9, w139_10⟩ | ⟨w139v, w139_8, w139z⟩
            · skip
              have w139y := x0.rg w139e
              refine zs_if_eqF (pc := 104) t343_104 rfl (by omega) ?_
              refine zs_aload_n (pc := 107) t343_107 rfl ?_
              refine zs_iload (pc := 108) t343_108 rfl ?_
              refine zs_iload_n (pc := 110) t343_110 rfl ?_
              refine zs_icmp_neF (pc := 111) t343_111 li1 li1 (by decide) ?_
              refine zs_bipush (pc := 114) t343_114 (v := 59) (by decide) ?_
              refine zs_goto (pc := 116) t343_116 ?_
              have w140 := ib336_6 w138I
              have w141 : (zI w138M 336 6).toInt = (zI w138M 336 6).toInt := (congrArg Int32.toInt rfl).trans rfl
              have w142 : (59 : Int32).toInt = 59 := li59
              have w143 : (zI w138M 336 5).toInt = (zI M 336 5).toInt := (congrArg Int32.toInt ((w138F 336 5 rfl).trans ((zIoj (by decide)).trans ((zIo (by decide)).trans rfl)))).trans rfl
              have w144 : (zI w138M 336 6).toInt = (zI w138M 336 6).toInt := (congrArg Int32.toInt rfl).trans rfl
              have w145 := ib336_7 w138I
              have w146 : (zI w138M 336 7).toInt = (zI w138M 336 7).toInt := (congrArg Int32.toInt rfl).trans rfl
              refine zs_invV (pc := 121) (k := 336) (as' := [.int (59 : Int32)]) (st := []) t343_121 mf246 rfl rfl (Or.inl ⟨by decide, (zk1 (w138s.k fk_zMm_336))⟩) ⟨by decide, by decide, Nat.le_of_ble_eq_true rfl, Nat.le_of_ble_eq_true rfl⟩ (R246 w138s w138I ⟨by decide, by decide⟩ (by omega) (by omega) (by omega) (zTm.mk x0 (fun j => ((w138F 339 j rfl).trans ((zIo (by decide)).trans (zIo (by decide))))) ((w138F 336 5 rfl).trans ((zIoj (by decide)).trans (zIo (by decide))))) ?_) (fun _ _ q => q)
              intro w147M w147v w147s w147I w147F w147J w147x0 w147a w147b
              show zGo X l 3 0 0 343 124 [(4, .int (1 : Int32)), (3, .int w128v), (2, .int (1 : Int32)), (1, .int (zhere M)), (0, .ref 336)] [.int w147v] w147M _
              rw [show (59 : Int32).toInt = 59 by decide] at w147x0
              rcases w147x0 w139e (by omega) with ⟨w148v, w148_1, w148_2, w148_3, w148_4⟩ | ⟨w148v, w148_1, w148_4⟩
              · skip
                refine zs_if_neT (pc := 124) t343_124 rfl (by omega) ?_
                refine zs_aload_n (pc := 129) t343_129 rfl ?_
                refine zs_get (pc := 130) t343_130 (by decide) (zk1 (w147s.k fk_zMm_336)) (w147s.p rfl fv_zMm_336_46) ?_
                refine zs_iload_n (pc := 133) t343_133 rfl ?_
                refine zs_iload (pc := 134) t343_134 rfl ?_
                obtain ⟨w149v, w149e, w149⟩ := ziadd (a := w128v) (b := (1 : Int32)) w128g li1 (by omega) (by omega)
                refine zs_iadd (pc := 136) t343_136 (c := w149v) w149e ?_
                refine zs_aload_n (pc := 137) t343_137 rfl ?_
                have w150 := zrg (zI w138M 336 8)
                refine zs_get (pc := 138) t343_138 (by decide) (zk1 (w147s.k fk_zMm_336)) (zfvi rfl ((w147F 336 8 rfl).trans rfl)) ?_
                have w151 : zIv mLo mHi (zsI w147M 362 (1 + 4 * w10n) (zI w138M 336 8)) := zIv.put w147I (show (-2147483648) ≤ (zI w138M 336 8).toInt ∧ (zI w138M 336 8).toInt ≤ 2147483647 from zrg (zI w138M 336 8))
                refine zs_iast (pc := 141) t343_141 (j := (1 + 4 * w10n)) (by decide) (zk1 (w147s.k fk_zMm_362)) (show w149v.toInt = (((1 + 4 * w10n) : Nat) : Int) by omega) (zk2 (w147s.k fk_zMm_362) (by omega)) ?_
                refine zs_iinc (pc := 142) t343_142 (ls' := [(4, .int (2 : Int32)), (3, .int w128v), (2, .int (1 : Int32)), (1, .int (zhere M)), (0, .ref 336)]) (zml mf343 (by decide)) rfl (c := 2) (by decide) rfl ?_
                refine zs_goto (pc := 145) t343_145 ?_
                refine zs_iload (pc := 88) t343_88 rfl ?_
                refine zs_iload_n (pc := 90) t343_90 rfl ?_
                refine zs_icmp_gtT (pc := 91) t343_91 li2 li1 (by decide) ?_
                refine zs_aload_n (pc := 148) t343_148 rfl ?_
                refine zs_dup (pc := 149) t343_149 rfl ?_
                refine zs_get (pc := 150) t343_150 (by decide) (zk1 (w147s.k fk_zMm_336)) (zfvi rfl ((zIo (by decide)).trans ((w147F 336 47 rfl).trans ((w138F 336 47 rfl).trans ((zIoj (by decide)).trans ((zIo (by decide)).trans rfl)))))) ?_
                refine zs_iconst (pc := 153) t343_153 (v := 1) (by decide) ?_
                obtain ⟨w152v, w152e, w152⟩ := ziadd (a := (zI M 336 47)) (b := (1 : Int32)) rfl li1 (by omega) (by omega)
                refine zs_iadd (pc := 154) t343_154 (c := w152v) w152e ?_
                have w153 : zIv mLo mHi (zsI (zsI w147M 362 (1 + 4 * w10n) (zI w138M 336 8)) 336 47 w152v) := zIv.put w151 (show 0 ≤ w152v.toInt ∧ w152v.toInt ≤ 20 from ⟨by omega, by omega⟩)
                refine zs_putI (pc := 155) t343_155 (zk1 (w147s.k fk_zMm_336)) rfl ?_
                refine zs_iconst (pc := 158) t343_158 (v := 1) (by decide) ?_
                have w154 : (1 : Int32).toInt = 1 := li1
                have w155 := ib336_6 w147I
                have w156 : (zI (zsI (zsI w147M 362 (1 + 4 * w10n) (zI w138M 336 8)) 336 47 w152v) 336 6).toInt = (zI w147M 336 6).toInt := (congrArg Int32.toInt ((zIoj (by decide)).trans ((zIo (by decide)).trans rfl))).trans rfl
                have w157 := ib336_7 w147I
                have w158 : (zI (zsI (zsI w147M 362 (1 + 4 * w10n) (zI w138M 336 8)) 336 47 w152v) 336 7).toInt = (zI w147M 336 7).toInt := (congrArg Int32.toInt ((zIoj (by decide)).trans ((zIo (by decide)).trans rfl))).trans rfl
                have w159 : (zI (zsI (zsI w147M 362 (1 + 4 * w10n) (zI w138M 336 8)) 336 47 w152v) 336 47).toInt = ((zI M 336 47).toInt + 1) := (congrArg Int32.toInt zIs).trans w152
                exact zs_iret (pc := 159) t343_159 mr343 (by decide) (hQ _ _ w147s w153 (((((((zFr.refl).put rfl).put rfl).trans (w138F.mono rfl)).trans (w147F.mono rfl)).put rfl).put rfl) (w147J.trans w138J) ⟨(fun p k hp hk => by obtain rfl : w7n = p := (by omega); obtain rfl : w10n = k := (by omega); exact Or.inl ⟨by decide, by omega, w139e + 1, _, ((pAc.o (L := 110) (by omega) (by decide)).trans (pB.y (pRd.y w139_1 (by omega) (by omega) (by omega)))), by omega, by omega, by omega, by omega, by omega, ⟨(by rw [show 4 * w10n = (4 * w10n) by omega]; have z := ((congrArg Int32.toInt ((zIo (by decide)).trans ((zIoj (by omega)).trans ((w147F 362 (4 * w10n) rfl).trans ((w138F 362 (4 * w10n) rfl).trans ((zIo (by decide)).trans zIs)))))).trans rfl); omega), (by rw [show 4 * w10n + 1 = (1 + 4 * w10n) by omega]; have z := ((congrArg Int32.toInt ((zIo (by decide)).trans zIs)).trans rfl); omega), (fun z => absurd z (by decide)), by decide⟩⟩), (fun j hj => ((zIo (by decide)).trans ((zIoj (by omega)).trans ((w147F 362 j rfl).trans ((w138F 362 j rfl).trans ((zIo (by decide)).trans (zIoj (by omega))))))))⟩ (by decide) (by decide))
              · skip
                refine zs_if_neF (pc := 124) t343_124 rfl (by omega) ?_
                refine zs_iconst (pc := 127) t343_127 (v := 0) (by decide) ?_
                have w160 : (0 : Int32).toInt = 0 := li0
                have w161 := ib336_6 w147I
                have w162 : (zI w147M 336 6).toInt = (zI w147M 336 6).toInt := (congrArg Int32.toInt rfl).trans rfl
                have w163 := ib336_7 w147I
                have w164 : (zI w147M 336 7).toInt = (zI w147M 336 7).toInt := (congrArg Int32.toInt rfl).trans rfl
                have w165 : (zI w147M 336 47).toInt = (zI M 336 47).toInt := (congrArg Int32.toInt ((w147F 336 47 rfl).trans ((w138F 336 47 rfl).trans ((zIoj (by decide)).trans ((zIo (by decide)).trans rfl))))).trans rfl
                exact zs_iret (pc := 128) t343_128 mr343 (by decide) (hQ _ _ w147s w147I (((((zFr.refl).put rfl).put rfl).trans (w138F.mono rfl)).trans (w147F.mono rfl)) (w147J.trans w138J) ⟨(fun p k hp hk => by obtain rfl : w7n = p := (by omega); obtain rfl : w10n = k := (by omega); exact Or.inr ⟨by decide, by omega, Or.inr ((pAc.o (L := 110) (by omega) (by decide)).trans (pB.f (pRd.n w139_1 (by omega))))⟩), (fun j hj => ((w147F 362 j rfl).trans ((w138F 362 j rfl).trans ((zIo (by decide)).trans (zIoj (by omega))))))⟩ (by decide) (by decide))
            · skip
              rw [show (-9999 : Int32).toInt = -9999 by decide, show (9999 : Int32).toInt = 9999 by decide] at w139z
              refine zs_if_eqT (pc := 104) t343_104 rfl (by omega) ?_
              refine zs_iconst (pc := 127) t343_127 (v := 0) (by decide) ?_
              have w166 : (0 : Int32).toInt = 0 := li0
              have w167 := ib336_6 w138I
              have w168 : (zI w138M 336 6).toInt = (zI w138M 336 6).toInt := (congrArg Int32.toInt rfl).trans rfl
              have w169 := ib336_7 w138I
              have w170 : (zI w138M 336 7).toInt = (zI w138M 336 7).toInt := (congrArg Int32.toInt rfl).trans rfl
              have w171 : (zI w138M 336 47).toInt = (zI M 336 47).toInt := (congrArg Int32.toInt ((w138F 336 47 rfl).trans ((zIoj (by decide)).trans ((zIo (by decide)).trans rfl)))).trans rfl
              exact zs_iret (pc := 128) t343_128 mr343 (by decide) (hQ _ _ w138s w138I ((((zFr.refl).put rfl).put rfl).trans (w138F.mono rfl)) w138J ⟨(fun p k hp hk => by obtain rfl : w7n = p := (by omega); obtain rfl : w10n = k := (by omega); exact Or.inr ⟨by decide, by omega, Or.inr ((pAc.o (L := 110) (by omega) (by decide)).trans (pB.f (by rcases w139z with q | ⟨e, x, q, q2⟩; exact pRd.f q; exact pRd.n q (by omega))))⟩), (fun j hj => ((w138F 362 j rfl).trans ((zIo (by decide)).trans (zIoj (by omega)))))⟩ (by decide) (by decide))
          · refine zs_icmp_neF (pc := 49) t343_49 rfl li20 (by omega) ?_
            refine zs_aload_n (pc := 52) t343_52 rfl ?_
            refine zs_aload_n (pc := 53) t343_53 rfl ?_
            refine zs_get (pc := 54) t343_54 (by decide) (zk1 (hs.k fk_zMm_336)) (zfvi rfl rfl) ?_
            refine zs_invV (pc := 57) (k := 336) (as' := [.int (zI M 336 6)]) (st := []) t343_57 mf239 rfl rfl (Or.inl ⟨by decide, (zk1 (hs.k fk_zMm_336))⟩) ⟨by decide, by decide, Nat.le_of_ble_eq_true rfl, Nat.le_of_ble_eq_true rfl⟩ (zs_in (by decide) mf239 (Nat.le_of_ble_eq_true rfl) ?_) (fun _ _ q => q)
            show zGo X l 0 0 0 239 0 [(0, .ref 336), (1, .int (zI M 336 6))] [] M _
            refine zs_aload_n (pc := 0) t239_0 rfl ?_
            refine zs_iload_n (pc := 1) t239_1 rfl ?_
            have w172 : zIv mLo mHi (zsI M 336 7 (zI M 336 6)) := zIv.put hI (show (-1) ≤ (zI M 336 6).toInt ∧ (zI M 336 6).toInt ≤ 500 from ⟨by omega, by omega⟩)
            refine zs_putI (pc := 2) t239_2 (zk1 (hs.k fk_zMm_336)) rfl ?_
            refine zs_iconst (pc := 5) t239_5 (v := 0) (by decide) ?_
            refine zs_iret (pc := 6) t239_6 mr239 (by decide) ?_
            show zGo X l 3 0 0 343 60 [(2, .int (1 : Int32)), (1, .int (zhere M)), (0, .ref 336)] [.int (0 : Int32)] (zsI M 336 7 (zI M 336 6)) _
            have w173 : (0 : Int32).toInt = 0 := li0
            have w174 : (zI (zsI M 336 7 (zI M 336 6)) 336 6).toInt = (zI M 336 6).toInt := (congrArg Int32.toInt ((zIoj (by decide)).trans rfl)).trans rfl
            have w175 : (zI (zsI M 336 7 (zI M 336 6)) 336 7).toInt = (zI M 336 6).toInt := (congrArg Int32.toInt zIs).trans rfl
            have w176 : (zI (zsI M 336 7 (zI M 336 6)) 336 47).toInt = (zI M 336 47).toInt := (congrArg Int32.toInt ((zIoj (by decide)).trans rfl)).trans rfl
            exact zs_iret (pc := 60) t343_60 mr343 (by decide) (hQ _ _ hs w172 ((zFr.refl).put rfl) rfl ⟨(fun p k hp hk => by obtain rfl : w7n = p := (by omega); obtain rfl : w10n = k := (by omega); exact Or.inr ⟨by decide, by omega, by first | exact Or.inl (by omega) | exact Or.inr (pAc.no (by omega))⟩), (fun j hj => (zIo (by decide)))⟩ (by decide) (by decide))
  · refine zs_icmp_neF (pc := 8) t343_8 rfl li104 (by omega) ?_
    refine zs_iconst (pc := 11) t343_11 (v := 3) (by decide) ?_
    refine zs_goto (pc := 12) t343_12 ?_
    refine zs_istore_n (pc := 38) t343_38 (ls' := [(2, .int (3 : Int32)), (1, .int (zhere M)), (0, .ref 336)]) (zml mf343 (by decide)) rfl ?_
    refine zs_iload_n (pc := 39) t343_39 rfl ?_
    refine zs_if_eqF (pc := 40) t343_40 li3 (by decide) ?_
    refine zs_aload_n (pc := 43) t343_43 rfl ?_
    refine zs_get (pc := 44) t343_44 (by decide) (zk1 (hs.k fk_zMm_336)) (zfvi rfl rfl) ?_
    refine zs_bipush (pc := 47) t343_47 (v := 20) (by decide) ?_
    by_cases w177 : (zI M 336 47).toInt ≠ 20
    · refine zs_icmp_neT (pc := 49) t343_49 rfl li20 (by omega) ?_
      refine zs_iconst (pc := 61) t343_61 (v := 4) (by decide) ?_
      refine zs_aload_n (pc := 62) t343_62 rfl ?_
      refine zs_get (pc := 63) t343_63 (by decide) (zk1 (hs.k fk_zMm_336)) (zfvi rfl rfl) ?_
      obtain ⟨w178v, w178⟩ : ∃ v, (4 : Int32) * (zI M 336 47) = v := ⟨_, rfl⟩
      have w178g : w178v.toInt = 4 * (zI M 336 47).toInt := by rw [← w178]; exact zmulc li4 rfl (by omega) (by omega)
      refine zs_imul (pc := 66) t343_66 (c := w178v) w178 ?_
      refine zs_istore_n (pc := 67) t343_67 (ls' := [(3, .int w178v), (2, .int (3 : Int32)), (1, .int (zhere M)), (0, .ref 336)]) (zml mf343 (by decide)) rfl ?_
      refine zs_aload_n (pc := 68) t343_68 rfl ?_
      refine zs_get (pc := 69) t343_69 (by decide) (zk1 (hs.k fk_zMm_336)) (hs.p rfl fv_zMm_336_46) ?_
      refine zs_iload_n (pc := 72) t343_72 rfl ?_
      refine zs_iload_n (pc := 73) t343_73 rfl ?_
      have w179 : zIv mLo mHi (zsI M 362 (4 * w10n) (zhere M)) := zIv.put hI (show (-2147483648) ≤ (zhere M).toInt ∧ (zhere M).toInt ≤ 2147483647 from zrg (zhere M))
      refine zs_iast (pc := 74) t343_74 (j := (4 * w10n)) (by decide) (zk1 (hs.k fk_zMm_362)) (show w178v.toInt = (((4 * w10n) : Nat) : Int) by omega) (zk2 (hs.k fk_zMm_362) (by omega)) ?_
      refine zs_aload_n (pc := 75) t343_75 rfl ?_
      refine zs_dup (pc := 76) t343_76 rfl ?_
      refine zs_get (pc := 77) t343_77 (by decide) (zk1 (hs.k fk_zMm_336)) (zfvi rfl ((zIo (by decide)).trans rfl)) ?_
      refine zs_iconst (pc := 80) t343_80 (v := 1) (by decide) ?_
      obtain ⟨w180v, w180e, w180⟩ := ziadd (a := (zI M 336 6)) (b := (1 : Int32)) rfl li1 (by omega) (by omega)
      refine zs_iadd (pc := 81) t343_81 (c := w180v) w180e ?_
      have w181 : zIv mLo mHi (zsI (zsI M 362 (4 * w10n) (zhere M)) 336 6 w180v) := zIv.put w179 (show 0 ≤ w180v.toInt ∧ w180v.toInt ≤ 500 from ⟨by omega, by omega⟩)
      refine zs_putI (pc := 82) t343_82 (zk1 (hs.k fk_zMm_336)) rfl ?_
      refine zs_iconst (pc := 85) t343_85 (v := 1) (by decide) ?_
      refine zs_istore (pc := 86) t343_86 (ls' := [(4, .int (1 : Int32)), (3, .int w178v), (2, .int (3 : Int32)), (1, .int (zhere M)), (0, .ref 336)]) (zml mf343 (by decide)) rfl ?_
      refine zs_iload (pc := 88) t343_88 rfl ?_
      refine zs_iload_n (pc := 90) t343_90 rfl ?_
      refine zs_icmp_gtF (pc := 91) t343_91 li1 li3 (by decide) ?_
      refine zs_aload_n (pc := 94) t343_94 rfl ?_
      refine zs_sipush (pc := 95) t343_95 (v := -9999) (by decide) ?_
      refine zs_sipush (pc := 98) t343_98 (v := 9999) (by decide) ?_
      have w182 : (zI (zsI (zsI M 362 (4 * w10n) (zhere M)) 336 6 w180v) 336 6).toInt = ((zI M 336 6).toInt + 1) := (congrArg Int32.toInt zIs).trans w180
      have w183 : (-9999 : Int32).toInt = (-9999) := lin9999
      have w184 : (9999 : Int32).toInt = 9999 := li9999
      have w185 : (zI (zsI (zsI M 362 (4 * w10n) (zhere M)) 336 6 w180v) 336 5).toInt = (zI M 336 5).toInt := (congrArg Int32.toInt ((zIoj (by decide)).trans ((zIo (by decide)).trans rfl))).trans rfl
      have w186 : (zI (zsI (zsI M 362 (4 * w10n) (zhere M)) 336 6 w180v) 336 6).toInt = ((zI M 336 6).toInt + 1) := (congrArg Int32.toInt zIs).trans w180
      have w187 : (zI (zsI (zsI M 362 (4 * w10n) (zhere M)) 336 6 w180v) 336 7).toInt = (zI M 336 7).toInt := (congrArg Int32.toInt ((zIoj (by decide)).trans ((zIo (by decide)).trans rfl))).trans rfl
      refine zs_invV (pc := 101) (k := 336) (as' := [.int (-9999 : Int32), .int (9999 : Int32)]) (st := []) t343_101 mf243 rfl rfl (Or.inl ⟨by decide, (zk1 (hs.k fk_zMm_336))⟩) ⟨by decide, by decide, Nat.le_of_ble_eq_true rfl, Nat.le_of_ble_eq_true rfl⟩ (R243 hs w181 (by omega) (by omega) (by omega) (zTm.mk x0 (fun j => ((zIo (by decide)).trans (zIo (by decide)))) ((zIoj (by decide)).trans (zIo (by decide)))) ?_) (fun _ _ q => q)
      intro w188M w188v w188s w188I w188F w188J w188x0 w188a w188b
      show zGo X l 3 0 0 343 104 [(4, .int (1 : Int32)), (3, .int w178v), (2, .int (3 : Int32)), (1, .int (zhere M)), (0, .ref 336)] [.int w188v] w188M _
      rcases w188x0 (w7n + 1) (by omega) with ⟨w189v, w189e, w189x, w189_1, w189_2, w189_3, w189_4, w189_5, w189_6, w189_7, w189_8, w189_9, w189_10⟩ | ⟨w189v, w189_8, w189z⟩
      · skip
        have w189y := x0.rg w189e
        refine zs_if_eqF (pc := 104) t343_104 rfl (by omega) ?_
        refine zs_aload_n (pc := 107) t343_107 rfl ?_
        refine zs_iload (pc := 108) t343_108 rfl ?_
        refine zs_iload_n (pc := 110) t343_110 rfl ?_
        refine zs_icmp_neT (pc := 111) t343_111 li1 li3 (by decide) ?_
        refine zs_bipush (pc := 119) t343_119 (v := 44) (by decide) ?_
        have w190 := ib336_6 w188I
        have w191 : (zI w188M 336 6).toInt = (zI w188M 336 6).toInt := (congrArg Int32.toInt rfl).trans rfl
        have w192 : (44 : Int32).toInt = 44 := li44
        have w193 : (zI w188M 336 5).toInt = (zI M 336 5).toInt := (congrArg Int32.toInt ((w188F 336 5 rfl).trans ((zIoj (by decide)).trans ((zIo (by decide)).trans rfl)))).trans rfl
        have w194 : (zI w188M 336 6).toInt = (zI w188M 336 6).toInt := (congrArg Int32.toInt rfl).trans rfl
        have w195 := ib336_7 w188I
        have w196 : (zI w188M 336 7).toInt = (zI w188M 336 7).toInt := (congrArg Int32.toInt rfl).trans rfl
        refine zs_invV (pc := 121) (k := 336) (as' := [.int (44 : Int32)]) (st := []) t343_121 mf246 rfl rfl (Or.inl ⟨by decide, (zk1 (w188s.k fk_zMm_336))⟩) ⟨by decide, by decide, Nat.le_of_ble_eq_true rfl, Nat.le_of_ble_eq_true rfl⟩ (R246 w188s w188I ⟨by decide, by decide⟩ (by omega) (by omega) (by omega) (zTm.mk x0 (fun j => ((w188F 339 j rfl).trans ((zIo (by decide)).trans (zIo (by decide))))) ((w188F 336 5 rfl).trans ((zIoj (by decide)).trans (zIo (by decide))))) ?_) (fun _ _ q => q)
        intro w197M w197v w197s w197I w197F w197J w197x0 w197a w197b
        show zGo X l 3 0 0 343 124 [(4, .int (1 : Int32)), (3, .int w178v), (2, .int (3 : Int32)), (1, .int (zhere M)), (0, .ref 336)] [.int w197v] w197M _
        rw [show (44 : Int32).toInt = 44 by decide] at w197x0
        rcases w197x0 w189e (by omega) with ⟨w198v, w198_1, w198_2, w198_3, w198_4⟩ | ⟨w198v, w198_1, w198_4⟩
        · skip
          refine zs_if_neT (pc := 124) t343_124 rfl (by omega) ?_
          refine zs_aload_n (pc := 129) t343_129 rfl ?_
          refine zs_get (pc := 130) t343_130 (by decide) (zk1 (w197s.k fk_zMm_336)) (w197s.p rfl fv_zMm_336_46) ?_
          refine zs_iload_n (pc := 133) t343_133 rfl ?_
          refine zs_iload (pc := 134) t343_134 rfl ?_
          obtain ⟨w199v, w199e, w199⟩ := ziadd (a := w178v) (b := (1 : Int32)) w178g li1 (by omega) (by omega)
          refine zs_iadd (pc := 136) t343_136 (c := w199v) w199e ?_
          refine zs_aload_n (pc := 137) t343_137 rfl ?_
          have w200 := zrg (zI w188M 336 8)
          refine zs_get (pc := 138) t343_138 (by decide) (zk1 (w197s.k fk_zMm_336)) (zfvi rfl ((w197F 336 8 rfl).trans rfl)) ?_
          have w201 : zIv mLo mHi (zsI w197M 362 (1 + 4 * w10n) (zI w188M 336 8)) := zIv.put w197I (show (-2147483648) ≤ (zI w188M 336 8).toInt ∧ (zI w188M 336 8).toInt ≤ 2147483647 from zrg (zI w188M 336 8))
          refine zs_iast (pc := 141) t343_141 (j := (1 + 4 * w10n)) (by decide) (zk1 (w197s.k fk_zMm_362)) (show w199v.toInt = (((1 + 4 * w10n) : Nat) : Int) by omega) (zk2 (w197s.k fk_zMm_362) (by omega)) ?_
          refine zs_iinc (pc := 142) t343_142 (ls' := [(4, .int (2 : Int32)), (3, .int w178v), (2, .int (3 : Int32)), (1, .int (zhere M)), (0, .ref 336)]) (zml mf343 (by decide)) rfl (c := 2) (by decide) rfl ?_
          refine zs_goto (pc := 145) t343_145 ?_
          refine zs_iload (pc := 88) t343_88 rfl ?_
          refine zs_iload_n (pc := 90) t343_90 rfl ?_
          refine zs_icmp_gtF (pc := 91) t343_91 li2 li3 (by decide) ?_
          refine zs_aload_n (pc := 94) t343_94 rfl ?_
          refine zs_sipush (pc := 95) t343_95 (v := -9999) (by decide) ?_
          refine zs_sipush (pc := 98) t343_98 (v := 9999) (by decide) ?_
          have w202 := ib336_6 w197I
          have w203 : (zI (zsI w197M 362 (1 + 4 * w10n) (zI w188M 336 8)) 336 6).toInt = (zI w197M 336 6).toInt := (congrArg Int32.toInt ((zIo (by decide)).trans rfl)).trans rfl
          obtain ⟨w204n, w204⟩ : ∃ n : Nat, (zI w197M 336 6).toInt = (n : Int) := ⟨((zI w197M 336 6).toInt).toNat, by omega⟩
          have w205 : (-9999 : Int32).toInt = (-9999) := lin9999
          have w206 : (9999 : Int32).toInt = 9999 := li9999
          have w207 : (zI (zsI w197M 362 (1 + 4 * w10n) (zI w188M 336 8)) 336 5).toInt = (zI M 336 5).toInt := (congrArg Int32.toInt ((zIo (by decide)).trans ((w197F 336 5 rfl).trans ((w188F 336 5 rfl).trans ((zIoj (by decide)).trans ((zIo (by decide)).trans rfl)))))).trans rfl
          have w208 : (zI (zsI w197M 362 (1 + 4 * w10n) (zI w188M 336 8)) 336 6).toInt = (zI w197M 336 6).toInt := (congrArg Int32.toInt ((zIo (by decide)).trans rfl)).trans rfl
          have w209 := ib336_7 w197I
          have w210 : (zI (zsI w197M 362 (1 + 4 * w10n) (zI w188M 336 8)) 336 7).toInt = (zI w197M 336 7).toInt := (congrArg Int32.toInt ((zIo (by decide)).trans rfl)).trans rfl
          refine zs_invV (pc := 101) (k := 336) (as' := [.int (-9999 : Int32), .int (9999 : Int32)]) (st := []) t343_101 mf243 rfl rfl (Or.inl ⟨by decide, (zk1 (w197s.k fk_zMm_336))⟩) ⟨by decide, by decide, Nat.le_of_ble_eq_true rfl, Nat.le_of_ble_eq_true rfl⟩ (R243 w197s w201 (by omega) (by omega) (by omega) (zTm.mk x0 (fun j => ((zIo (by decide)).trans ((w197F 339 j rfl).trans ((w188F 339 j rfl).trans ((zIo (by decide)).trans (zIo (by decide))))))) ((zIo (by decide)).trans ((w197F 336 5 rfl).trans ((w188F 336 5 rfl).trans ((zIoj (by decide)).trans (zIo (by decide))))))) ?_) (fun _ _ q => q)
          intro w211M w211v w211s w211I w211F w211J w211x0 w211a w211b
          show zGo X l 3 0 0 343 104 [(4, .int (2 : Int32)), (3, .int w178v), (2, .int (3 : Int32)), (1, .int (zhere M)), (0, .ref 336)] [.int w211v] w211M _
          rcases w211x0 w204n (by omega) with ⟨w212v, w212e, w212x, w212_1, w212_2, w212_3, w212_4, w212_5, w212_6, w212_7, w212_8, w212_9, w212_10⟩ | ⟨w212v, w212_8, w212z⟩
          · skip
            have w212y := x0.rg w212e
            refine zs_if_eqF (pc := 104) t343_104 rfl (by omega) ?_
            refine zs_aload_n (pc := 107) t343_107 rfl ?_
            refine zs_iload (pc := 108) t343_108 rfl ?_
            refine zs_iload_n (pc := 110) t343_110 rfl ?_
            refine zs_icmp_neT (pc := 111) t343_111 li2 li3 (by decide) ?_
            refine zs_bipush (pc := 119) t343_119 (v := 44) (by decide) ?_
            have w213 := ib336_6 w211I
            have w214 : (zI w211M 336 6).toInt = (zI w211M 336 6).toInt := (congrArg Int32.toInt rfl).trans rfl
            have w215 : (44 : Int32).toInt = 44 := li44
            have w216 : (zI w211M 336 5).toInt = (zI M 336 5).toInt := (congrArg Int32.toInt ((w211F 336 5 rfl).trans ((zIo (by decide)).trans ((w197F 336 5 rfl).trans ((w188F 336 5 rfl).trans ((zIoj (by decide)).trans ((zIo (by decide)).trans rfl))))))).trans rfl
            have w217 : (zI w211M 336 6).toInt = (zI w211M 336 6).toInt := (congrArg Int32.toInt rfl).trans rfl
            have w218 := ib336_7 w211I
            have w219 : (zI w211M 336 7).toInt = (zI w211M 336 7).toInt := (congrArg Int32.toInt rfl).trans rfl
            refine zs_invV (pc := 121) (k := 336) (as' := [.int (44 : Int32)]) (st := []) t343_121 mf246 rfl rfl (Or.inl ⟨by decide, (zk1 (w211s.k fk_zMm_336))⟩) ⟨by decide, by decide, Nat.le_of_ble_eq_true rfl, Nat.le_of_ble_eq_true rfl⟩ (R246 w211s w211I ⟨by decide, by decide⟩ (by omega) (by omega) (by omega) (zTm.mk x0 (fun j => ((w211F 339 j rfl).trans ((zIo (by decide)).trans ((w197F 339 j rfl).trans ((w188F 339 j rfl).trans ((zIo (by decide)).trans (zIo (by decide)))))))) ((w211F 336 5 rfl).trans ((zIo (by decide)).trans ((w197F 336 5 rfl).trans ((w188F 336 5 rfl).trans ((zIoj (by decide)).trans (zIo (by decide)))))))) ?_) (fun _ _ q => q)
            intro w220M w220v w220s w220I w220F w220J w220x0 w220a w220b
            show zGo X l 3 0 0 343 124 [(4, .int (2 : Int32)), (3, .int w178v), (2, .int (3 : Int32)), (1, .int (zhere M)), (0, .ref 336)] [.int w220v] w220M _
            rw [show (44 : Int32).toInt = 44 by decide] at w220x0
            rcases w220x0 w212e (by omega) with ⟨w221v, w221_1, w221_2, w221_3, w221_4⟩ | ⟨w221v, w221_1, w221_4⟩
            · skip
              refine zs_if_neT (pc := 124) t343_124 rfl (by omega) ?_
              refine zs_aload_n (pc := 129) t343_129 rfl ?_
              refine zs_get (pc := 130) t343_130 (by decide) (zk1 (w220s.k fk_zMm_336)) (w220s.p rfl fv_zMm_336_46) ?_
              refine zs_iload_n (pc := 133) t343_133 rfl ?_
              refine zs_iload (pc := 134) t343_134 rfl ?_
              obtain ⟨w222v, w222e, w222⟩ := ziadd (a := w178v) (b := (2 : Int32)) w178g li2 (by omega) (by omega)
              refine zs_iadd (pc := 136) t343_136 (c := w222v) w222e ?_
              refine zs_aload_n (pc := 137) t343_137 rfl ?_
              have w223 := zrg (zI w211M 336 8)
              refine zs_get (pc := 138) t343_138 (by decide) (zk1 (w220s.k fk_zMm_336)) (zfvi rfl ((w220F 336 8 rfl).trans rfl)) ?_
              have w224 : zIv mLo mHi (zsI w220M 362 (2 + 4 * w10n) (zI w211M 336 8)) := zIv.put w220I (show (-2147483648) ≤ (zI w211M 336 8).toInt ∧ (zI w211M 336 8).toInt ≤ 2147483647 from zrg (zI w211M 336 8))
              refine zs_iast (pc := 141) t343_141 (j := (2 + 4 * w10n)) (by decide) (zk1 (w220s.k fk_zMm_362)) (show w222v.toInt = (((2 + 4 * w10n) : Nat) : Int) by omega) (zk2 (w220s.k fk_zMm_362) (by omega)) ?_
              refine zs_iinc (pc := 142) t343_142 (ls' := [(4, .int (3 : Int32)), (3, .int w178v), (2, .int (3 : Int32)), (1, .int (zhere M)), (0, .ref 336)]) (zml mf343 (by decide)) rfl (c := 3) (by decide) rfl ?_
              refine zs_goto (pc := 145) t343_145 ?_
              refine zs_iload (pc := 88) t343_88 rfl ?_
              refine zs_iload_n (pc := 90) t343_90 rfl ?_
              refine zs_icmp_gtF (pc := 91) t343_91 li3 li3 (by decide) ?_
              refine zs_aload_n (pc := 94) t343_94 rfl ?_
              refine zs_sipush (pc := 95) t343_95 (v := -9999) (by decide) ?_
              refine zs_sipush (pc := 98) t343_98 (v := 9999) (by decide) ?_
              have w225 := ib336_6 w220I
              have w226 : (zI (zsI w220M 362 (2 + 4 * w10n) (zI w211M 336 8)) 336 6).toInt = (zI w220M 336 6).toInt := (congrArg Int32.toInt ((zIo (by decide)).trans rfl)).trans rfl
              obtain ⟨w227n, w227⟩ : ∃ n : Nat, (zI w220M 336 6).toInt = (n : Int) := ⟨((zI w220M 336 6).toInt).toNat, by omega⟩
              have w228 : (-9999 : Int32).toInt = (-9999) := lin9999
              have w229 : (9999 : Int32).toInt = 9999 := li9999
              have w230 : (zI (zsI w220M 362 (2 + 4 * w10n) (zI w211M 336 8)) 336 5).toInt = (zI M 336 5).toInt := (congrArg Int32.toInt ((zIo (by decide)).trans ((w220F 336 5 rfl).trans ((w211F 336 5 rfl).trans ((zIo (by decide)).trans ((w197F 336 5 rfl).trans ((w188F 336 5 rfl).trans ((zIoj (by decide)).trans ((zIo (by decide)).trans rfl))))))))).trans rfl
              have w231 : (zI (zsI w220M 362 (2 + 4 * w10n) (zI w211M 336 8)) 336 6).toInt = (zI w220M 336 6).toInt := (congrArg Int32.toInt ((zIo (by decide)).trans rfl)).trans rfl
              have w232 := ib336_7 w220I
              have w233 : (zI (zsI w220M 362 (2 + 4 * w10n) (zI w211M 336 8)) 336 7).toInt = (zI w220M 336 7).toInt := (congrArg Int32.toInt ((zIo (by decide)).trans rfl)).trans rfl
              refine zs_invV (pc := 101) (k := 336) (as' := [.int (-9999 : Int32), .int (9999 : Int32)]) (st := []) t343_101 mf243 rfl rfl (Or.inl ⟨by decide, (zk1 (w220s.k fk_zMm_336))⟩) ⟨by decide, by decide, Nat.le_of_ble_eq_true rfl, Nat.le_of_ble_eq_true rfl⟩ (R243 w220s w224 (by omega) (by omega) (by omega) (zTm.mk x0 (fun j => ((zIo (by decide)).trans ((w220F 339 j rfl).trans ((w211F 339 j rfl).trans ((zIo (by decide)).trans ((w197F 339 j rfl).trans ((w188F 339 j rfl).trans ((zIo (by decide)).trans (zIo (by decide)))))))))) ((zIo (by decide)).trans ((w220F 336 5 rfl).trans ((w211F 336 5 rfl).trans ((zIo (by decide)).trans ((w197F 336 5 rfl).trans ((w188F 336 5 rfl).trans ((zIoj (by decide)).trans (zIo (by decide)))))))))) ?_) (fun _ _ q => q)
              intro w234M w234v w234s w234I w234F w234J w234x0 w234a w234b
              show zGo X l 3 0 0 343 104 [(4, .int (3 : Int32)), (3, .int w178v), (2, .int (3 : Int32)), (1, .int (zhere M)), (0, .ref 336)] [.int w234v] w234M _
              rcases w234x0 w227n (by omega) with ⟨w235v, w235e, w235x, w235_1, w235_2, w235_3, w235_4, w235_5, w235_6, w235_7, w235_8, w235_9, w235_10⟩ | ⟨w235v, w235_8, w235z⟩
              · skip
                have w235y := x0.rg w235e
                refine zs_if_eqF (pc := 104) t343_104 rfl (by omega) ?_
                refine zs_aload_n (pc := 107) t343_107 rfl ?_
                refine zs_iload (pc := 108) t343_108 rfl ?_
                refine zs_iload_n (pc := 110) t343_110 rfl ?_
                refine zs_icmp_neF (pc := 111) t343_111 li3 li3 (by decide) ?_
                refine zs_bipush (pc := 114) t343_114 (v := 59) (by decide) ?_
                refine zs_goto (pc := 116) t343_116 ?_
                have w236 := ib336_6 w234I
                have w237 : (zI w234M 336 6).toInt = (zI w234M 336 6).toInt := (congrArg Int32.toInt rfl).trans rfl
                have w238 : (59 : Int32).toInt = 59 := li59
                have w239 : (zI w234M 336 5).toInt = (zI M 336 5).toInt := (congrArg Int32.toInt ((w234F 336 5 rfl).trans ((zIo (by decide)).trans ((w220F 336 5 rfl).trans ((w211F 336 5 rfl).trans ((zIo (by decide)).trans ((w197F 336 5 rfl).trans ((w188F 336 5 rfl).trans ((zIoj (by decide)).trans ((zIo (by decide)).trans rfl)))))))))).trans rfl
                have w240 : (zI w234M 336 6).toInt = (zI w234M 336 6).toInt := (congrArg Int32.toInt rfl).trans rfl
                have w241 := ib336_7 w234I
                have w242 : (zI w234M 336 7).toInt = (zI w234M 336 7).toInt := (congrArg Int32.toInt rfl).trans rfl
                refine zs_invV (pc := 121) (k := 336) (as' := [.int (59 : Int32)]) (st := []) t343_121 mf246 rfl rfl (Or.inl ⟨by decide, (zk1 (w234s.k fk_zMm_336))⟩) ⟨by decide, by decide, Nat.le_of_ble_eq_true rfl, Nat.le_of_ble_eq_true rfl⟩ (R246 w234s w234I ⟨by decide, by decide⟩ (by omega) (by omega) (by omega) (zTm.mk x0 (fun j => ((w234F 339 j rfl).trans ((zIo (by decide)).trans ((w220F 339 j rfl).trans ((w211F 339 j rfl).trans ((zIo (by decide)).trans ((w197F 339 j rfl).trans ((w188F 339 j rfl).trans ((zIo (by decide)).trans (zIo (by decide))))))))))) ((w234F 336 5 rfl).trans ((zIo (by decide)).trans ((w220F 336 5 rfl).trans ((w211F 336 5 rfl).trans ((zIo (by decide)).trans ((w197F 336 5 rfl).trans ((w188F 336 5 rfl).trans ((zIoj (by decide)).trans (zIo (by decide))))))))))) ?_) (fun _ _ q => q)
                intro w243M w243v w243s w243I w243F w243J w243x0 w243a w243b
                show zGo X l 3 0 0 343 124 [(4, .int (3 : Int32)), (3, .int w178v), (2, .int (3 : Int32)), (1, .int (zhere M)), (0, .ref 336)] [.int w243v] w243M _
                rw [show (59 : Int32).toInt = 59 by decide] at w243x0
                rcases w243x0 w235e (by omega) with ⟨w244v, w244_1, w244_2, w244_3, w244_4⟩ | ⟨w244v, w244_1, w244_4⟩
                · skip
                  refine zs_if_neT (pc := 124) t343_124 rfl (by omega) ?_
                  refine zs_aload_n (pc := 129) t343_129 rfl ?_
                  refine zs_get (pc := 130) t343_130 (by decide) (zk1 (w243s.k fk_zMm_336)) (w243s.p rfl fv_zMm_336_46) ?_
                  refine zs_iload_n (pc := 133) t343_133 rfl ?_
                  refine zs_iload (pc := 134) t343_134 rfl ?_
                  obtain ⟨w245v, w245e, w245⟩ := ziadd (a := w178v) (b := (3 : Int32)) w178g li3 (by omega) (by omega)
                  refine zs_iadd (pc := 136) t343_136 (c := w245v) w245e ?_
                  refine zs_aload_n (pc := 137) t343_137 rfl ?_
                  have w246 := zrg (zI w234M 336 8)
                  refine zs_get (pc := 138) t343_138 (by decide) (zk1 (w243s.k fk_zMm_336)) (zfvi rfl ((w243F 336 8 rfl).trans rfl)) ?_
                  have w247 : zIv mLo mHi (zsI w243M 362 (3 + 4 * w10n) (zI w234M 336 8)) := zIv.put w243I (show (-2147483648) ≤ (zI w234M 336 8).toInt ∧ (zI w234M 336 8).toInt ≤ 2147483647 from zrg (zI w234M 336 8))
                  refine zs_iast (pc := 141) t343_141 (j := (3 + 4 * w10n)) (by decide) (zk1 (w243s.k fk_zMm_362)) (show w245v.toInt = (((3 + 4 * w10n) : Nat) : Int) by omega) (zk2 (w243s.k fk_zMm_362) (by omega)) ?_
                  refine zs_iinc (pc := 142) t343_142 (ls' := [(4, .int (4 : Int32)), (3, .int w178v), (2, .int (3 : Int32)), (1, .int (zhere M)), (0, .ref 336)]) (zml mf343 (by decide)) rfl (c := 4) (by decide) rfl ?_
                  refine zs_goto (pc := 145) t343_145 ?_
                  refine zs_iload (pc := 88) t343_88 rfl ?_
                  refine zs_iload_n (pc := 90) t343_90 rfl ?_
                  refine zs_icmp_gtT (pc := 91) t343_91 li4 li3 (by decide) ?_
                  refine zs_aload_n (pc := 148) t343_148 rfl ?_
                  refine zs_dup (pc := 149) t343_149 rfl ?_
                  refine zs_get (pc := 150) t343_150 (by decide) (zk1 (w243s.k fk_zMm_336)) (zfvi rfl ((zIo (by decide)).trans ((w243F 336 47 rfl).trans ((w234F 336 47 rfl).trans ((zIo (by decide)).trans ((w220F 336 47 rfl).trans ((w211F 336 47 rfl).trans ((zIo (by decide)).trans ((w197F 336 47 rfl).trans ((w188F 336 47 rfl).trans ((zIoj (by decide)).trans ((zIo (by decide)).trans rfl)))))))))))) ?_
                  refine zs_iconst (pc := 153) t343_153 (v := 1) (by decide) ?_
                  obtain ⟨w248v, w248e, w248⟩ := ziadd (a := (zI M 336 47)) (b := (1 : Int32)) rfl li1 (by omega) (by omega)
                  refine zs_iadd (pc := 154) t343_154 (c := w248v) w248e ?_
                  have w249 : zIv mLo mHi (zsI (zsI w243M 362 (3 + 4 * w10n) (zI w234M 336 8)) 336 47 w248v) := zIv.put w247 (show 0 ≤ w248v.toInt ∧ w248v.toInt ≤ 20 from ⟨by omega, by omega⟩)
                  refine zs_putI (pc := 155) t343_155 (zk1 (w243s.k fk_zMm_336)) rfl ?_
                  refine zs_iconst (pc := 158) t343_158 (v := 1) (by decide) ?_
                  have w250 : (1 : Int32).toInt = 1 := li1
                  have w251 := ib336_6 w243I
                  have w252 : (zI (zsI (zsI w243M 362 (3 + 4 * w10n) (zI w234M 336 8)) 336 47 w248v) 336 6).toInt = (zI w243M 336 6).toInt := (congrArg Int32.toInt ((zIoj (by decide)).trans ((zIo (by decide)).trans rfl))).trans rfl
                  have w253 := ib336_7 w243I
                  have w254 : (zI (zsI (zsI w243M 362 (3 + 4 * w10n) (zI w234M 336 8)) 336 47 w248v) 336 7).toInt = (zI w243M 336 7).toInt := (congrArg Int32.toInt ((zIoj (by decide)).trans ((zIo (by decide)).trans rfl))).trans rfl
                  have w255 : (zI (zsI (zsI w243M 362 (3 + 4 * w10n) (zI w234M 336 8)) 336 47 w248v) 336 47).toInt = ((zI M 336 47).toInt + 1) := (congrArg Int32.toInt zIs).trans w248
                  exact zs_iret (pc := 159) t343_159 mr343 (by decide) (hQ _ _ w243s w249 (((((((((((((zFr.refl).put rfl).put rfl).trans (w188F.mono rfl)).trans (w197F.mono rfl)).put rfl).trans (w211F.mono rfl)).trans (w220F.mono rfl)).put rfl).trans (w234F.mono rfl)).trans (w243F.mono rfl)).put rfl).put rfl) (w243J.trans (w234J.trans (w220J.trans (w211J.trans (w197J.trans w188J))))) ⟨(fun p k hp hk => by obtain rfl : w7n = p := (by omega); obtain rfl : w10n = k := (by omega); exact Or.inl ⟨by decide, by omega, w235e + 1, _, ((((pAc.h (by omega)).trans (pB.y (pRd.y w189_1 (by omega) (by omega) (by omega)))).trans (pB.y (pRd.y w212_1 (by omega) (by omega) (by omega)))).trans (pB.y (pRd.y w235_1 (by omega) (by omega) (by omega)))), by omega, by omega, by omega, by omega, by omega, ⟨(by rw [show 4 * w10n = (4 * w10n) by omega]; have z := ((congrArg Int32.toInt ((zIo (by decide)).trans ((zIoj (by omega)).trans ((w243F 362 (4 * w10n) rfl).trans ((w234F 362 (4 * w10n) rfl).trans ((zIoj (by omega)).trans ((w220F 362 (4 * w10n) rfl).trans ((w211F 362 (4 * w10n) rfl).trans ((zIoj (by omega)).trans ((w197F 362 (4 * w10n) rfl).trans ((w188F 362 (4 * w10n) rfl).trans ((zIo (by decide)).trans zIs)))))))))))).trans rfl); omega), (by rw [show 4 * w10n + 1 = (1 + 4 * w10n) by omega]; have z := ((congrArg Int32.toInt ((zIo (by decide)).trans ((zIoj (by omega)).trans ((w243F 362 (1 + 4 * w10n) rfl).trans ((w234F 362 (1 + 4 * w10n) rfl).trans ((zIoj (by omega)).trans ((w220F 362 (1 + 4 * w10n) rfl).trans ((w211F 362 (1 + 4 * w10n) rfl).trans zIs)))))))).trans rfl); omega), (fun _ => ⟨(by rw [show 4 * w10n + 2 = (2 + 4 * w10n) by omega]; have z := ((congrArg Int32.toInt ((zIo (by decide)).trans ((zIoj (by omega)).trans ((w243F 362 (2 + 4 * w10n) rfl).trans ((w234F 362 (2 + 4 * w10n) rfl).trans zIs))))).trans rfl); omega), (by rw [show 4 * w10n + 3 = (3 + 4 * w10n) by omega]; have z := ((congrArg Int32.toInt ((zIo (by decide)).trans zIs)).trans rfl); omega)⟩), by decide⟩⟩), (fun j hj => ((zIo (by decide)).trans ((zIoj (by omega)).trans ((w243F 362 j rfl).trans ((w234F 362 j rfl).trans ((zIoj (by omega)).trans ((w220F 362 j rfl).trans ((w211F 362 j rfl).trans ((zIoj (by omega)).trans ((w197F 362 j rfl).trans ((w188F 362 j rfl).trans ((zIo (by decide)).trans (zIoj (by omega))))))))))))))⟩ (by decide) (by decide))
                · skip
                  refine zs_if_neF (pc := 124) t343_124 rfl (by omega) ?_
                  refine zs_iconst (pc := 127) t343_127 (v := 0) (by decide) ?_
                  have w256 : (0 : Int32).toInt = 0 := li0
                  have w257 := ib336_6 w243I
                  have w258 : (zI w243M 336 6).toInt = (zI w243M 336 6).toInt := (congrArg Int32.toInt rfl).trans rfl
                  have w259 := ib336_7 w243I
                  have w260 : (zI w243M 336 7).toInt = (zI w243M 336 7).toInt := (congrArg Int32.toInt rfl).trans rfl
                  have w261 : (zI w243M 336 47).toInt = (zI M 336 47).toInt := (congrArg Int32.toInt ((w243F 336 47 rfl).trans ((w234F 336 47 rfl).trans ((zIo (by decide)).trans ((w220F 336 47 rfl).trans ((w211F 336 47 rfl).trans ((zIo (by decide)).trans ((w197F 336 47 rfl).trans ((w188F 336 47 rfl).trans ((zIoj (by decide)).trans ((zIo (by decide)).trans rfl))))))))))).trans rfl
                  exact zs_iret (pc := 128) t343_128 mr343 (by decide) (hQ _ _ w243s w243I (((((((((((zFr.refl).put rfl).put rfl).trans (w188F.mono rfl)).trans (w197F.mono rfl)).put rfl).trans (w211F.mono rfl)).trans (w220F.mono rfl)).put rfl).trans (w234F.mono rfl)).trans (w243F.mono rfl)) (w243J.trans (w234J.trans (w220J.trans (w211J.trans (w197J.trans w188J))))) ⟨(fun p k hp hk => by obtain rfl : w7n = p := (by omega); obtain rfl : w10n = k := (by omega); exact Or.inr ⟨by decide, by omega, Or.inr ((((pAc.h (by omega)).trans (pB.y (pRd.y w189_1 (by omega) (by omega) (by omega)))).trans (pB.y (pRd.y w212_1 (by omega) (by omega) (by omega)))).trans (pB.f (pRd.n w235_1 (by omega))))⟩), (fun j hj => ((w243F 362 j rfl).trans ((w234F 362 j rfl).trans ((zIoj (by omega)).trans ((w220F 362 j rfl).trans ((w211F 362 j rfl).trans ((zIoj (by omega)).trans ((w197F 362 j rfl).trans ((w188F 362 j rfl).trans ((zIo (by decide)).trans (zIoj (by omega))))))))))))⟩ (by decide) (by decide))
              · skip
                rw [show (-9999 : Int32).toInt = -9999 by decide, show (9999 : Int32).toInt = 9999 by decide] at w235z
                refine zs_if_eqT (pc := 104) t343_104 rfl (by omega) ?_
                refine zs_iconst (pc := 127) t343_127 (v := 0) (by decide) ?_
                have w262 : (0 : Int32).toInt = 0 := li0
                have w263 := ib336_6 w234I
                have w264 : (zI w234M 336 6).toInt = (zI w234M 336 6).toInt := (congrArg Int32.toInt rfl).trans rfl
                have w265 := ib336_7 w234I
                have w266 : (zI w234M 336 7).toInt = (zI w234M 336 7).toInt := (congrArg Int32.toInt rfl).trans rfl
                have w267 : (zI w234M 336 47).toInt = (zI M 336 47).toInt := (congrArg Int32.toInt ((w234F 336 47 rfl).trans ((zIo (by decide)).trans ((w220F 336 47 rfl).trans ((w211F 336 47 rfl).trans ((zIo (by decide)).trans ((w197F 336 47 rfl).trans ((w188F 336 47 rfl).trans ((zIoj (by decide)).trans ((zIo (by decide)).trans rfl)))))))))).trans rfl
                exact zs_iret (pc := 128) t343_128 mr343 (by decide) (hQ _ _ w234s w234I ((((((((((zFr.refl).put rfl).put rfl).trans (w188F.mono rfl)).trans (w197F.mono rfl)).put rfl).trans (w211F.mono rfl)).trans (w220F.mono rfl)).put rfl).trans (w234F.mono rfl)) (w234J.trans (w220J.trans (w211J.trans (w197J.trans w188J)))) ⟨(fun p k hp hk => by obtain rfl : w7n = p := (by omega); obtain rfl : w10n = k := (by omega); exact Or.inr ⟨by decide, by omega, Or.inr ((((pAc.h (by omega)).trans (pB.y (pRd.y w189_1 (by omega) (by omega) (by omega)))).trans (pB.y (pRd.y w212_1 (by omega) (by omega) (by omega)))).trans (pB.f (by rcases w235z with q | ⟨e, x, q, q2⟩; exact pRd.f q; exact pRd.n q (by omega))))⟩), (fun j hj => ((w234F 362 j rfl).trans ((zIoj (by omega)).trans ((w220F 362 j rfl).trans ((w211F 362 j rfl).trans ((zIoj (by omega)).trans ((w197F 362 j rfl).trans ((w188F 362 j rfl).trans ((zIo (by decide)).trans (zIoj (by omega)))))))))))⟩ (by decide) (by decide))
            · skip
              refine zs_if_neF (pc := 124) t343_124 rfl (by omega) ?_
              refine zs_iconst (pc := 127) t343_127 (v := 0) (by decide) ?_
              have w268 : (0 : Int32).toInt = 0 := li0
              have w269 := ib336_6 w220I
              have w270 : (zI w220M 336 6).toInt = (zI w220M 336 6).toInt := (congrArg Int32.toInt rfl).trans rfl
              have w271 := ib336_7 w220I
              have w272 : (zI w220M 336 7).toInt = (zI w220M 336 7).toInt := (congrArg Int32.toInt rfl).trans rfl
              have w273 : (zI w220M 336 47).toInt = (zI M 336 47).toInt := (congrArg Int32.toInt ((w220F 336 47 rfl).trans ((w211F 336 47 rfl).trans ((zIo (by decide)).trans ((w197F 336 47 rfl).trans ((w188F 336 47 rfl).trans ((zIoj (by decide)).trans ((zIo (by decide)).trans rfl)))))))).trans rfl
              exact zs_iret (pc := 128) t343_128 mr343 (by decide) (hQ _ _ w220s w220I ((((((((zFr.refl).put rfl).put rfl).trans (w188F.mono rfl)).trans (w197F.mono rfl)).put rfl).trans (w211F.mono rfl)).trans (w220F.mono rfl)) (w220J.trans (w211J.trans (w197J.trans w188J))) ⟨(fun p k hp hk => by obtain rfl : w7n = p := (by omega); obtain rfl : w10n = k := (by omega); exact Or.inr ⟨by decide, by omega, Or.inr (((pAc.h (by omega)).trans (pB.y (pRd.y w189_1 (by omega) (by omega) (by omega)))).trans (pB.f (pRd.n w212_1 (by omega))))⟩), (fun j hj => ((w220F 362 j rfl).trans ((w211F 362 j rfl).trans ((zIoj (by omega)).trans ((w197F 362 j rfl).trans ((w188F 362 j rfl).trans ((zIo (by decide)).trans (zIoj (by omega)))))))))⟩ (by decide) (by decide))
          · skip
            rw [show (-9999 : Int32).toInt = -9999 by decide, show (9999 : Int32).toInt = 9999 by decide] at w212z
            refine zs_if_eqT (pc := 104) t343_104 rfl (by omega) ?_
            refine zs_iconst (pc := 127) t343_127 (v := 0) (by decide) ?_
            have w274 : (0 : Int32).toInt = 0 := li0
            have w275 := ib336_6 w211I
            have w276 : (zI w211M 336 6).toInt = (zI w211M 336 6).toInt := (congrArg Int32.toInt rfl).trans rfl
            have w277 := ib336_7 w211I
            have w278 : (zI w211M 336 7).toInt = (zI w211M 336 7).toInt := (congrArg Int32.toInt rfl).trans rfl
            have w279 : (zI w211M 336 47).toInt = (zI M 336 47).toInt := (congrArg Int32.toInt ((w211F 336 47 rfl).trans ((zIo (by decide)).trans ((w197F 336 47 rfl).trans ((w188F 336 47 rfl).trans ((zIoj (by decide)).trans ((zIo (by decide)).trans rfl))))))).trans rfl
            exact zs_iret (pc := 128) t343_128 mr343 (by decide) (hQ _ _ w211s w211I (((((((zFr.refl).put rfl).put rfl).trans (w188F.mono rfl)).trans (w197F.mono rfl)).put rfl).trans (w211F.mono rfl)) (w211J.trans (w197J.trans w188J)) ⟨(fun p k hp hk => by obtain rfl : w7n = p := (by omega); obtain rfl : w10n = k := (by omega); exact Or.inr ⟨by decide, by omega, Or.inr (((pAc.h (by omega)).trans (pB.y (pRd.y w189_1 (by omega) (by omega) (by omega)))).trans (pB.f (by rcases w212z with q | ⟨e, x, q, q2⟩; exact pRd.f q; exact pRd.n q (by omega))))⟩), (fun j hj => ((w211F 362 j rfl).trans ((zIoj (by omega)).trans ((w197F 362 j rfl).trans ((w188F 362 j rfl).trans ((zIo (by decide)).trans (zIoj (by omega))))))))⟩ (by decide) (by decide))
        · skip
          refine zs_if_neF (pc := 124) t343_124 rfl (by omega) ?_
          refine zs_iconst (pc := 127) t343_127 (v := 0) (by decide) ?_
          have w280 : (0 : Int32).toInt = 0 := li0
          have w281 := ib336_6 w197I
          have w282 : (zI w197M 336 6).toInt = (zI w197M 336 6).toInt := (congrArg Int32.toInt rfl).trans rfl
          have w283 := ib336_7 w197I
          have w284 : (zI w197M 336 7).toInt = (zI w197M 336 7).toInt := (congrArg Int32.toInt rfl).trans rfl
          have w285 : (zI w197M 336 47).toInt = (zI M 336 47).toInt := (congrArg Int32.toInt ((w197F 336 47 rfl).trans ((w188F 336 47 rfl).trans ((zIoj (by decide)).trans ((zIo (by decide)).trans rfl))))).trans rfl
          exact zs_iret (pc := 128) t343_128 mr343 (by decide) (hQ _ _ w197s w197I (((((zFr.refl).put rfl).put rfl).trans (w188F.mono rfl)).trans (w197F.mono rfl)) (w197J.trans w188J) ⟨(fun p k hp hk => by obtain rfl : w7n = p := (by omega); obtain rfl : w10n = k := (by omega); exact Or.inr ⟨by decide, by omega, Or.inr ((pAc.h (by omega)).trans (pB.f (pRd.n w189_1 (by omega))))⟩), (fun j hj => ((w197F 362 j rfl).trans ((w188F 362 j rfl).trans ((zIo (by decide)).trans (zIoj (by omega))))))⟩ (by decide) (by decide))
      · skip
        rw [show (-9999 : Int32).toInt = -9999 by decide, show (9999 : Int32).toInt = 9999 by decide] at w189z
        refine zs_if_eqT (pc := 104) t343_104 rfl (by omega) ?_
        refine zs_iconst (pc := 127) t343_127 (v := 0) (by decide) ?_
        have w286 : (0 : Int32).toInt = 0 := li0
        have w287 := ib336_6 w188I
        have w288 : (zI w188M 336 6).toInt = (zI w188M 336 6).toInt := (congrArg Int32.toInt rfl).trans rfl
        have w289 := ib336_7 w188I
        have w290 : (zI w188M 336 7).toInt = (zI w188M 336 7).toInt := (congrArg Int32.toInt rfl).trans rfl
        have w291 : (zI w188M 336 47).toInt = (zI M 336 47).toInt := (congrArg Int32.toInt ((w188F 336 47 rfl).trans ((zIoj (by decide)).trans ((zIo (by decide)).trans rfl)))).trans rfl
        exact zs_iret (pc := 128) t343_128 mr343 (by decide) (hQ _ _ w188s w188I ((((zFr.refl).put rfl).put rfl).trans (w188F.mono rfl)) w188J ⟨(fun p k hp hk => by obtain rfl : w7n = p := (by omega); obtain rfl : w10n = k := (by omega); exact Or.inr ⟨by decide, by omega, Or.inr ((pAc.h (by omega)).trans (pB.f (by rcases w189z with q | ⟨e, x, q, q2⟩; exact pRd.f q; exact pRd.n q (by omega))))⟩), (fun j hj => ((w188F 362 j rfl).trans ((zIo (by decide)).trans (zIoj (by omega)))))⟩ (by decide) (by decide))
    · refine zs_icmp_neF (pc := 49) t343_49 rfl li20 (by omega) ?_
      refine zs_aload_n (pc := 52) t343_52 rfl ?_
      refine zs_aload_n (pc := 53) t343_53 rfl ?_
      refine zs_get (pc := 54) t343_54 (by decide) (zk1 (hs.k fk_zMm_336)) (zfvi rfl rfl) ?_
      refine zs_invV (pc := 57) (k := 336) (as' := [.int (zI M 336 6)]) (st := []) t343_57 mf239 rfl rfl (Or.inl ⟨by decide, (zk1 (hs.k fk_zMm_336))⟩) ⟨by decide, by decide, Nat.le_of_ble_eq_true rfl, Nat.le_of_ble_eq_true rfl⟩ (zs_in (by decide) mf239 (Nat.le_of_ble_eq_true rfl) ?_) (fun _ _ q => q)
      show zGo X l 0 0 0 239 0 [(0, .ref 336), (1, .int (zI M 336 6))] [] M _
      refine zs_aload_n (pc := 0) t239_0 rfl ?_
      refine zs_iload_n (pc := 1) t239_1 rfl ?_
      have w292 : zIv mLo mHi (zsI M 336 7 (zI M 336 6)) := zIv.put hI (show (-1) ≤ (zI M 336 6).toInt ∧ (zI M 336 6).toInt ≤ 500 from ⟨by omega, by omega⟩)
      refine zs_putI (pc := 2) t239_2 (zk1 (hs.k fk_zMm_336)) rfl ?_
      refine zs_iconst (pc := 5) t239_5 (v := 0) (by decide) ?_
      refine zs_iret (pc := 6) t239_6 mr239 (by decide) ?_
      show zGo X l 3 0 0 343 60 [(2, .int (3 : Int32)), (1, .int (zhere M)), (0, .ref 336)] [.int (0 : Int32)] (zsI M 336 7 (zI M 336 6)) _
      have w293 : (0 : Int32).toInt = 0 := li0
      have w294 : (zI (zsI M 336 7 (zI M 336 6)) 336 6).toInt = (zI M 336 6).toInt := (congrArg Int32.toInt ((zIoj (by decide)).trans rfl)).trans rfl
      have w295 : (zI (zsI M 336 7 (zI M 336 6)) 336 7).toInt = (zI M 336 6).toInt := (congrArg Int32.toInt zIs).trans rfl
      have w296 : (zI (zsI M 336 7 (zI M 336 6)) 336 47).toInt = (zI M 336 47).toInt := (congrArg Int32.toInt ((zIoj (by decide)).trans rfl)).trans rfl
      exact zs_iret (pc := 60) t343_60 mr343 (by decide) (hQ _ _ hs w292 ((zFr.refl).put rfl) rfl ⟨(fun p k hp hk => by obtain rfl : w7n = p := (by omega); obtain rfl : w10n = k := (by omega); exact Or.inr ⟨by decide, by omega, by first | exact Or.inl (by omega) | exact Or.inr (pAc.no (by omega))⟩), (fun j hj => (zIo (by decide)))⟩ (by decide) (by decide))
theorem R344 {X : zX} {l : Launch} {M : zM} {Q : Option Value → zM → Prop} {a : Int32} (hs : zSk zMm M) (hI : zIv mLo mHi M) {F : Nat → Int} {H : Nat → Nat → Int} {n : Int} {K : Nat → Nat → Int} {T : Nat → Int} {A : aT} {i : Nat} (pR : zPR M) (pC : zPC M) (pF : zPF M) (ha : 0 ≤ a.toInt ∧ a.toInt ≤ 76) (x0 : zRw M 0 F) (x1 : zHM M H n) (x2 : zKM M K T) (x3 : zWF F) (x4 : zBt M 362 i A) (x5 : a.toInt = 4 * (i : Int)) (hQ : ∀ (M' : zM) (v : Int32), zSk zMm M' → zIv mLo mHi M' → zFr [(337, 337, none), (336, 336, some 1), (336, 336, some 3)] M M' → zJ M' 351 = zJ M 351 → zPR M' → zPC M' → zPF M' → ((v.toInt = -1 ∧ aDo A F = none ∧ zSM M' F H n K T) ∨ (v.toInt ≠ -1 ∧ ∃ G, aDo A F = some G ∧ zSM M' G (pushH F H) (nP n) K T)) → Q (some (.int v)) M') : zCall X l 4 0 0 344 [.ref 336, .int a] M Q := by
  have ga := zrg a
  refine zs_in (by decide) mf344 (Nat.le_of_ble_eq_true rfl) ?_
  show zGo X l 4 0 0 344 0 [(0, .ref 336), (1, .int a)] [] M _
  have f1 := x3.1
  have f3 := x3.2.2.2
  have w1 := ibA0 hI
  have w2 : (zI M 337 0).toInt = (zI M 337 0).toInt := (congrArg Int32.toInt rfl).trans rfl
  have e0 : (zI M 337 0).toInt = F 0 := x0.at (by decide) (by decide) (by decide)
  have w3 := ibA1 hI
  have w4 : (zI M 337 1).toInt = (zI M 337 1).toInt := (congrArg Int32.toInt rfl).trans rfl
  have e1 : (zI M 337 1).toInt = F 1 := x0.at (by decide) (by decide) (by decide)
  have w5 := ibA2 hI
  have w6 : (zI M 337 2).toInt = (zI M 337 2).toInt := (congrArg Int32.toInt rfl).trans rfl
  have e2 : (zI M 337 2).toInt = F 2 := x0.at (by decide) (by decide) (by decide)
  obtain ⟨L, y0, y1, y2⟩ := A
  have yl : (zI M 362 (4 * i)).toInt = L := x4.1
  have y160 : (zI M 362 (4 * i + 1)).toInt = y0 := x4.2.1
  have y161 : L = 104 → (zI M 362 (4 * i + 2)).toInt = y1 ∧ (zI M 362 (4 * i + 3)).toInt = y2 := x4.2.2.1
  have yc : L = 104 ∨ L = 120 ∨ L = 100 ∨ L = 110 := x4.2.2.2
  refine zs_aload_n (pc := 0) t344_0 rfl ?_
  refine zs_get (pc := 1) t344_1 (by decide) (zk1 (hs.k fk_zMm_336)) (hs.p rfl fv_zMm_336_46) ?_
  refine zs_iload_n (pc := 4) t344_4 rfl ?_
  obtain ⟨w7n, w7⟩ : ∃ n : Nat, a.toInt = (n : Int) := ⟨(a.toInt).toNat, by omega⟩
  have w8 := zrg (zI M 362 w7n)
  have w9 : w7n = 4 * i → (zI M 362 w7n).toInt = L := fun q => by rw [q]; exact yl
  have w10 : w7n = 4 * i + 1 → (zI M 362 w7n).toInt = y0 := fun q => by rw [q]; exact y160
  have w11 : L = 104 ∧ w7n = 4 * i + 2 → (zI M 362 w7n).toInt = y1 := fun q => by rw [q.2]; exact (y161 q.1).1
  have w12 : L = 104 ∧ w7n = 4 * i + 3 → (zI M 362 w7n).toInt = y2 := fun q => by rw [q.2]; exact (y161 q.1).2
  refine zs_iald (pc := 5) t344_5 (j := w7n) (by decide) (zk1 (hs.k fk_zMm_362)) (show a.toInt = ((w7n : Nat) : Int) by omega) (zk2 (hs.k fk_zMm_362) (by omega)) rfl ?_
  by_cases w13 : (zI M 362 w7n).toInt = 100
  · refine zs_lsw (pc := 6) t344_6 (off := 76) ((rfl : (zI M 362 w7n).toInt = (zI M 362 w7n).toInt).trans w13) rfl (pc2 := 82) rfl ?_
    refine zs_aload_n (pc := 82) t344_82 rfl ?_
    refine zs_aload_n (pc := 83) t344_83 rfl ?_
    refine zs_get (pc := 84) t344_84 (by decide) (zk1 (hs.k fk_zMm_336)) (hs.p rfl fv_zMm_336_46) ?_
    refine zs_iload_n (pc := 87) t344_87 rfl ?_
    refine zs_iconst (pc := 88) t344_88 (v := 1) (by decide) ?_
    obtain ⟨w14v, w14e, w14⟩ := ziadd (a := a) (b := (1 : Int32)) rfl li1 (by omega) (by omega)
    refine zs_iadd (pc := 89) t344_89 (c := w14v) w14e ?_
    have w15 := zrg (zI M 362 (1 + w7n))
    have w16 : (1 + w7n) = 4 * i → (zI M 362 (1 + w7n)).toInt = L := fun q => by rw [q]; exact yl
    have w17 : (1 + w7n) = 4 * i + 1 → (zI M 362 (1 + w7n)).toInt = y0 := fun q => by rw [q]; exact y160
    have w18 : L = 104 ∧ (1 + w7n) = 4 * i + 2 → (zI M 362 (1 + w7n)).toInt = y1 := fun q => by rw [q.2]; exact (y161 q.1).1
    have w19 : L = 104 ∧ (1 + w7n) = 4 * i + 3 → (zI M 362 (1 + w7n)).toInt = y2 := fun q => by rw [q.2]; exact (y161 q.1).2
    refine zs_iald (pc := 90) t344_90 (j := (1 + w7n)) (by decide) (zk1 (hs.k fk_zMm_362)) (show w14v.toInt = (((1 + w7n) : Nat) : Int) by omega) (zk2 (hs.k fk_zMm_362) (by omega)) rfl ?_
    refine zs_invV (pc := 91) (k := 336) (as' := [.int (zI M 362 (1 + w7n))]) (st := []) t344_91 mf333 rfl rfl (Or.inl ⟨by decide, (zk1 (hs.k fk_zMm_336))⟩) ⟨by decide, by decide, Nat.le_of_ble_eq_true rfl, Nat.le_of_ble_eq_true rfl⟩ (R333 hs hI pR pC pF x0 x1 x2 x3 ?_) (fun _ _ q => q)
    intro w20M w20v w20s w20I w20F w20J w20PR w20PC w20PF w20x0
    have w20g := zrg w20v
    show zGo X l 4 0 0 344 94 [(0, .ref 336), (1, .int a)] [.int w20v] w20M _
    have w21 := w20x0
    rw [show (zI M 362 (1 + w7n)).toInt = y0 by omega] at w21
    exact zs_iret (pc := 94) t344_94 mr344 rfl (hQ _ _ w20s w20I ((zFr.refl).trans (w20F.mono rfl)) w20J w20PR w20PC w20PF (by
        rcases w21 with ⟨q1, q2, q3⟩ | ⟨q1, q2, q3, q4⟩
        · exact Or.inl ⟨by omega, aDo.dn (by omega) (by omega), q3⟩
        · exact Or.inr ⟨by have z := (x3.2.1 y0.toNat (by omega)).2.2; omega, _, aDo.dy (by omega) ⟨q1, q2⟩, (by rw [q3] at q4; exact q4)⟩))
  by_cases w22 : (zI M 362 w7n).toInt = 104
  · refine zs_lsw (pc := 6) t344_6 (off := 34) ((rfl : (zI M 362 w7n).toInt = (zI M 362 w7n).toInt).trans w22) rfl (pc2 := 40) rfl ?_
    refine zs_aload_n (pc := 40) t344_40 rfl ?_
    refine zs_aload_n (pc := 41) t344_41 rfl ?_
    refine zs_get (pc := 42) t344_42 (by decide) (zk1 (hs.k fk_zMm_336)) (hs.p rfl fv_zMm_336_46) ?_
    refine zs_iload_n (pc := 45) t344_45 rfl ?_
    refine zs_iconst (pc := 46) t344_46 (v := 1) (by decide) ?_
    obtain ⟨w23v, w23e, w23⟩ := ziadd (a := a) (b := (1 : Int32)) rfl li1 (by omega) (by omega)
    refine zs_iadd (pc := 47) t344_47 (c := w23v) w23e ?_
    have w24 := zrg (zI M 362 (1 + w7n))
    have w25 : (1 + w7n) = 4 * i → (zI M 362 (1 + w7n)).toInt = L := fun q => by rw [q]; exact yl
    have w26 : (1 + w7n) = 4 * i + 1 → (zI M 362 (1 + w7n)).toInt = y0 := fun q => by rw [q]; exact y160
    have w27 : L = 104 ∧ (1 + w7n) = 4 * i + 2 → (zI M 362 (1 + w7n)).toInt = y1 := fun q => by rw [q.2]; exact (y161 q.1).1
    have w28 : L = 104 ∧ (1 + w7n) = 4 * i + 3 → (zI M 362 (1 + w7n)).toInt = y2 := fun q => by rw [q.2]; exact (y161 q.1).2
    refine zs_iald (pc := 48) t344_48 (j := (1 + w7n)) (by decide) (zk1 (hs.k fk_zMm_362)) (show w23v.toInt = (((1 + w7n) : Nat) : Int) by omega) (zk2 (hs.k fk_zMm_362) (by omega)) rfl ?_
    refine zs_aload_n (pc := 49) t344_49 rfl ?_
    refine zs_get (pc := 50) t344_50 (by decide) (zk1 (hs.k fk_zMm_336)) (hs.p rfl fv_zMm_336_46) ?_
    refine zs_iload_n (pc := 53) t344_53 rfl ?_
    refine zs_iconst (pc := 54) t344_54 (v := 2) (by decide) ?_
    obtain ⟨w29v, w29e, w29⟩ := ziadd (a := a) (b := (2 : Int32)) rfl li2 (by omega) (by omega)
    refine zs_iadd (pc := 55) t344_55 (c := w29v) w29e ?_
    have w30 := zrg (zI M 362 (2 + w7n))
    have w31 : (2 + w7n) = 4 * i → (zI M 362 (2 + w7n)).toInt = L := fun q => by rw [q]; exact yl
    have w32 : (2 + w7n) = 4 * i + 1 → (zI M 362 (2 + w7n)).toInt = y0 := fun q => by rw [q]; exact y160
    have w33 : L = 104 ∧ (2 + w7n) = 4 * i + 2 → (zI M 362 (2 + w7n)).toInt = y1 := fun q => by rw [q.2]; exact (y161 q.1).1
    have w34 : L = 104 ∧ (2 + w7n) = 4 * i + 3 → (zI M 362 (2 + w7n)).toInt = y2 := fun q => by rw [q.2]; exact (y161 q.1).2
    refine zs_iald (pc := 56) t344_56 (j := (2 + w7n)) (by decide) (zk1 (hs.k fk_zMm_362)) (show w29v.toInt = (((2 + w7n) : Nat) : Int) by omega) (zk2 (hs.k fk_zMm_362) (by omega)) rfl ?_
    refine zs_aload_n (pc := 57) t344_57 rfl ?_
    refine zs_get (pc := 58) t344_58 (by decide) (zk1 (hs.k fk_zMm_336)) (hs.p rfl fv_zMm_336_46) ?_
    refine zs_iload_n (pc := 61) t344_61 rfl ?_
    refine zs_iconst (pc := 62) t344_62 (v := 3) (by decide) ?_
    obtain ⟨w35v, w35e, w35⟩ := ziadd (a := a) (b := (3 : Int32)) rfl li3 (by omega) (by omega)
    refine zs_iadd (pc := 63) t344_63 (c := w35v) w35e ?_
    have w36 := zrg (zI M 362 (3 + w7n))
    have w37 : (3 + w7n) = 4 * i → (zI M 362 (3 + w7n)).toInt = L := fun q => by rw [q]; exact yl
    have w38 : (3 + w7n) = 4 * i + 1 → (zI M 362 (3 + w7n)).toInt = y0 := fun q => by rw [q]; exact y160
    have w39 : L = 104 ∧ (3 + w7n) = 4 * i + 2 → (zI M 362 (3 + w7n)).toInt = y1 := fun q => by rw [q.2]; exact (y161 q.1).1
    have w40 : L = 104 ∧ (3 + w7n) = 4 * i + 3 → (zI M 362 (3 + w7n)).toInt = y2 := fun q => by rw [q.2]; exact (y161 q.1).2
    refine zs_iald (pc := 64) t344_64 (j := (3 + w7n)) (by decide) (zk1 (hs.k fk_zMm_362)) (show w35v.toInt = (((3 + w7n) : Nat) : Int) by omega) (zk2 (hs.k fk_zMm_362) (by omega)) rfl ?_
    refine zs_invV (pc := 65) (k := 336) (as' := [.int (zI M 362 (1 + w7n)), .int (zI M 362 (2 + w7n)), .int (zI M 362 (3 + w7n))]) (st := []) t344_65 mf331 rfl rfl (Or.inl ⟨by decide, (zk1 (hs.k fk_zMm_336))⟩) ⟨by decide, by decide, Nat.le_of_ble_eq_true rfl, Nat.le_of_ble_eq_true rfl⟩ (R331 hs hI pR pC pF x0 x1 x2 x3 ?_) (fun _ _ q => q)
    intro w41M w41v w41s w41I w41F w41J w41PR w41PC w41PF w41x0
    have w41g := zrg w41v
    show zGo X l 4 0 0 344 68 [(0, .ref 336), (1, .int a)] [.int w41v] w41M _
    have w42 := w41x0
    rw [show (zI M 362 (1 + w7n)).toInt = y0 by omega, show (zI M 362 (2 + w7n)).toInt = y1 by omega, show (zI M 362 (3 + w7n)).toInt = y2 by omega] at w42
    exact zs_iret (pc := 68) t344_68 mr344 rfl (hQ _ _ w41s w41I ((zFr.refl).trans (w41F.mono rfl)) w41J w41PR w41PC w41PF (by
        rcases w42 with ⟨q1, q2, q3⟩ | ⟨q1, q2, q3⟩
        · exact Or.inl ⟨by omega, aDo.hn (by omega) (by omega), q3⟩
        · exact Or.inr ⟨by omega, _, aDo.hy (by omega) q1, q3⟩))
  by_cases w43 : (zI M 362 w7n).toInt = 120
  · refine zs_lsw (pc := 6) t344_6 (off := 63) ((rfl : (zI M 362 w7n).toInt = (zI M 362 w7n).toInt).trans w43) rfl (pc2 := 69) rfl ?_
    refine zs_aload_n (pc := 69) t344_69 rfl ?_
    refine zs_aload_n (pc := 70) t344_70 rfl ?_
    refine zs_get (pc := 71) t344_71 (by decide) (zk1 (hs.k fk_zMm_336)) (hs.p rfl fv_zMm_336_46) ?_
    refine zs_iload_n (pc := 74) t344_74 rfl ?_
    refine zs_iconst (pc := 75) t344_75 (v := 1) (by decide) ?_
    obtain ⟨w44v, w44e, w44⟩ := ziadd (a := a) (b := (1 : Int32)) rfl li1 (by omega) (by omega)
    refine zs_iadd (pc := 76) t344_76 (c := w44v) w44e ?_
    have w45 := zrg (zI M 362 (1 + w7n))
    have w46 : (1 + w7n) = 4 * i → (zI M 362 (1 + w7n)).toInt = L := fun q => by rw [q]; exact yl
    have w47 : (1 + w7n) = 4 * i + 1 → (zI M 362 (1 + w7n)).toInt = y0 := fun q => by rw [q]; exact y160
    have w48 : L = 104 ∧ (1 + w7n) = 4 * i + 2 → (zI M 362 (1 + w7n)).toInt = y1 := fun q => by rw [q.2]; exact (y161 q.1).1
    have w49 : L = 104 ∧ (1 + w7n) = 4 * i + 3 → (zI M 362 (1 + w7n)).toInt = y2 := fun q => by rw [q.2]; exact (y161 q.1).2
    refine zs_iald (pc := 77) t344_77 (j := (1 + w7n)) (by decide) (zk1 (hs.k fk_zMm_362)) (show w44v.toInt = (((1 + w7n) : Nat) : Int) by omega) (zk2 (hs.k fk_zMm_362) (by omega)) rfl ?_
    refine zs_invV (pc := 78) (k := 336) (as' := [.int (zI M 362 (1 + w7n))]) (st := []) t344_78 mf332 rfl rfl (Or.inl ⟨by decide, (zk1 (hs.k fk_zMm_336))⟩) ⟨by decide, by decide, Nat.le_of_ble_eq_true rfl, Nat.le_of_ble_eq_true rfl⟩ (R332 hs hI pR pC pF x0 x1 x2 x3 ?_) (fun _ _ q => q)
    intro w50M w50v w50s w50I w50F w50J w50PR w50PC w50PF w50x0
    have w50g := zrg w50v
    show zGo X l 4 0 0 344 81 [(0, .ref 336), (1, .int a)] [.int w50v] w50M _
    have w51 := w50x0
    rw [show (zI M 362 (1 + w7n)).toInt = y0 by omega] at w51
    exact zs_iret (pc := 81) t344_81 mr344 rfl (hQ _ _ w50s w50I ((zFr.refl).trans (w50F.mono rfl)) w50J w50PR w50PC w50PF (by
        rcases w51 with ⟨q1, q2, q3⟩ | ⟨q1, q2, q3, q4, q5⟩
        · exact Or.inl ⟨by omega, aDo.xn (by omega) (by omega), q3⟩
        · exact Or.inr ⟨by have z := pct.nn (P := zctb (uS F (32 + 4 * y0.toNat) (-1))) ((uS F (32 + 4 * y0.toNat) (-1)) 1).toNat; omega, _, aDo.xy (by omega) ⟨q1, q2, q3⟩, q5⟩))
  refine zs_lsw (pc := 6) t344_6 (off := 89) rfl (by unfold zlsel; repeat (first | rfl | (rw [if_neg (by omega)]; unfold zlsel))) (pc2 := 95) rfl ?_
  refine zs_aload_n (pc := 95) t344_95 rfl ?_
  refine zs_aload_n (pc := 96) t344_96 rfl ?_
  refine zs_get (pc := 97) t344_97 (by decide) (zk1 (hs.k fk_zMm_336)) (hs.p rfl fv_zMm_336_46) ?_
  refine zs_iload_n (pc := 100) t344_100 rfl ?_
  refine zs_iconst (pc := 101) t344_101 (v := 1) (by decide) ?_
  obtain ⟨w52v, w52e, w52⟩ := ziadd (a := a) (b := (1 : Int32)) rfl li1 (by omega) (by omega)
  refine zs_iadd (pc := 102) t344_102 (c := w52v) w52e ?_
  have w53 := zrg (zI M 362 (1 + w7n))
  have w54 : (1 + w7n) = 4 * i → (zI M 362 (1 + w7n)).toInt = L := fun q => by rw [q]; exact yl
  have w55 : (1 + w7n) = 4 * i + 1 → (zI M 362 (1 + w7n)).toInt = y0 := fun q => by rw [q]; exact y160
  have w56 : L = 104 ∧ (1 + w7n) = 4 * i + 2 → (zI M 362 (1 + w7n)).toInt = y1 := fun q => by rw [q.2]; exact (y161 q.1).1
  have w57 : L = 104 ∧ (1 + w7n) = 4 * i + 3 → (zI M 362 (1 + w7n)).toInt = y2 := fun q => by rw [q.2]; exact (y161 q.1).2
  refine zs_iald (pc := 103) t344_103 (j := (1 + w7n)) (by decide) (zk1 (hs.k fk_zMm_362)) (show w52v.toInt = (((1 + w7n) : Nat) : Int) by omega) (zk2 (hs.k fk_zMm_362) (by omega)) rfl ?_
  refine zs_invV (pc := 104) (k := 336) (as' := [.int (zI M 362 (1 + w7n))]) (st := []) t344_104 mf334 rfl rfl (Or.inl ⟨by decide, (zk1 (hs.k fk_zMm_336))⟩) ⟨by decide, by decide, Nat.le_of_ble_eq_true rfl, Nat.le_of_ble_eq_true rfl⟩ (R334 hs hI pR pC pF x0 x1 x2 x3 ?_) (fun _ _ q => q)
  intro w58M w58v w58s w58I w58F w58J w58PR w58PC w58PF w58x0
  have w58g := zrg w58v
  show zGo X l 4 0 0 344 107 [(0, .ref 336), (1, .int a)] [.int w58v] w58M _
  have w59 := w58x0
  rw [show (zI M 362 (1 + w7n)).toInt = y0 by omega] at w59
  exact zs_iret (pc := 107) t344_107 mr344 rfl (hQ _ _ w58s w58I ((zFr.refl).trans (w58F.mono rfl)) w58J w58PR w58PC w58PF (by
      rcases w59 with ⟨q1, q2, q3⟩ | ⟨q1, q2, q3, q4⟩
      · exact Or.inl ⟨by omega, aDo.nn (by omega) (by omega), q3⟩
      · exact Or.inr ⟨by omega, _, aDo.ny (by omega) ⟨q1, q2⟩, q4⟩))
