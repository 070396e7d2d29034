theorem R343 {X : zX} {l : Launch} {M : zM} {Q : Option Value → zM → Prop} (hs : zSk zMm M) (hI : zIv mLo mHi M) {gg : Nat → Int} {nn : Int} (u0 : (zI M 336 7).toInt = -1) (u1 : (zI M 336 6).toInt < (zI M 336 5).toInt) (u2 : 0 ≤ (zI M 336 6).toInt) (u3 : (zI M 336 47).toInt ≤ 20) (x0 : zTm M gg nn) (hQ : ∀ (M' : zM) (v : Int32), zSk zMm M' → zIv mLo mHi M' → zFr [(336, 336, some 6), (336, 336, some 7), (336, 336, some 8), (362, 362, none), (336, 336, some 47)] M M' → zJ M' 351 = zJ M 351 → ((∀ p k : Nat, (zI M 336 6).toInt = (p : Int) → (zI M 336 47).toInt = (k : Int) → (v.toInt = 1 ∧ k ≠ 20 ∧ ∃ (q : Nat) (A : aT), pAc gg p = some (q, A) ∧ (zI M' 336 6).toInt = (q : Int) ∧ p < q ∧ (q : Int) ≤ nn ∧ (zI M' 336 7).toInt = -1 ∧ (zI M' 336 47).toInt = (k : Int) + 1 ∧ zBt M' 362 k A) ∨ (v.toInt = 0 ∧ (zI M' 336 7).toInt ≠ -1 ∧ (k = 20 ∨ pAc gg p = none))) ∧ (∀ j : Nat, (j : Int) < 4 * (zI M 336 47).toInt → zI M' 362 j = zI M 362 j)) → 0 ≤ v.toInt → v.toInt ≤ 1 → Q (some (.int v)) M') : zCall X l 3 0 0 343 [.ref 336] M Q := by
  refine zs_in (by decide) mf343 (Nat.le_of_ble_eq_true rfl) ?_
  show zGo X l 3 0 0 343 0 [(0, .ref 336)] [] M _
  have hn := x0.2
  have w1 := ib336_5 hI
  have w2 : (zI M 336 5).toInt = (zI M 336 5).toInt := (congrArg Int32.toInt rfl).trans rfl
  have w3 := ib336_6 hI
  have w4 : (zI M 336 6).toInt = (zI M 336 6).toInt := (congrArg Int32.toInt rfl).trans rfl
  have w5 := ib336_7 hI
  have w6 : (zI M 336 7).toInt = (zI M 336 7).toInt := (congrArg Int32.toInt rfl).trans rfl
  obtain ⟨w7n, w7⟩ : ∃ n : Nat, (zI M 336 6).toInt = (n : Int) := ⟨((zI M 336 6).toInt).toNat, by omega⟩
  have w8 := ib336_47 hI
  have w9 : (zI M 336 47).toInt = (zI M 336 47).toInt := (congrArg Int32.toInt rfl).trans rfl
  obtain ⟨w10n, w10⟩ : ∃ n : Nat, (zI M 336 47).toInt = (n : Int) := ⟨((zI M 336 47).toInt).toNat, by omega⟩
  refine zs_aload_n (pc := 0) t343_0 rfl ?_
  refine zs_invV (pc := 1) (k := 336) (as' := []) (st := []) t343_1 mf238 rfl rfl (Or.inl ⟨by decide, (zk1 (hs.k fk_zMm_336))⟩) ⟨by decide, by decide, Nat.le_of_ble_eq_true rfl, Nat.le_of_ble_eq_true rfl⟩ (H238 hs hI ?_) (fun _ _ q => q)
  have w11 := zhere.rg (M := M)
  have w12 : (zI M 336 6).toInt = (zI M 336 6).toInt := (congrArg Int32.toInt rfl).trans rfl
  have w13 : (zI M 336 5).toInt = (zI M 336 5).toInt := (congrArg Int32.toInt rfl).trans rfl
  have w14 : (zI M 336 6).toInt = (zI M 336 6).toInt := (congrArg Int32.toInt rfl).trans rfl
  have w15 : (zI M 336 5).toInt = (zI M 336 5).toInt := (congrArg Int32.toInt rfl).trans rfl
  have w16 : (zhere M).toInt = gg w7n := zhere.tr x0 (by omega)
  have w17 := zTm.rg x0 w7n
  show zGo X l 3 0 0 343 4 [(0, .ref 336)] [.int (zhere M)] M _
  refine zs_istore_n (pc := 4) t343_4 (ls' := [(1, .int (zhere M)), (0, .ref 336)]) (zml mf343 (by decide)) rfl ?_
  refine zs_iload_n (pc := 5) t343_5 rfl ?_
  refine zs_bipush (pc := 6) t343_6 (v := 104) (by decide) ?_
  by_cases w18 : (zhere M).toInt ≠ 104
  · refine zs_icmp_neT (pc := 8) t343_8 rfl li104 (by omega) ?_
    refine zs_iload_n (pc := 15) t343_15 rfl ?_
    refine zs_bipush (pc := 16) t343_16 (v := 120) (by decide) ?_
    by_cases w19 : (zhere M).toInt = 120
    · refine zs_icmp_eqT (pc := 18) t343_18 rfl li120 (by omega) ?_
      refine zs_iconst (pc := 33) t343_33 (v := 1) (by decide) ?_
      refine zs_goto (pc := 34) t343_34 ?_
      refine zs_istore_n (pc := 38) t343_38 (ls' := [(2, .int (1 : Int32)), (1, .int (zhere M)), (0, .ref 336)]) (zml mf343 (by decide)) rfl ?_
      refine zs_iload_n (pc := 39) t343_39 rfl ?_
      refine zs_if_eqF (pc := 40) t343_40 li1 (by decide) ?_
      refine zs_aload_n (pc := 43) t343_43 rfl ?_
      refine zs_get (pc := 44) t343_44 (by decide) (zk1 (hs.k fk_zMm_336)) (zfvi rfl rfl) ?_
      refine zs_bipush (pc := 47) t343_47 (v := 20) (by decide) ?_
      by_cases w20 : (zI M 336 47).toInt ≠ 20
      · refine zs_icmp_neT (pc := 49) t343_49 rfl li20 (by omega) ?_
        refine zs_iconst (pc := 61) t343_61 (v := 4) (by decide) ?_
        refine zs_aload_n (pc := 62) t343_62 rfl ?_
        refine zs_get (pc := 63) t343_63 (by decide) (zk1 (hs.k fk_zMm_336)) (zfvi rfl rfl) ?_
        obtain ⟨w21v, w21⟩ : ∃ v, (4 : Int32) * (zI M 336 47) = v := ⟨_, rfl⟩
        have w21g : w21v.toInt = 4 * (zI M 336 47).toInt := by rw [← w21]; exact zmulc li4 rfl (by omega) (by omega)
        refine zs_imul (pc := 66) t343_66 (c := w21v) w21 ?_
        refine zs_istore_n (pc := 67) t343_67 (ls' := [(3, .int w21v), (2, .int (1 : Int32)), (1, .int (zhere M)), (0, .ref 336)]) (zml mf343 (by decide)) rfl ?_
        refine zs_aload_n (pc := 68) t343_68 rfl ?_
        refine zs_get (pc := 69) t343_69 (by decide) (zk1 (hs.k fk_zMm_336)) (hs.p rfl fv_zMm_336_46) ?_
        refine zs_iload_n (pc := 72) t343_72 rfl ?_
        refine zs_iload_n (pc := 73) t343_73 rfl ?_
        have w22 : zIv mLo mHi (zsI M 362 (4 * w10n) (zhere M)) := zIv.put hI (show (-2147483648) ≤ (zhere M).toInt ∧ (zhere M).toInt ≤ 2147483647 from zrg (zhere M))
        refine zs_iast (pc := 74) t343_74 (j := (4 * w10n)) (by decide) (zk1 (hs.k fk_zMm_362)) (show w21v.toInt = (((4 * w10n) : Nat) : Int) by omega) (zk2 (hs.k fk_zMm_362) (by omega)) ?_
        refine zs_aload_n (pc := 75) t343_75 rfl ?_
        refine zs_dup (pc := 76) t343_76 rfl ?_
        refine zs_get (pc := 77) t343_77 (by decide) (zk1 (hs.k fk_zMm_336)) (zfvi rfl ((zIo (by decide)).trans rfl)) ?_
        refine zs_iconst (pc := 80) t343_80 (v := 1) (by decide) ?_
        obtain ⟨w23v, w23e, w23⟩ := ziadd (a := (zI M 336 6)) (b := (1 : Int32)) rfl li1 (by omega) (by omega)
        refine zs_iadd (pc := 81) t343_81 (c := w23v) w23e ?_
        have w24 : zIv mLo mHi (zsI (zsI M 362 (4 * w10n) (zhere M)) 336 6 w23v) := zIv.put w22 (show 0 ≤ w23v.toInt ∧ w23v.toInt ≤ 500 from ⟨by omega, by omega⟩)
        refine zs_putI (pc := 82) t343_82 (zk1 (hs.k fk_zMm_336)) rfl ?_
        refine zs_iconst (pc := 85) t343_85 (v := 1) (by decide) ?_
        refine zs_istore (pc := 86) t343_86 (ls' := [(4, .int (1 : Int32)), (3, .int w21v), (2, .int (1 : Int32)), (1, .int (zhere M)), (0, .ref 336)]) (zml mf343 (by decide)) rfl ?_
        refine zs_iload (pc := 88) t343_88 rfl ?_
        refine zs_iload_n (pc := 90) t343_90 rfl ?_
        refine zs_icmp_gtF (pc := 91) t343_91 li1 li1 (by decide) ?_
        refine zs_aload_n (pc := 94) t343_94 rfl ?_
        refine zs_sipush (pc := 95) t343_95 (v := -9999) (by decide) ?_
        refine zs_sipush (pc := 98) t343_98 (v := 9999) (by decide) ?_
        have w25 : (zI (zsI (zsI M 362 (4 * w10n) (zhere M)) 336 6 w23v) 336 6).toInt = ((zI M 336 6).toInt + 1) := (congrArg Int32.toInt zIs).trans w23
        have w26 : (-9999 : Int32).toInt = (-9999) := lin9999
        have w27 : (9999 : Int32).toInt = 9999 := li9999
        have w28 : (zI (zsI (zsI M 362 (4 * w10n) (zhere M)) 336 6 w23v) 336 5).toInt = (zI M 336 5).toInt := (congrArg Int32.toInt ((zIoj (by decide)).trans ((zIo (by decide)).trans rfl))).trans rfl
        have w29 : (zI (zsI (zsI M 362 (4 * w10n) (zhere M)) 336 6 w23v) 336 6).toInt = ((zI M 336 6).toInt + 1) := (congrArg Int32.toInt zIs).trans w23
        have w30 : (zI (zsI (zsI M 362 (4 * w10n) (zhere M)) 336 6 w23v) 336 7).toInt = (zI M 336 7).toInt := (congrArg Int32.toInt ((zIoj (by decide)).trans ((zIo (by decide)).trans rfl))).trans rfl
        refine zs_invV (pc := 101) (k := 336) (as' := [.int (-9999 : Int32), .int (9999 : Int32)]) (st := []) t343_101 mf243 rfl rfl (Or.inl ⟨by decide, (zk1 (hs.k fk_zMm_336))⟩) ⟨by decide, by decide, Nat.le_of_ble_eq_true rfl, Nat.le_of_ble_eq_true rfl⟩ (R243 hs w24 (by omega) (by omega) (by omega) (zTm.mk x0 (fun j => ((zIo (by decide)).trans (zIo (by decide)))) ((zIoj (by decide)).trans (zIo (by decide)))) ?_) (fun _ _ q => q)
        intro w31M w31v w31s w31I w31F w31J w31x0 w31a w31b
        show zGo X l 3 0 0 343 104 [(4, .int (1 : Int32)), (3, .int w21v), (2, .int (1 : Int32)), (1, .int (zhere M)), (0, .ref 336)] [.int w31v] w31M _
        rcases w31x0 (w7n + 1) (by omega) with ⟨w32v, w32e, w32x, w32_1, w32_2, w32_3, w32_4, w32_5, w32_6, w32_7, w32_8, w32_9, w32_10⟩ | ⟨w32v, w32_8, w32z⟩
        · skip
          rw [show (-9999 : Int32).toInt = -9999 by decide, show (9999 : Int32).toInt = 9999 by decide] at w32z
          refine zs_if_eqT (pc := 104) t343_104 rfl (by omega) ?_
          refine zs_iconst (pc := 127) t343_127 (v := 0) (by decide) ?_
          have w33 := ib336_6 w31I
          have w34 : (zI w31M 336 6).toInt = (zI w31M 336 6).toInt := (congrArg Int32.toInt rfl).trans rfl
          have w35 := ib336_7 w31I
          have w36 : (zI w31M 336 7).toInt = (zI w31M 336 7).toInt := (congrArg Int32.toInt rfl).trans rfl
          have w37 : (zI w31M 336 47).toInt = (zI M 336 47).toInt := (congrArg Int32.toInt ((w31F 336 47 rfl).trans ((zIoj (by decide)).trans ((zIo (by decide)).trans rfl)))).trans rfl
          exact zs_iret (pc := 128) t343_128 mr343 (by decide) (hQ _ _ w31s w31I ((((zFr.refl).put rfl).put rfl).trans (w31F.mono rfl)) w31J ⟨(fun p k hp hk => by obtain rfl : w7n = p := (by omega); obtain rfl : w10n = k := (by omega); exact Or.inr ⟨by decide, by omega, Or.inr ((pAc.o (L := 120) (by omega) (by decide)).trans (pB.f (by rcases w32z with q | ⟨e, x, q, q2⟩; exact pRd.f q; exact pRd.n q (by omega))))⟩), (fun j hj => ((w31F 362 j rfl).trans ((zIo (by decide)).trans (zIoj (by omega)))))⟩ (by decide) (by decide))
        · skip
          have w32y := x0.rg w32e
          refine zs_if_eqF (pc := 104) t343_104 rfl (by omega) ?_
          refine zs_aload_n (pc := 107) t343_107 rfl ?_
          refine zs_iload (pc := 108) t343_108 rfl ?_
          refine zs_iload_n (pc := 110) t343_110 rfl ?_
          refine zs_icmp_neF (pc := 111) t343_111 li1 li1 (by decide) ?_
          refine zs_bipush (pc := 114) t343_114 (v := 59) (by decide) ?_
          refine zs_goto (pc := 116) t343_116 ?_
          have w38 := ib336_6 w31I
          have w39 : (zI w31M 336 6).toInt = (zI w31M 336 6).toInt := (congrArg Int32.toInt rfl).trans rfl
          have w40 : (59 : Int32).toInt = 59 := li59
          have w41 : (zI w31M 336 5).toInt = (zI M 336 5).toInt := (congrArg Int32.toInt ((w31F 336 5 rfl).trans ((zIoj (by decide)).trans ((zIo (by decide)).trans rfl)))).trans rfl
          have w42 : (zI w31M 336 6).toInt = (zI w31M 336 6).toInt := (congrArg Int32.toInt rfl).trans rfl
          have w43 := ib336_7 w31I
          have w44 : (zI w31M 336 7).toInt = (zI w31M 336 7).toInt := (congrArg Int32.toInt rfl).trans rfl
          refine zs_invV (pc := 121) (k := 336) (as' := [.int (59 : Int32)]) (st := []) t343_121 mf246 rfl rfl (Or.inl ⟨by decide, (zk1 (w31s.k fk_zMm_336))⟩) ⟨by decide, by decide, Nat.le_of_ble_eq_true rfl, Nat.le_of_ble_eq_true rfl⟩ (R246 w31s w31I ⟨by decide, by decide⟩ (by omega) (by omega) (by omega) (zTm.mk x0 (fun j => ((w31F 339 j rfl).trans ((zIo (by decide)).trans (zIo (by decide))))) ((w31F 336 5 rfl).trans ((zIoj (by decide)).trans (zIo (by decide))))) ?_) (fun _ _ q => q)
          intro w45M w45v w45s w45I w45F w45J w45x0 w45a w45b
          show zGo X l 3 0 0 343 124 [(4, .int (1 : Int32)), (3, .int w21v), (2, .int (1 : Int32)), (1, .int (zhere M)), (0, .ref 336)] [.int w45v] w45M _
          rw [show (59 : Int32).toInt = 59 by decide] at w45x0
          rcases w45x0 w32e (by omega) with ⟨w46v, w46_1, w46_2, w46_3, w46_4⟩ | ⟨w46v, w46_1, w46_4⟩
          · skip
            refine zs_if_neF (pc := 124) t343_124 rfl (by omega) ?_
            refine zs_iconst (pc := 127) t343_127 (v := 0) (by decide) ?_
            have w47 := ib336_6 w45I
            have w48 : (zI w45M 336 6).toInt = (zI w45M 336 6).toInt := (congrArg Int32.toInt rfl).trans rfl
            have w49 := ib336_7 w45I
            have w50 : (zI w45M 336 7).toInt = (zI w45M 336 7).toInt := (congrArg Int32.toInt rfl).trans rfl
            have w51 : (zI w45M 336 47).toInt = (zI M 336 47).toInt := (congrArg Int32.toInt ((w45F 336 47 rfl).trans ((w31F 336 47 rfl).trans ((zIoj (by decide)).trans ((zIo (by decide)).trans rfl))))).trans rfl
            exact zs_iret (pc := 128) t343_128 mr343 (by decide) (hQ _ _ w45s w45I (((((zFr.refl).put rfl).put rfl).trans (w31F.mono rfl)).trans (w45F.mono rfl)) (w45J.trans w31J) ⟨(fun p k hp hk => by obtain rfl : w7n = p := (by omega); obtain rfl : w10n = k := (by omega); exact Or.inr ⟨by decide, by omega, Or.inr ((pAc.o (L := 120) (by omega) (by decide)).trans (pB.f (pRd.n w32_1 (by omega))))⟩), (fun j hj => ((w45F 362 j rfl).trans ((w31F 362 j rfl).trans ((zIo (by decide)).trans (zIoj (by omega))))))⟩ (by decide) (by decide))
          · skip
            refine zs_if_neT (pc := 124) t343_124 rfl (by omega) ?_
            refine zs_aload_n (pc := 129) t343_129 rfl ?_
            refine zs_get (pc := 130) t343_130 (by decide) (zk1 (w45s.k fk_zMm_336)) (w45s.p rfl fv_zMm_336_46) ?_
            refine zs_iload_n (pc := 133) t343_133 rfl ?_
            refine zs_iload (pc := 134) t343_134 rfl ?_
            obtain ⟨w52v, w52e, w52⟩ := ziadd (a := w21v) (b := (1 : Int32)) w21g li1 (by omega) (by omega)
            refine zs_iadd (pc := 136) t343_136 (c := w52v) w52e ?_
            refine zs_aload_n (pc := 137) t343_137 rfl ?_
            have w53 := zrg (zI w31M 336 8)
            refine zs_get (pc := 138) t343_138 (by decide) (zk1 (w45s.k fk_zMm_336)) (zfvi rfl ((w45F 336 8 rfl).trans rfl)) ?_
            have w54 : zIv mLo mHi (zsI w45M 362 (1 + 4 * w10n) (zI w31M 336 8)) := zIv.put w45I (show (-2147483648) ≤ (zI w31M 336 8).toInt ∧ (zI w31M 336 8).toInt ≤ 2147483647 from zrg (zI w31M 336 8))
            refine zs_iast (pc := 141) t343_141 (j := (1 + 4 * w10n)) (by decide) (zk1 (w45s.k fk_zMm_362)) (show w52v.toInt = (((1 + 4 * w10n) : Nat) : Int) by omega) (zk2 (w45s.k fk_zMm_362) (by omega)) ?_
            refine zs_iinc (pc := 142) t343_142 (ls' := [(4, .int (2 : Int32)), (3, .int w21v), (2, .int (1 : Int32)), (1, .int (zhere M)), (0, .ref 336)]) (zml mf343 (by decide)) rfl (c := 2) (by decide) rfl ?_
            refine zs_goto (pc := 145) t343_145 ?_
            refine zs_iload (pc := 88) t343_88 rfl ?_
            refine zs_iload_n (pc := 90) t343_90 rfl ?_
            refine zs_icmp_gtT (pc := 91) t343_91 li2 li1 (by decide) ?_
            refine zs_aload_n (pc := 148) t343_148 rfl ?_
            refine zs_dup (pc := 149) t343_149 rfl ?_
            refine zs_get (pc := 150) t343_150 (by decide) (zk1 (w45s.k fk_zMm_336)) (zfvi rfl ((zIo (by decide)).trans ((w45F 336 47 rfl).trans ((w31F 336 47 rfl).trans ((zIoj (by decide)).trans ((zIo (by decide)).trans rfl)))))) ?_
            refine zs_iconst (pc := 153) t343_153 (v := 1) (by decide) ?_
            obtain ⟨w55v, w55e, w55⟩ := ziadd (a := (zI M 336 47)) (b := (1 : Int32)) rfl li1 (by omega) (by omega)
            refine zs_iadd (pc := 154) t343_154 (c := w55v) w55e ?_
            have w56 : zIv mLo mHi (zsI (zsI w45M 362 (1 + 4 * w10n) (zI w31M 336 8)) 336 47 w55v) := zIv.put w54 (show 0 ≤ w55v.toInt ∧ w55v.toInt ≤ 20 from ⟨by omega, by omega⟩)
            refine zs_putI (pc := 155) t343_155 (zk1 (w45s.k fk_zMm_336)) rfl ?_
            refine zs_iconst (pc := 158) t343_158 (v := 1) (by decide) ?_
            have w57 := ib336_6 w45I
            have w58 : (zI (zsI (zsI w45M 362 (1 + 4 * w10n) (zI w31M 336 8)) 336 47 w55v) 336 6).toInt = (zI w45M 336 6).toInt := (congrArg Int32.toInt ((zIoj (by decide)).trans ((zIo (by decide)).trans rfl))).trans rfl
            have w59 := ib336_7 w45I
            have w60 : (zI (zsI (zsI w45M 362 (1 + 4 * w10n) (zI w31M 336 8)) 336 47 w55v) 336 7).toInt = (zI w45M 336 7).toInt := (congrArg Int32.toInt ((zIoj (by decide)).trans ((zIo (by decide)).trans rfl))).trans rfl
            have w61 : (zI (zsI (zsI w45M 362 (1 + 4 * w10n) (zI w31M 336 8)) 336 47 w55v) 336 47).toInt = ((zI M 336 47).toInt + 1) := (congrArg Int32.toInt zIs).trans w55
            exact zs_iret (pc := 159) t343_159 mr343 (by decide) (hQ _ _ w45s w56 (((((((zFr.refl).put rfl).put rfl).trans (w31F.mono rfl)).trans (w45F.mono rfl)).put rfl).put rfl) (w45J.trans w31J) ⟨(fun p k hp hk => by obtain rfl : w7n = p := (by omega); obtain rfl : w10n = k := (by omega); exact Or.inl ⟨by decide, by omega, w32e + 1, _, ((pAc.o (L := 120) (by omega) (by decide)).trans (pB.y (pRd.y w32_1 (by omega) (by omega) (by omega)))), by omega, by omega, by omega, by omega, by omega, ⟨(by rw [show 4 * w10n = (4 * w10n) by omega]; have z := ((congrArg Int32.toInt ((zIo (by decide)).trans ((zIoj (by omega)).trans ((w45F 362 (4 * w10n) rfl).trans ((w31F 362 (4 * w10n) rfl).trans ((zIo (by decide)).trans zIs)))))).trans rfl); omega), (by rw [show 4 * w10n + 1 = (1 + 4 * w10n) by omega]; have z := ((congrArg Int32.toInt ((zIo (by decide)).trans zIs)).trans rfl); omega), (fun z => absurd z (by decide)), by decide⟩⟩), (fun j hj => ((zIo (by decide)).trans ((zIoj (by omega)).trans ((w45F 362 j rfl).trans ((w31F 362 j rfl).trans ((zIo (by decide)).trans (zIoj (by omega))))))))⟩ (by decide) (by decide))
      · refine zs_icmp_neF (pc := 49) t343_49 rfl li20 (by omega) ?_
        refine zs_aload_n (pc := 52) t343_52 rfl ?_
        refine zs_aload_n (pc := 53) t343_53 rfl ?_
        refine zs_get (pc := 54) t343_54 (by decide) (zk1 (hs.k fk_zMm_336)) (zfvi rfl rfl) ?_
        refine zs_invV (pc := 57) (k := 336) (as' := [.int (zI M 336 6)]) (st := []) t343_57 mf239 rfl rfl (Or.inl ⟨by decide, (zk1 (hs.k fk_zMm_336))⟩) ⟨by decide, by decide, Nat.le_of_ble_eq_true rfl, Nat.le_of_ble_eq_true rfl⟩ (zs_in (by decide) mf239 (Nat.le_of_ble_eq_true rfl) ?_) (fun _ _ q => q)
        show zGo X l 0 0 0 239 0 [(0, .ref 336), (1, .int (zI M 336 6))] [] M _
        refine zs_aload_n (pc := 0) t239_0 rfl ?_
        refine zs_iload_n (pc := 1) t239_1 rfl ?_
        have w62 : zIv mLo mHi (zsI M 336 7 (zI M 336 6)) := zIv.put hI (show (-1) ≤ (zI M 336 6).toInt ∧ (zI M 336 6).toInt ≤ 500 from ⟨by omega, by omega⟩)
        refine zs_putI (pc := 2) t239_2 (zk1 (hs.k fk_zMm_336)) rfl ?_
        refine zs_iconst (pc := 5) t239_5 (v := 0) (by decide) ?_
        refine zs_iret (pc := 6) t239_6 mr239 (by decide) ?_
        show zGo X l 3 0 0 343 60 [(2, .int (1 : Int32)), (1, .int (zhere M)), (0, .ref 336)] [.int (0 : Int32)] (zsI M 336 7 (zI M 336 6)) _
        have w63 : (zI (zsI M 336 7 (zI M 336 6)) 336 6).toInt = (zI M 336 6).toInt := (congrArg Int32.toInt ((zIoj (by decide)).trans rfl)).trans rfl
        have w64 : (zI (zsI M 336 7 (zI M 336 6)) 336 7).toInt = (zI M 336 6).toInt := (congrArg Int32.toInt zIs).trans rfl
        have w65 : (zI (zsI M 336 7 (zI M 336 6)) 336 47).toInt = (zI M 336 47).toInt := (congrArg Int32.toInt ((zIoj (by decide)).trans rfl)).trans rfl
        exact zs_iret (pc := 60) t343_60 mr343 (by decide) (hQ _ _ hs w62 ((zFr.refl).put rfl) rfl ⟨(fun p k hp hk => by obtain rfl : w7n = p := (by omega); obtain rfl : w10n = k := (by omega); exact Or.inr ⟨by decide, by omega, by first | exact Or.inl (by omega) | exact Or.inr (pAc.no (by omega))⟩), (fun j hj => (zIo (by decide)))⟩ (by decide) (by decide))
    · refine zs_icmp_eqF (pc := 18) t343_18 rfl li120 (by omega) ?_
      refine zs_iload_n (pc := 21) t343_21 rfl ?_
      refine zs_bipush (pc := 22) t343_22 (v := 100) (by decide) ?_
      by_cases w66 : (zhere M).toInt = 100
      · refine zs_icmp_eqT (pc := 24) t343_24 rfl li100 (by omega) ?_
        refine zs_iconst (pc := 33) t343_33 (v := 1) (by decide) ?_
        refine zs_goto (pc := 34) t343_34 ?_
        refine zs_istore_n (pc := 38) t343_38 (ls' := [(2, .int (1 : Int32)), (1, .int (zhere M)), (0, .ref 336)]) (zml mf343 (by decide)) rfl ?_
        refine zs_iload_n (pc := 39) t343_39 rfl ?_
        refine zs_if_eqF (pc := 40) t343_40 li1 (by decide) ?_
        refine zs_aload_n (pc := 43) t343_43 rfl ?_
        refine zs_get (pc := 44) t343_44 (by decide) (zk1 (hs.k fk_zMm_336)) (zfvi rfl rfl) ?_
        refine zs_bipush (pc := 47) t343_47 (v := 20) (by decide) ?_
        by_cases w67 : (zI M 336 47).toInt ≠ 20
        · refine zs_icmp_neT (pc := 49) t343_49 rfl li20 (by omega) ?_
          refine zs_iconst (pc := 61) t343_61 (v := 4) (by decide) ?_
          refine zs_aload_n (pc := 62) t343_62 rfl ?_
          refine zs_get (pc := 63) t343_63 (by decide) (zk1 (hs.k fk_zMm_336)) (zfvi rfl rfl) ?_
          obtain ⟨w68v, w68⟩ : ∃ v, (4 : Int32) * (zI M 336 47) = v := ⟨_, rfl⟩
          have w68g : w68v.toInt = 4 * (zI M 336 47).toInt := by rw [← w68]; exact zmulc li4 rfl (by omega) (by omega)
          refine zs_imul (pc := 66) t343_66 (c := w68v) w68 ?_
          refine zs_istore_n (pc := 67) t343_67 (ls' := [(3, .int w68v), (2, .int (1 : Int32)), (1, .int (zhere M)), (0, .ref 336)]) (zml mf343 (by decide)) rfl ?_
          refine zs_aload_n (pc := 68) t343_68 rfl ?_
          refine zs_get (pc := 69) t343_69 (by decide) (zk1 (hs.k fk_zMm_336)) (hs.p rfl fv_zMm_336_46) ?_
          refine zs_iload_n (pc := 72) t343_72 rfl ?_
          refine zs_iload_n (pc := 73) t343_73 rfl ?_
          have w69 : zIv mLo mHi (zsI M 362 (4 * w10n) (zhere M)) := zIv.put hI (show (-2147483648) ≤ (zhere M).toInt ∧ (zhere M).toInt ≤ 2147483647 from zrg (zhere M))
          refine zs_iast (pc := 74) t343_74 (j := (4 * w10n)) (by decide) (zk1 (hs.k fk_zMm_362)) (show w68v.toInt = (((4 * w10n) : Nat) : Int) by omega) (zk2 (hs.k fk_zMm_362) (by omega)) ?_
          refine zs_aload_n (pc := 75) t343_75 rfl ?_
          refine zs_dup (pc := 76) t343_76 rfl ?_
          refine zs_get (pc := 77) t343_77 (by decide) (zk1 (hs.k fk_zMm_336)) (zfvi rfl ((zIo (by decide)).trans rfl)) ?_
          refine zs_iconst (pc := 80) t343_80 (v := 1) (by decide) ?_
          obtain ⟨w70v, w70e, w70⟩ := ziadd (a := (zI M 336 6)) (b := (1 : Int32)) rfl li1 (by omega) (by omega)
          refine zs_iadd (pc := 81) t343_81 (c := w70v) w70e ?_
          have w71 : zIv mLo mHi (zsI (zsI M 362 (4 * w10n) (zhere M)) 336 6 w70v) := zIv.put w69 (show 0 ≤ w70v.toInt ∧ w70v.toInt ≤ 500 from ⟨by omega, by omega⟩)
          refine zs_putI (pc := 82) t343_82 (zk1 (hs.k fk_zMm_336)) rfl ?_
          refine zs_iconst (pc := 85) t343_85 (v := 1) (by decide) ?_
          refine zs_istore (pc := 86) t343_86 (ls' := [(4, .int (1 : Int32)), (3, .int w68v), (2, .int (1 : Int32)), (1, .int (zhere M)), (0, .ref 336)]) (zml mf343 (by decide)) rfl ?_
          refine zs_iload (pc := 88) t343_88 rfl ?_
          refine zs_iload_n (pc := 90) t343_90 rfl ?_
          refine zs_icmp_gtF (pc := 91) t343_91 li1 li1 (by decide) ?_
          refine zs_aload_n (pc := 94) t343_94 rfl ?_
          refine zs_sipush (pc := 95) t343_95 (v := -9999) (by decide) ?_
          refine zs_sipush (pc := 98) t343_98 (v := 9999) (by decide) ?_
          have w72 : (zI (zsI (zsI M 362 (4 * w10n) (zhere M)) 336 6 w70v) 336 6).toInt = ((zI M 336 6).toInt + 1) := (congrArg Int32.toInt zIs).trans w70
          have w73 : (-9999 : Int32).toInt = (-9999) := lin9999
          have w74 : (9999 : Int32).toInt = 9999 := li9999
          have w75 : (zI (zsI (zsI M 362 (4 * w10n) (zhere M)) 336 6 w70v) 336 5).toInt = (zI M 336 5).toInt := (congrArg Int32.toInt ((zIoj (by decide)).trans ((zIo (by decide)).trans rfl))).trans rfl
          have w76 : (zI (zsI (zsI M 362 (4 * w10n) (zhere M)) 336 6 w70v) 336 6).toInt = ((zI M 336 6).toInt + 1) := (congrArg Int32.toInt zIs).trans w70
          have w77 : (zI (zsI (zsI M 362 (4 * w10n) (zhere M)) 336 6 w70v) 336 7).toInt = (zI M 336 7).toInt := (congrArg Int32.toInt ((zIoj (by decide)).trans ((zIo (by decide)).trans rfl))).trans rfl
          refine zs_invV (pc := 101) (k := 336) (as' := [.int (-9999 : Int32), .int (9999 : Int32)]) (st := []) t343_101 mf243 rfl rfl (Or.inl ⟨by decide, (zk1 (hs.k fk_zMm_336))⟩) ⟨by decide, by decide, Nat.le_of_ble_eq_true rfl, Nat.le_of_ble_eq_true rfl⟩ (R243 hs w71 (by omega) (by omega) (by omega) (zTm.mk x0 (fun j => ((zIo (by decide)).trans (zIo (by decide)))) ((zIoj (by decide)).trans (zIo (by decide)))) ?_) (fun _ _ q => q)
          intro w78M w78v w78s w78I w78F w78J w78x0 w78a w78b
          show zGo X l 3 0 0 343 104 [(4, .int (1 : Int32)), (3, .int w68v), (2, .int (1 : Int32)), (1, .int (zhere M)), (0, .ref 336)] [.int w78v] w78M _
          rcases w78x0 (w7n + 1) (by omega) with ⟨w79v, w79e, w79x, w79_1, w79_2, w79_3, w79_4, w79_5, w79_6, w79_7, w79_8, w79_9, w79_10⟩ | ⟨w79v, w79_8, w79z⟩
          · skip
            rw [show (-9999 : Int32).toInt = -9999 by decide, show (9999 : Int32).toInt = 9999 by decide] at w79z
            refine zs_if_eqT (pc := 104) t343_104 rfl (by omega) ?_
            refine zs_iconst (pc := 127) t343_127 (v := 0) (by decide) ?_
            have w80 := ib336_6 w78I
            have w81 : (zI w78M 336 6).toInt = (zI w78M 336 6).toInt := (congrArg Int32.toInt rfl).trans rfl
            have w82 := ib336_7 w78I
            have w83 : (zI w78M 336 7).toInt = (zI w78M 336 7).toInt := (congrArg Int32.toInt rfl).trans rfl
            have w84 : (zI w78M 336 47).toInt = (zI M 336 47).toInt := (congrArg Int32.toInt ((w78F 336 47 rfl).trans ((zIoj (by decide)).trans ((zIo (by decide)).trans rfl)))).trans rfl
            exact zs_iret (pc := 128) t343_128 mr343 (by decide) (hQ _ _ w78s w78I ((((zFr.refl).put rfl).put rfl).trans (w78F.mono rfl)) w78J ⟨(fun p k hp hk => by obtain rfl : w7n = p := (by omega); obtain rfl : w10n = k := (by omega); exact Or.inr ⟨by decide, by omega, Or.inr ((pAc.o (L := 100) (by omega) (by decide)).trans (pB.f (by rcases w79z with q | ⟨e, x, q, q2⟩; exact pRd.f q; exact pRd.n q (by omega))))⟩), (fun j hj => ((w78F 362 j rfl).trans ((zIo (by decide)).trans (zIoj (by omega)))))⟩ (by decide) (by decide))
          · skip
            have w79y := x0.rg w79e
            refine zs_if_eqF (pc := 104) t343_104 rfl (by omega) ?_
            refine zs_aload_n (pc := 107) t343_107 rfl ?_
            refine zs_iload (pc := 108) t343_108 rfl ?_
            refine zs_iload_n (pc := 110) t343_110 rfl ?_
            refine zs_icmp_neF (pc := 111) t343_111 li1 li1 (by decide) ?_
            refine zs_bipush (pc := 114) t343_114 (v := 59) (by decide) ?_
            refine zs_goto (pc := 116) t343_116 ?_
            have w85 := ib336_6 w78I
            have w86 : (zI w78M 336 6).toInt = (zI w78M 336 6).toInt := (congrArg Int32.toInt rfl).trans rfl
            have w87 : (59 : Int32).toInt = 59 := li59
            have w88 : (zI w78M 336 5).toInt = (zI M 336 5).toInt := (congrArg Int32.toInt ((w78F 336 5 rfl).trans ((zIoj (by decide)).trans ((zIo (by decide)).trans rfl)))).trans rfl
            have w89 : (zI w78M 336 6).toInt = (zI w78M 336 6).toInt := (congrArg Int32.toInt rfl).trans rfl
            have w90 := ib336_7 w78I
            have w91 : (zI w78M 336 7).toInt = (zI w78M 336 7).toInt := (congrArg Int32.toInt rfl).trans rfl
            refine zs_invV (pc := 121) (k := 336) (as' := [.int (59 : Int32)]) (st := []) t343_121 mf246 rfl rfl (Or.inl ⟨by decide, (zk1 (w78s.k fk_zMm_336))⟩) ⟨by decide, by decide, Nat.le_of_ble_eq_true rfl, Nat.le_of_ble_eq_true rfl⟩ (R246 w78s w78I ⟨by decide, by decide⟩ (by omega) (by omega) (by omega) (zTm.mk x0 (fun j => ((w78F 339 j rfl).trans ((zIo (by decide)).trans (zIo (by decide))))) ((w78F 336 5 rfl).trans ((zIoj (by decide)).trans (zIo (by decide))))) ?_) (fun _ _ q => q)
            intro w92M w92v w92s w92I w92F w92J w92x0 w92a w92b
            show zGo X l 3 0 0 343 124 [(4, .int (1 : Int32)), (3, .int w68v), (2, .int (1 : Int32)), (1, .int (zhere M)), (0, .ref 336)] [.int w92v] w92M _
            rw [show (59 : Int32).toInt = 59 by decide] at w92x0
            rcases w92x0 w79e (by omega) with ⟨w93v, w93_1, w93_2, w93_3, w93_4⟩ | ⟨w93v, w93_1, w93_4⟩
            · skip
              refine zs_if_neF (pc := 124) t343_124 rfl (by omega) ?_
              refine zs_iconst (pc := 127) t343_127 (v := 0) (by decide) ?_
              have w94 := ib336_6 w92I
              have w95 : (zI w92M 336 6).toInt = (zI w92M 336 6).toInt := (congrArg Int32.toInt rfl).trans rfl
              have w96 := ib336_7 w92I
              have w97 : (zI w92M 336 7).toInt = (zI w92M 336 7).toInt := (congrArg Int32.toInt rfl).trans rfl
              have w98 : (zI w92M 336 47).toInt = (zI M 336 47).toInt := (congrArg Int32.toInt ((w92F 336 47 rfl).trans ((w78F 336 47 rfl).trans ((zIoj (by decide)).trans ((zIo (by decide)).trans rfl))))).trans rfl
              exact zs_iret (pc := 128) t343_128 mr343 (by decide) (hQ _ _ w92s w92I (((((zFr.refl).put rfl).put rfl).trans (w78F.mono rfl)).trans (w92F.mono rfl)) (w92J.trans w78J) ⟨(fun p k hp hk => by obtain rfl : w7n = p := (by omega); obtain rfl : w10n = k := (by omega); exact Or.inr ⟨by decide, by omega, Or.inr ((pAc.o (L := 100) (by omega) (by decide)).trans (pB.f (pRd.n w79_1 (by omega))))⟩), (fun j hj => ((w92F 362 j rfl).trans ((w78F 362 j rfl).trans ((zIo (by decide)).trans (zIoj (by omega))))))⟩ (by decide) (by decide))
            · skip
              refine zs_if_neT (pc := 124) t343_124 rfl (by omega) ?_
              refine zs_aload_n (pc := 129) t343_129 rfl ?_
              refine zs_get (pc := 130) t343_130 (by decide) (zk1 (w92s.k fk_zMm_336)) (w92s.p rfl fv_zMm_336_46) ?_
              refine zs_iload_n (pc := 133) t343_133 rfl ?_
              refine zs_iload (pc := 134) t343_134 rfl ?_
              obtain ⟨w99v, w99e, w99⟩ := ziadd (a := w68v) (b := (1 : Int32)) w68g li1 (by omega) (by omega)
              refine zs_iadd (pc := 136) t343_136 (c := w99v) w99e ?_
              refine zs_aload_n (pc := 137) t343_137 rfl ?_
              have w100 := zrg (zI w78M 336 8)
              refine zs_get (pc := 138) t343_138 (by decide) (zk1 (w92s.k fk_zMm_336)) (zfvi rfl ((w92F 336 8 rfl).trans rfl)) ?_
              have w101 : zIv mLo mHi (zsI w92M 362 (1 + 4 * w10n) (zI w78M 336 8)) := zIv.put w92I (show (-2147483648) ≤ (zI w78M 336 8).toInt ∧ (zI w78M 336 8).toInt ≤ 2147483647 from zrg (zI w78M 336 8))
              refine zs_iast (pc := 141) t343_141 (j := (1 + 4 * w10n)) (by decide) (zk1 (w92s.k fk_zMm_362)) (show w99v.toInt = (((1 + 4 * w10n) : Nat) : Int) by omega) (zk2 (w92s.k fk_zMm_362) (by omega)) ?_
              refine zs_iinc (pc := 142) t343_142 (ls' := [(4, .int (2 : Int32)), (3, .int w68v), (2, .int (1 : Int32)), (1, .int (zhere M)), (0, .ref 336)]) (zml mf343 (by decide)) rfl (c := 2) (by decide) rfl ?_
              refine zs_goto (pc := 145) t343_145 ?_
              refine zs_iload (pc := 88) t343_88 rfl ?_
              refine zs_iload_n (pc := 90) t343_90 rfl ?_
              refine zs_icmp_gtT (pc := 91) t343_91 li2 li1 (by decide) ?_
              refine zs_aload_n (pc := 148) t343_148 rfl ?_
              refine zs_dup (pc := 149) t343_149 rfl ?_
              refine zs_get (pc := 150) t343_150 (by decide) (zk1 (w92s.k fk_zMm_336)) (zfvi rfl ((zIo (by decide)).trans ((w92F 336 47 rfl).trans ((w78F 336 47 rfl).trans ((zIoj (by decide)).trans ((zIo (by decide)).trans rfl)))))) ?_
              refine zs_iconst (pc := 153) t343_153 (v := 1) (by decide) ?_
              obtain ⟨w102v, w102e, w102⟩ := ziadd (a := (zI M 336 47)) (b := (1 : Int32)) rfl li1 (by omega) (by omega)
              refine zs_iadd (pc := 154) t343_154 (c := w102v) w102e ?_
              have w103 : zIv mLo mHi (zsI (zsI w92M 362 (1 + 4 * w10n) (zI w78M 336 8)) 336 47 w102v) := zIv.put w101 (show 0 ≤ w102v.toInt ∧ w102v.toInt ≤ 20 from ⟨by omega, by omega⟩)
              refine zs_putI (pc := 155) t343_155 (zk1 (w92s.k fk_zMm_336)) rfl ?_
              refine zs_iconst (pc := 158) t343_158 (v := 1) (by decide) ?_
              have w104 := ib336_6 w92I
              have w105 : (zI (zsI (zsI w92M 362 (1 + 4 * w10n) (zI w78M 336 8)) 336 47 w102v) 336 6).toInt = (zI w92M 336 6).toInt := (congrArg Int32.toInt ((zIoj (by decide)).trans ((zIo (by decide)).trans rfl))).trans rfl
              have w106 := ib336_7 w92I
              have w107 : (zI (zsI (zsI w92M 362 (1 + 4 * w10n) (zI w78M 336 8)) 336 47 w102v) 336 7).toInt = (zI w92M 336 7).toInt := (congrArg Int32.toInt ((zIoj (by decide)).trans ((zIo (by decide)).trans rfl))).trans rfl
              have w108 : (zI (zsI (zsI w92M 362 (1 + 4 * w10n) (zI w78M 336 8)) 336 47 w102v) 336 47).toInt = ((zI M 336 47).toInt + 1) := (congrArg Int32.toInt zIs).trans w102
              exact zs_iret (pc := 159) t343_159 mr343 (by decide) (hQ _ _ w92s w103 (((((((zFr.refl).put rfl).put rfl).trans (w78F.mono rfl)).trans (w92F.mono rfl)).put rfl).put rfl) (w92J.trans w78J) ⟨(fun p k hp hk => by obtain rfl : w7n = p := (by omega); obtain rfl : w10n = k := (by omega); exact Or.inl ⟨by decide, by omega, w79e + 1, _, ((pAc.o (L := 100) (by omega) (by decide)).trans (pB.y (pRd.y w79_1 (by omega) (by omega) (by omega)))), by omega, by omega, by omega, by omega, by omega, ⟨(by rw [show 4 * w10n = (4 * w10n) by omega]; have z := ((congrArg Int32.toInt ((zIo (by decide)).trans ((zIoj (by omega)).trans ((w92F 362 (4 * w10n) rfl).trans ((w78F 362 (4 * w10n) rfl).trans ((zIo (by decide)).trans zIs)))))).trans rfl); omega), (by rw [show 4 * w10n + 1 = (1 + 4 * w10n) by omega]; have z := ((congrArg Int32.toInt ((zIo (by decide)).trans zIs)).trans rfl); omega), (fun z => absurd z (by decide)), by decide⟩⟩), (fun j hj => ((zIo (by decide)).trans ((zIoj (by omega)).trans ((w92F 362 j rfl).trans ((w78F 362 j rfl).trans ((zIo (by decide)).trans (zIoj (by omega))))))))⟩ (by decide) (by decide))
        · refine zs_icmp_neF (pc := 49) t343_49 rfl li20 (by omega) ?_
          refine zs_aload_n (pc := 52) t343_52 rfl ?_
          refine zs_aload_n (pc := 53) t343_53 rfl ?_
          refine zs_get (pc := 54) t343_54 (by decide) (zk1 (hs.k fk_zMm_336)) (zfvi rfl rfl) ?_
          refine zs_invV (pc := 57) (k := 336) (as' := [.int (zI M 336 6)]) (st := []) t343_57 mf239 rfl rfl (Or.inl ⟨by decide, (zk1 (hs.k fk_zMm_336))⟩) ⟨by decide, by decide, Nat.le_of_ble_eq_true rfl, Nat.le_of_ble_eq_true rfl⟩ (zs_in (by decide) mf239 (Nat.le_of_ble_eq_true rfl) ?_) (fun _ _ q => q)
          show zGo X l 0 0 0 239 0 [(0, .ref 336), (1, .int (zI M 336 6))] [] M _
          refine zs_aload_n (pc := 0) t239_0 rfl ?_
          refine zs_iload_n (pc := 1) t239_1 rfl ?_
          have w109 : zIv mLo mHi (zsI M 336 7 (zI M 336 6)) := zIv.put hI (show (-1) ≤ (zI M 336 6).toInt ∧ (zI M 336 6).toInt ≤ 500 from ⟨by omega, by omega⟩)
          refine zs_putI (pc := 2) t239_2 (zk1 (hs.k fk_zMm_336)) rfl ?_
          refine zs_iconst (pc := 5) t239_5 (v := 0) (by decide) ?_
          refine zs_iret (pc := 6) t239_6 mr239 (by decide) ?_
          show zGo X l 3 0 0 343 60 [(2, .int (1 : Int32)), (1, .int (zhere M)), (0, .ref 336)] [.int (0 : Int32)] (zsI M 336 7 (zI M 336 6)) _
          have w110 : (zI (zsI M 336 7 (zI M 336 6)) 336 6).toInt = (zI M 336 6).toInt := (congrArg Int32.toInt ((zIoj (by decide)).trans rfl)).trans rfl
          have w111 : (zI (zsI M 336 7 (zI M 336 6)) 336 7).toInt = (zI M 336 6).toInt := (congrArg Int32.toInt zIs).trans rfl
          have w112 : (zI (zsI M 336 7 (zI M 336 6)) 336 47).toInt = (zI M 336 47).toInt := (congrArg Int32.toInt ((zIoj (by decide)).trans rfl)).trans rfl
          exact zs_iret (pc := 60) t343_60 mr343 (by decide) (hQ _ _ hs w109 ((zFr.refl).put rfl) rfl ⟨(fun p k hp hk => by obtain rfl : w7n = p := (by omega); obtain rfl : w10n = k := (by omega); exact Or.inr ⟨by decide, by omega, by first | exact Or.inl (by omega) | exact Or.inr (pAc.no (by omega))⟩), (fun j hj => (zIo (by decide)))⟩ (by decide) (by decide))
      · refine zs_icmp_eqF (pc := 24) t343_24 rfl li100 (by omega) ?_
        refine zs_iload_n (pc := 27) t343_27 rfl ?_
        refine zs_bipush (pc := 28) t343_28 (v := 110) (by decide) ?_
        by_cases w113 : (zhere M).toInt ≠ 110
        · refine zs_icmp_neT (pc := 30) t343_30 rfl li110 (by omega) ?_
          refine zs_iconst (pc := 37) t343_37 (v := 0) (by decide) ?_
          refine zs_istore_n (pc := 38) t343_38 (ls' := [(2, .int (0 : Int32)), (1, .int (zhere M)), (0, .ref 336)]) (zml mf343 (by decide)) rfl ?_
          refine zs_iload_n (pc := 39) t343_39 rfl ?_
          refine zs_if_eqT (pc := 40) t343_40 li0 (by decide) ?_
          refine zs_aload_n (pc := 52) t343_52 rfl ?_
          refine zs_aload_n (pc := 53) t343_53 rfl ?_
          refine zs_get (pc := 54) t343_54 (by decide) (zk1 (hs.k fk_zMm_336)) (zfvi rfl rfl) ?_
          refine zs_invV (pc := 57) (k := 336) (as' := [.int (zI M 336 6)]) (st := []) t343_57 mf239 rfl rfl (Or.inl ⟨by decide, (zk1 (hs.k fk_zMm_336))⟩) ⟨by decide, by decide, Nat.le_of_ble_eq_true rfl, Nat.le_of_ble_eq_true rfl⟩ (zs_in (by decide) mf239 (Nat.le_of_ble_eq_true rfl) ?_) (fun _ _ q => q)
          show zGo X l 0 0 0 239 0 [(0, .ref 336), (1, .int (zI M 336 6))] [] M _
          refine zs_aload_n (pc := 0) t239_0 rfl ?_
          refine zs_iload_n (pc := 1) t239_1 rfl ?_
          have w114 : zIv mLo mHi (zsI M 336 7 (zI M 336 6)) := zIv.put hI (show (-1) ≤ (zI M 336 6).toInt ∧ (zI M 336 6).toInt ≤ 500 from ⟨by omega, by omega⟩)
          refine zs_putI (pc := 2) t239_2 (zk1 (hs.k fk_zMm_336)) rfl ?_
          refine zs_iconst (pc := 5) t239_5 (v := 0) (by decide) ?_
          refine zs_iret (pc := 6) t239_6 mr239 (by decide) ?_
          show zGo X l 3 0 0 343 60 [(2, .int (0 : Int32)), (1, .int (zhere M)), (0, .ref 336)] [.int (0 : Int32)] (zsI M 336 7 (zI M 336 6)) _
          have w115 : (zI (zsI M 336 7 (zI M 336 6)) 336 6).toInt = (zI M 336 6).toInt := (congrArg Int32.toInt ((zIoj (by decide)).trans rfl)).trans rfl
          have w116 : (zI (zsI M 336 7 (zI M 336 6)) 336 7).toInt = (zI M 336 6).toInt := (congrArg Int32.toInt zIs).trans rfl
          have w117 : (zI (zsI M 336 7 (zI M 336 6)) 336 47).toInt = (zI M 336 47).toInt := (congrArg Int32.toInt ((zIoj (by decide)).trans rfl)).trans rfl
          exact zs_iret (pc := 60) t343_60 mr343 (by decide) (hQ _ _ hs w114 ((zFr.refl).put rfl) rfl ⟨(fun p k hp hk => by obtain rfl : w7n = p := (by omega); obtain rfl : w10n = k := (by omega); exact Or.inr ⟨by decide, by omega, by first | exact Or.inl (by omega) | exact Or.inr (pAc.no (by omega))⟩), (fun j hj => (zIo (by decide)))⟩ (by decide) (by decide))
        · refine zs_icmp_neF (pc := 30) t343_30 rfl li110 (by omega) ?_
          refine zs_iconst (pc := 33) t343_33 (v := 1) (by decide) ?_
          refine zs_goto (pc := 34) t343_34 ?_
          refine zs_istore_n (pc := 38) t343_38 (ls' := [(2, .int (1 : Int32)), (1, .int (zhere M)), (0, .ref 336)]) (zml mf343 (by decide)) rfl ?_
          refine zs_iload_n (pc := 39) t343_39 rfl ?_
          refine zs_if_eqF (pc := 40) t343_40 li1 (by decide) ?_
          refine zs_aload_n (pc := 43) t343_43 rfl ?_
          refine zs_get (pc := 44) t343_44 (by decide) (zk1 (hs.k fk_zMm_336)) (zfvi rfl rfl) ?_
          refine zs_bipush (pc := 47) t343_47 (v := 20) (by decide) ?_
          by_cases w118 : (zI M 336 47).toInt ≠ 20
          · refine zs_icmp_neT (pc := 49) t343_49 rfl li20 (by omega) ?_
            refine zs_iconst (pc := 61) t343_61 (v := 4) (by decide) ?_
            refine zs_aload_n (pc := 62) t343_62 rfl ?_
            refine zs_get (pc := 63) t343_63 (by decide) (zk1 (hs.k fk_zMm_336)) (zfvi rfl rfl) ?_
            obtain ⟨w119v, w119⟩ : ∃ v, (4 : Int32) * (zI M 336 47) = v := ⟨_, rfl⟩
            have w119g : w119v.toInt = 4 * (zI M 336 47).toInt := by rw [← w119]; exact zmulc li4 rfl (by omega) (by omega)
            refine zs_imul (pc := 66) t343_66 (c := w119v) w119 ?_
            refine zs_istore_n (pc := 67) t343_67 (ls' := [(3, .int w119v), (2, .int (1 : Int32)), (1, .int (zhere M)), (0, .ref 336)]) (zml mf343 (by decide)) rfl ?_
            refine zs_aload_n (pc := 68) t343_68 rfl ?_
            refine zs_get (pc := 69) t343_69 (by decide) (zk1 (hs.k fk_zMm_336)) (hs.p rfl fv_zMm_336_46) ?_
            refine zs_iload_n (pc := 72) t343_72 rfl ?_
            refine zs_iload_n (pc := 73) t343_73 rfl ?_
            have w120 : zIv mLo mHi (zsI M 362 (4 * w10n) (zhere M)) := zIv.put hI (show (-2147483648) ≤ (zhere M).toInt ∧ (zhere M).toInt ≤ 2147483647 from zrg (zhere M))
            refine zs_iast (pc := 74) t343_74 (j := (4 * w10n)) (by decide) (zk1 (hs.k fk_zMm_362)) (show w119v.toInt = (((4 * w10n) : Nat) : Int) by omega) (zk2 (hs.k fk_zMm_362) (by omega)) ?_
            refine zs_aload_n (pc := 75) t343_75 rfl ?_
            refine zs_dup (pc := 76) t343_76 rfl ?_
            refine zs_get (pc := 77) t343_77 (by decide) (zk1 (hs.k fk_zMm_336)) (zfvi rfl ((zIo (by decide)).trans rfl)) ?_
            refine zs_iconst (pc := 80) t343_80 (v := 1) (by decide) ?_
            obtain ⟨w121v, w121e, w121⟩ := ziadd (a := (zI M 336 6)) (b := (1 : Int32)) rfl li1 (by omega) (by omega)
            refine zs_iadd (pc := 81) t343_81 (c := w121v) w121e ?_
            have w122 : zIv mLo mHi (zsI (zsI M 362 (4 * w10n) (zhere M)) 336 6 w121v) := zIv.put w120 (show 0 ≤ w121v.toInt ∧ w121v.toInt ≤ 500 from ⟨by omega, by omega⟩)
            refine zs_putI (pc := 82) t343_82 (zk1 (hs.k fk_zMm_336)) rfl ?_
            refine zs_iconst (pc := 85) t343_85 (v := 1) (by decide) ?_
            refine zs_istore (pc := 86) t343_86 (ls' := [(4, .int (1 : Int32)), (3, .int w119v), (2, .int (1 : Int32)), (1, .int (zhere M)), (0, .ref 336)]) (zml mf343 (by decide)) rfl ?_
            refine zs_iload (pc := 88) t343_88 rfl ?_
            refine zs_iload_n (pc := 90) t343_90 rfl ?_
            refine zs_icmp_gtF (pc := 91) t343_91 li1 li1 (by decide) ?_
            refine zs_aload_n (pc := 94) t343_94 rfl ?_
            refine zs_sipush (pc := 95) t343_95 (v := -9999) (by decide) ?_
            refine zs_sipush (pc := 98) t343_98 (v := 9999) (by decide) ?_
            have w123 : (zI (zsI (zsI M 362 (4 * w10n) (zhere M)) 336 6 w121v) 336 6).toInt = ((zI M 336 6).toInt + 1) := (congrArg Int32.toInt zIs).trans w121
            have w124 : (-9999 : Int32).toInt = (-9999) := lin9999
            have w125 : (9999 : Int32).toInt = 9999 := li9999
            have w126 : (zI (zsI (zsI M 362 (4 * w10n) (zhere M)) 336 6 w121v) 336 5).toInt = (zI M 336 5).toInt := (congrArg Int32.toInt ((zIoj (by decide)).trans ((zIo (by decide)).trans rfl))).trans rfl
            have w127 : (zI (zsI (zsI M 362 (4 * w10n) (zhere M)) 336 6 w121v) 336 6).toInt = ((zI M 336 6).toInt + 1) := (congrArg Int32.toInt zIs).trans w121
            have w128 : (zI (zsI (zsI M 362 (4 * w10n) (zhere M)) 336 6 w121v) 336 7).toInt = (zI M 336 7).toInt := (congrArg Int32.toInt ((zIoj (by decide)).trans ((zIo (by decide)).trans rfl))).trans rfl
            refine zs_invV (pc := 101) (k := 336) (as' := [.int (-9999 : Int32), .int (9999 : Int32)]) (st := []) t343_101 mf243 rfl rfl (Or.inl ⟨by decide, (zk1 (hs.k fk_zMm_336))⟩) ⟨by decide, by decide, Nat.le_of_ble_eq_true rfl, Nat.le_of_ble_eq_true rfl⟩ (R243 hs w122 (by omega) (by omega) (by omega) (zTm.mk x0 (fun j => ((zIo (by decide)).trans (zIo (by decide)))) ((zIoj (by decide)).trans (zIo (by decide)))) ?_) (fun _ _ q => q)
            intro w129M w129v w129s w129I w129F w129J w129x0 w129a w129b
            show zGo X l 3 0 0 343 104 [(4, .int (1 : Int32)), (3, .int w119v), (2, .int (1 : Int32)), (1, .int (zhere M)), (0, .ref 336)] [.int w129v] w129M _
            rcases w129x0 (w7n + 1) (by omega) with ⟨w130v, w130e, w130x, w130_1, w130_2, w130_3, w130_4, w130_5, w130_6, w130_7, w130_8, w130_9, w130_10⟩ | ⟨w130v, w130_8, w130z⟩
            · skip
              rw [show (-9999 : Int32).toInt = -9999 by decide, show (9999 : Int32).toInt = 9999 by decide] at w130z
              refine zs_if_eqT (pc := 104) t343_104 rfl (by omega) ?_
              refine zs_iconst (pc := 127) t343_127 (v := 0) (by decide) ?_
              have w131 := ib336_6 w129I
              have w132 : (zI w129M 336 6).toInt = (zI w129M 336 6).toInt := (congrArg Int32.toInt rfl).trans rfl
              have w133 := ib336_7 w129I
              have w134 : (zI w129M 336 7).toInt = (zI w129M 336 7).toInt := (congrArg Int32.toInt rfl).trans rfl
              have w135 : (zI w129M 336 47).toInt = (zI M 336 47).toInt := (congrArg Int32.toInt ((w129F 336 47 rfl).trans ((zIoj (by decide)).trans ((zIo (by decide)).trans rfl)))).trans rfl
              exact zs_iret (pc := 128) t343_128 mr343 (by decide) (hQ _ _ w129s w129I ((((zFr.refl).put rfl).put rfl).trans (w129F.mono rfl)) w129J ⟨(fun p k hp hk => by obtain rfl : w7n = p := (by omega); obtain rfl : w10n = k := (by omega); exact Or.inr ⟨by decide, by omega, Or.inr ((pAc.o (L := 110) (by omega) (by decide)).trans (pB.f (by rcases w130z with q | ⟨e, x, q, q2⟩; exact pRd.f q; exact pRd.n q (by omega))))⟩), (fun j hj => ((w129F 362 j rfl).trans ((zIo (by decide)).trans (zIoj (by omega)))))⟩ (by decide) (by decide))
            · skip
              have w130y := x0.rg w130e
              refine zs_if_eqF (pc := 104) t343_104 rfl (by omega) ?_
              refine zs_aload_n (pc := 107) t343_107 rfl ?_
              refine zs_iload (pc := 108) t343_108 rfl ?_
              refine zs_iload_n (pc := 110) t343_110 rfl ?_
              refine zs_icmp_neF (pc := 111) t343_111 li1 li1 (by decide) ?_
              refine zs_bipush (pc := 114) t343_114 (v := 59) (by decide) ?_
              refine zs_goto (pc := 116) t343_116 ?_
              have w136 := ib336_6 w129I
              have w137 : (zI w129M 336 6).toInt = (zI w129M 336 6).toInt := (congrArg Int32.toInt rfl).trans rfl
              have w138 : (59 : Int32).toInt = 59 := li59
              have w139 : (zI w129M 336 5).toInt = (zI M 336 5).toInt := (congrArg Int32.toInt ((w129F 336 5 rfl).trans ((zIoj (by decide)).trans ((zIo (by decide)).trans rfl)))).trans rfl
              have w140 : (zI w129M 336 6).toInt = (zI w129M 336 6).toInt := (congrArg Int32.toInt rfl).trans rfl
              have w141 := ib336_7 w129I
              have w142 : (zI w129M 336 7).toInt = (zI w129M 336 7).toInt := (congrArg Int32.toInt rfl).trans rfl
              refine zs_invV (pc := 121) (k := 336) (as' := [.int (59 : Int32)]) (st := []) t343_121 mf246 rfl rfl (Or.inl ⟨by decide, (zk1 (w129s.k fk_zMm_336))⟩) ⟨by decide, by decide, Nat.le_of_ble_eq_true rfl, Nat.le_of_ble_eq_true rfl⟩ (R246 w129s w129I ⟨by decide, by decide⟩ (by omega) (by omega) (by omega) (zTm.mk x0 (fun j => ((w129F 339 j rfl).trans ((zIo (by decide)).trans (zIo (by decide))))) ((w129F 336 5 rfl).trans ((zIoj (by decide)).trans (zIo (by decide))))) ?_) (fun _ _ q => q)
              intro w143M w143v w143s w143I w143F w143J w143x0 w143a w143b
              show zGo X l 3 0 0 343 124 [(4, .int (1 : Int32)), (3, .int w119v), (2, .int (1 : Int32)), (1, .int (zhere M)), (0, .ref 336)] [.int w143v] w143M _
              rw [show (59 : Int32).toInt = 59 by decide] at w143x0
              rcases w143x0 w130e (by omega) with ⟨w144v, w144_1, w144_2, w144_3, w144_4⟩ | ⟨w144v, w144_1, w144_4⟩
              · skip
                refine zs_if_neF (pc := 124) t343_124 rfl (by omega) ?_
                refine zs_iconst (pc := 127) t343_127 (v := 0) (by decide) ?_
                have w145 := ib336_6 w143I
                have w146 : (zI w143M 336 6).toInt = (zI w143M 336 6).toInt := (congrArg Int32.toInt rfl).trans rfl
                have w147 := ib336_7 w143I
                have w148 : (zI w143M 336 7).toInt = (zI w143M 336 7).toInt := (congrArg Int32.toInt rfl).trans rfl
                have w149 : (zI w143M 336 47).toInt = (zI M 336 47).toInt := (congrArg Int32.toInt ((w143F 336 47 rfl).trans ((w129F 336 47 rfl).trans ((zIoj (by decide)).trans ((zIo (by decide)).trans rfl))))).trans rfl
                exact zs_iret (pc := 128) t343_128 mr343 (by decide) (hQ _ _ w143s w143I (((((zFr.refl).put rfl).put rfl).trans (w129F.mono rfl)).trans (w143F.mono rfl)) (w143J.trans w129J) ⟨(fun p k hp hk => by obtain rfl : w7n = p := (by omega); obtain rfl : w10n = k := (by omega); exact Or.inr ⟨by decide, by omega, Or.inr ((pAc.o (L := 110) (by omega) (by decide)).trans (pB.f (pRd.n w130_1 (by omega))))⟩), (fun j hj => ((w143F 362 j rfl).trans ((w129F 362 j rfl).trans ((zIo (by decide)).trans (zIoj (by omega))))))⟩ (by decide) (by decide))
              · skip
                refine zs_if_neT (pc := 124) t343_124 rfl (by omega) ?_
                refine zs_aload_n (pc := 129) t343_129 rfl ?_
                refine zs_get (pc := 130) t343_130 (by decide) (zk1 (w143s.k fk_zMm_336)) (w143s.p rfl fv_zMm_336_46) ?_
                refine zs_iload_n (pc := 133) t343_133 rfl ?_
                refine zs_iload (pc := 134) t343_134 rfl ?_
                obtain ⟨w150v, w150e, w150⟩ := ziadd (a := w119v) (b := (1 : Int32)) w119g li1 (by omega) (by omega)
                refine zs_iadd (pc := 136) t343_136 (c := w150v) w150e ?_
                refine zs_aload_n (pc := 137) t343_137 rfl ?_
                have w151 := zrg (zI w129M 336 8)
                refine zs_get (pc := 138) t343_138 (by decide) (zk1 (w143s.k fk_zMm_336)) (zfvi rfl ((w143F 336 8 rfl).trans rfl)) ?_
                have w152 : zIv mLo mHi (zsI w143M 362 (1 + 4 * w10n) (zI w129M 336 8)) := zIv.put w143I (show (-2147483648) ≤ (zI w129M 336 8).toInt ∧ (zI w129M 336 8).toInt ≤ 2147483647 from zrg (zI w129M 336 8))
                refine zs_iast (pc := 141) t343_141 (j := (1 + 4 * w10n)) (by decide) (zk1 (w143s.k fk_zMm_362)) (show w150v.toInt = (((1 + 4 * w10n) : Nat) : Int) by omega) (zk2 (w143s.k fk_zMm_362) (by omega)) ?_
                refine zs_iinc (pc := 142) t343_142 (ls' := [(4, .int (2 : Int32)), (3, .int w119v), (2, .int (1 : Int32)), (1, .int (zhere M)), (0, .ref 336)]) (zml mf343 (by decide)) rfl (c := 2) (by decide) rfl ?_
                refine zs_goto (pc := 145) t343_145 ?_
                refine zs_iload (pc := 88) t343_88 rfl ?_
                refine zs_iload_n (pc := 90) t343_90 rfl ?_
                refine zs_icmp_gtT (pc := 91) t343_91 li2 li1 (by decide) ?_
                refine zs_aload_n (pc := 148) t343_148 rfl ?_
                refine zs_dup (pc := 149) t343_149 rfl ?_
                refine zs_get (pc := 150) t343_150 (by decide) (zk1 (w143s.k fk_zMm_336)) (zfvi rfl ((zIo (by decide)).trans ((w143F 336 47 rfl).trans ((w129F 336 47 rfl).trans ((zIoj (by decide)).trans ((zIo (by decide)).trans rfl)))))) ?_
                refine zs_iconst (pc := 153) t343_153 (v := 1) (by decide) ?_
                obtain ⟨w153v, w153e, w153⟩ := ziadd (a := (zI M 336 47)) (b := (1 : Int32)) rfl li1 (by omega) (by omega)
                refine zs_iadd (pc := 154) t343_154 (c := w153v) w153e ?_
                have w154 : zIv mLo mHi (zsI (zsI w143M 362 (1 + 4 * w10n) (zI w129M 336 8)) 336 47 w153v) := zIv.put w152 (show 0 ≤ w153v.toInt ∧ w153v.toInt ≤ 20 from ⟨by omega, by omega⟩)
                refine zs_putI (pc := 155) t343_155 (zk1 (w143s.k fk_zMm_336)) rfl ?_
                refine zs_iconst (pc := 158) t343_158 (v := 1) (by decide) ?_
                have w155 := ib336_6 w143I
                have w156 : (zI (zsI (zsI w143M 362 (1 + 4 * w10n) (zI w129M 336 8)) 336 47 w153v) 336 6).toInt = (zI w143M 336 6).toInt := (congrArg Int32.toInt ((zIoj (by decide)).trans ((zIo (by decide)).trans rfl))).trans rfl
                have w157 := ib336_7 w143I
                have w158 : (zI (zsI (zsI w143M 362 (1 + 4 * w10n) (zI w129M 336 8)) 336 47 w153v) 336 7).toInt = (zI w143M 336 7).toInt := (congrArg Int32.toInt ((zIoj (by decide)).trans ((zIo (by decide)).trans rfl))).trans rfl
                have w159 : (zI (zsI (zsI w143M 362 (1 + 4 * w10n) (zI w129M 336 8)) 336 47 w153v) 336 47).toInt = ((zI M 336 47).toInt + 1) := (congrArg Int32.toInt zIs).trans w153
                exact zs_iret (pc := 159) t343_159 mr343 (by decide) (hQ _ _ w143s w154 (((((((zFr.refl).put rfl).put rfl).trans (w129F.mono rfl)).trans (w143F.mono rfl)).put rfl).put rfl) (w143J.trans w129J) ⟨(fun p k hp hk => by obtain rfl : w7n = p := (by omega); obtain rfl : w10n = k := (by omega); exact Or.inl ⟨by decide, by omega, w130e + 1, _, ((pAc.o (L := 110) (by omega) (by decide)).trans (pB.y (pRd.y w130_1 (by omega) (by omega) (by omega)))), by omega, by omega, by omega, by omega, by omega, ⟨(by rw [show 4 * w10n = (4 * w10n) by omega]; have z := ((congrArg Int32.toInt ((zIo (by decide)).trans ((zIoj (by omega)).trans ((w143F 362 (4 * w10n) rfl).trans ((w129F 362 (4 * w10n) rfl).trans ((zIo (by decide)).trans zIs)))))).trans rfl); omega), (by rw [show 4 * w10n + 1 = (1 + 4 * w10n) by omega]; have z := ((congrArg Int32.toInt ((zIo (by decide)).trans zIs)).trans rfl); omega), (fun z => absurd z (by decide)), by decide⟩⟩), (fun j hj => ((zIo (by decide)).trans ((zIoj (by omega)).trans ((w143F 362 j rfl).trans ((w129F 362 j rfl).trans ((zIo (by decide)).trans (zIoj (by omega))))))))⟩ (by decide) (by decide))
          · refine zs_icmp_neF (pc := 49) t343_49 rfl li20 (by omega) ?_
            refine zs_aload_n (pc := 52) t343_52 rfl ?_
            refine zs_aload_n (pc := 53) t343_53 rfl ?_
            refine zs_get (pc := 54) t343_54 (by decide) (zk1 (hs.k fk_zMm_336)) (zfvi rfl rfl) ?_
            refine zs_invV (pc := 57) (k := 336) (as' := [.int (zI M 336 6)]) (st := []) t343_57 mf239 rfl rfl (Or.inl ⟨by decide, (zk1 (hs.k fk_zMm_336))⟩) ⟨by decide, by decide, Nat.le_of_ble_eq_true rfl, Nat.le_of_ble_eq_true rfl⟩ (zs_in (by decide) mf239 (Nat.le_of_ble_eq_true rfl) ?_) (fun _ _ q => q)
            show zGo X l 0 0 0 239 0 [(0, .ref 336), (1, .int (zI M 336 6))] [] M _
            refine zs_aload_n (pc := 0) t239_0 rfl ?_
            refine zs_iload_n (pc := 1) t239_1 rfl ?_
            have w160 : zIv mLo mHi (zsI M 336 7 (zI M 336 6)) := zIv.put hI (show (-1) ≤ (zI M 336 6).toInt ∧ (zI M 336 6).toInt ≤ 500 from ⟨by omega, by omega⟩)
            refine zs_putI (pc := 2) t239_2 (zk1 (hs.k fk_zMm_336)) rfl ?_
            refine zs_iconst (pc := 5) t239_5 (v := 0) (by decide) ?_
            refine zs_iret (pc := 6) t239_6 mr239 (by decide) ?_
            show zGo X l 3 0 0 343 60 [(2, .int (1 : Int32)), (1, .int (zhere M)), (0, .ref 336)] [.int (0 : Int32)] (zsI M 336 7 (zI M 336 6)) _
            have w161 : (zI (zsI M 336 7 (zI M 336 6)) 336 6).toInt = (zI M 336 6).toInt := (congrArg Int32.toInt ((zIoj (by decide)).trans rfl)).trans rfl
            have w162 : (zI (zsI M 336 7 (zI M 336 6)) 336 7).toInt = (zI M 336 6).toInt := (congrArg Int32.toInt zIs).trans rfl
            have w163 : (zI (zsI M 336 7 (zI M 336 6)) 336 47).toInt = (zI M 336 47).toInt := (congrArg Int32.toInt ((zIoj (by decide)).trans rfl)).trans rfl
            exact zs_iret (pc := 60) t343_60 mr343 (by decide) (hQ _ _ hs w160 ((zFr.refl).put rfl) rfl ⟨(fun p k hp hk => by obtain rfl : w7n = p := (by omega); obtain rfl : w10n = k := (by omega); exact Or.inr ⟨by decide, by omega, by first | exact Or.inl (by omega) | exact Or.inr (pAc.no (by omega))⟩), (fun j hj => (zIo (by decide)))⟩ (by decide) (by decide))
  · refine zs_icmp_neF (pc := 8) t343_8 rfl li104 (by omega) ?_
    refine zs_iconst (pc := 11) t343_11 (v := 3) (by decide) ?_
    refine zs_goto (pc := 12) t343_12 ?_
    refine zs_istore_n (pc := 38) t343_38 (ls' := [(2, .int (3 : Int32)), (1, .int (zhere M)), (0, .ref 336)]) (zml mf343 (by decide)) rfl ?_
    refine zs_iload_n (pc := 39) t343_39 rfl ?_
    refine zs_if_eqF (pc := 40) t343_40 li3 (by decide) ?_
    refine zs_aload_n (pc := 43) t343_43 rfl ?_
    refine zs_get (pc := 44) t343_44 (by decide) (zk1 (hs.k fk_zMm_336)) (zfvi rfl rfl) ?_
    refine zs_bipush (pc := 47) t343_47 (v := 20) (by decide) ?_
    by_cases w164 : (zI M 336 47).toInt ≠ 20
    · refine zs_icmp_neT (pc := 49) t343_49 rfl li20 (by omega) ?_
      refine zs_iconst (pc := 61) t343_61 (v := 4) (by decide) ?_
      refine zs_aload_n (pc := 62) t343_62 rfl ?_
      refine zs_get (pc := 63) t343_63 (by decide) (zk1 (hs.k fk_zMm_336)) (zfvi rfl rfl) ?_
      obtain ⟨w165v, w165⟩ : ∃ v, (4 : Int32) * (zI M 336 47) = v := ⟨_, rfl⟩
      have w165g : w165v.toInt = 4 * (zI M 336 47).toInt := by rw [← w165]; exact zmulc li4 rfl (by omega) (by omega)
      refine zs_imul (pc := 66) t343_66 (c := w165v) w165 ?_
      refine zs_istore_n (pc := 67) t343_67 (ls' := [(3, .int w165v), (2, .int (3 : Int32)), (1, .int (zhere M)), (0, .ref 336)]) (zml mf343 (by decide)) rfl ?_
      refine zs_aload_n (pc := 68) t343_68 rfl ?_
      refine zs_get (pc := 69) t343_69 (by decide) (zk1 (hs.k fk_zMm_336)) (hs.p rfl fv_zMm_336_46) ?_
      refine zs_iload_n (pc := 72) t343_72 rfl ?_
      refine zs_iload_n (pc := 73) t343_73 rfl ?_
      have w166 : zIv mLo mHi (zsI M 362 (4 * w10n) (zhere M)) := zIv.put hI (show (-2147483648) ≤ (zhere M).toInt ∧ (zhere M).toInt ≤ 2147483647 from zrg (zhere M))
      refine zs_iast (pc := 74) t343_74 (j := (4 * w10n)) (by decide) (zk1 (hs.k fk_zMm_362)) (show w165v.toInt = (((4 * w10n) : Nat) : Int) by omega) (zk2 (hs.k fk_zMm_362) (by omega)) ?_
      refine zs_aload_n (pc := 75) t343_75 rfl ?_
      refine zs_dup (pc := 76) t343_76 rfl ?_
      refine zs_get (pc := 77) t343_77 (by decide) (zk1 (hs.k fk_zMm_336)) (zfvi rfl ((zIo (by decide)).trans rfl)) ?_
      refine zs_iconst (pc := 80) t343_80 (v := 1) (by decide) ?_
      obtain ⟨w167v, w167e, w167⟩ := ziadd (a := (zI M 336 6)) (b := (1 : Int32)) rfl li1 (by omega) (by omega)
      refine zs_iadd (pc := 81) t343_81 (c := w167v) w167e ?_
      have w168 : zIv mLo mHi (zsI (zsI M 362 (4 * w10n) (zhere M)) 336 6 w167v) := zIv.put w166 (show 0 ≤ w167v.toInt ∧ w167v.toInt ≤ 500 from ⟨by omega, by omega⟩)
      refine zs_putI (pc := 82) t343_82 (zk1 (hs.k fk_zMm_336)) rfl ?_
      refine zs_iconst (pc := 85) t343_85 (v := 1) (by decide) ?_
      refine zs_istore (pc := 86) t343_86 (ls' := [(4, .int (1 : Int32)), (3, .int w165v), (2, .int (3 : Int32)), (1, .int (zhere M)), (0, .ref 336)]) (zml mf343 (by decide)) rfl ?_
      refine zs_iload (pc := 88) t343_88 rfl ?_
      refine zs_iload_n (pc := 90) t343_90 rfl ?_
      refine zs_icmp_gtF (pc := 91) t343_91 li1 li3 (by decide) ?_
      refine zs_aload_n (pc := 94) t343_94 rfl ?_
      refine zs_sipush (pc := 95) t343_95 (v := -9999) (by decide) ?_
      refine zs_sipush (pc := 98) t343_98 (v := 9999) (by decide) ?_
      have w169 : (zI (zsI (zsI M 362 (4 * w10n) (zhere M)) 336 6 w167v) 336 6).toInt = ((zI M 336 6).toInt + 1) := (congrArg Int32.toInt zIs).trans w167
      have w170 : (-9999 : Int32).toInt = (-9999) := lin9999
      have w171 : (9999 : Int32).toInt = 9999 := li9999
      have w172 : (zI (zsI (zsI M 362 (4 * w10n) (zhere M)) 336 6 w167v) 336 5).toInt = (zI M 336 5).toInt := (congrArg Int32.toInt ((zIoj (by decide)).trans ((zIo (by decide)).trans rfl))).trans rfl
      have w173 : (zI (zsI (zsI M 362 (4 * w10n) (zhere M)) 336 6 w167v) 336 6).toInt = ((zI M 336 6).toInt + 1) := (congrArg Int32.toInt zIs).trans w167
      have w174 : (zI (zsI (zsI M 362 (4 * w10n) (zhere M)) 336 6 w167v) 336 7).toInt = (zI M 336 7).toInt := (congrArg Int32.toInt ((zIoj (by decide)).trans ((zIo (by decide)).trans rfl))).trans rfl
      refine zs_invV (pc := 101) (k := 336) (as' := [.int (-9999 : Int32), .int (9999 : Int32)]) (st := []) t343_101 mf243 rfl rfl (Or.inl ⟨by decide, (zk1 (hs.k fk_zMm_336))⟩) ⟨by decide, by decide, Nat.le_of_ble_eq_true rfl, Nat.le_of_ble_eq_true rfl⟩ (R243 hs w168 (by omega) (by omega) (by omega) (zTm.mk x0 (fun j => ((zIo (by decide)).trans (zIo (by decide)))) ((zIoj (by decide)).trans (zIo (by decide)))) ?_) (fun _ _ q => q)
      intro w175M w175v w175s w175I w175F w175J w175x0 w175a w175b
      show zGo X l 3 0 0 343 104 [(4, .int (1 : Int32)), (3, .int w165v), (2, .int (3 : Int32)), (1, .int (zhere M)), (0, .ref 336)] [.int w175v] w175M _
      rcases w175x0 (w7n + 1) (by omega) with ⟨w176v, w176e, w176x, w176_1, w176_2, w176_3, w176_4, w176_5, w176_6, w176_7, w176_8, w176_9, w176_10⟩ | ⟨w176v, w176_8, w176z⟩
      · skip
        rw [show (-9999 : Int32).toInt = -9999 by decide, show (9999 : Int32).toInt = 9999 by decide] at w176z
        refine zs_if_eqT (pc := 104) t343_104 rfl (by omega) ?_
        refine zs_iconst (pc := 127) t343_127 (v := 0) (by decide) ?_
        have w177 := ib336_6 w175I
        have w178 : (zI w175M 336 6).toInt = (zI w175M 336 6).toInt := (congrArg Int32.toInt rfl).trans rfl
        have w179 := ib336_7 w175I
        have w180 : (zI w175M 336 7).toInt = (zI w175M 336 7).toInt := (congrArg Int32.toInt rfl).trans rfl
        have w181 : (zI w175M 336 47).toInt = (zI M 336 47).toInt := (congrArg Int32.toInt ((w175F 336 47 rfl).trans ((zIoj (by decide)).trans ((zIo (by decide)).trans rfl)))).trans rfl
        exact zs_iret (pc := 128) t343_128 mr343 (by decide) (hQ _ _ w175s w175I ((((zFr.refl).put rfl).put rfl).trans (w175F.mono rfl)) w175J ⟨(fun p k hp hk => by obtain rfl : w7n = p := (by omega); obtain rfl : w10n = k := (by omega); exact Or.inr ⟨by decide, by omega, Or.inr ((pAc.h (by omega)).trans (pB.f (by rcases w176z with q | ⟨e, x, q, q2⟩; exact pRd.f q; exact pRd.n q (by omega))))⟩), (fun j hj => ((w175F 362 j rfl).trans ((zIo (by decide)).trans (zIoj (by omega)))))⟩ (by decide) (by decide))
      · skip
        have w176y := x0.rg w176e
        refine zs_if_eqF (pc := 104) t343_104 rfl (by omega) ?_
        refine zs_aload_n (pc := 107) t343_107 rfl ?_
        refine zs_iload (pc := 108) t343_108 rfl ?_
        refine zs_iload_n (pc := 110) t343_110 rfl ?_
        refine zs_icmp_neT (pc := 111) t343_111 li1 li3 (by decide) ?_
        refine zs_bipush (pc := 119) t343_119 (v := 44) (by decide) ?_
        have w182 := ib336_6 w175I
        have w183 : (zI w175M 336 6).toInt = (zI w175M 336 6).toInt := (congrArg Int32.toInt rfl).trans rfl
        have w184 : (44 : Int32).toInt = 44 := li44
        have w185 : (zI w175M 336 5).toInt = (zI M 336 5).toInt := (congrArg Int32.toInt ((w175F 336 5 rfl).trans ((zIoj (by decide)).trans ((zIo (by decide)).trans rfl)))).trans rfl
        have w186 : (zI w175M 336 6).toInt = (zI w175M 336 6).toInt := (congrArg Int32.toInt rfl).trans rfl
        have w187 := ib336_7 w175I
        have w188 : (zI w175M 336 7).toInt = (zI w175M 336 7).toInt := (congrArg Int32.toInt rfl).trans rfl
        refine zs_invV (pc := 121) (k := 336) (as' := [.int (44 : Int32)]) (st := []) t343_121 mf246 rfl rfl (Or.inl ⟨by decide, (zk1 (w175s.k fk_zMm_336))⟩) ⟨by decide, by decide, Nat.le_of_ble_eq_true rfl, Nat.le_of_ble_eq_true rfl⟩ (R246 w175s w175I ⟨by decide, by decide⟩ (by omega) (by omega) (by omega) (zTm.mk x0 (fun j => ((w175F 339 j rfl).trans ((zIo (by decide)).trans (zIo (by decide))))) ((w175F 336 5 rfl).trans ((zIoj (by decide)).trans (zIo (by decide))))) ?_) (fun _ _ q => q)
        intro w189M w189v w189s w189I w189F w189J w189x0 w189a w189b
        show zGo X l 3 0 0 343 124 [(4, .int (1 : Int32)), (3, .int w165v), (2, .int (3 : Int32)), (1, .int (zhere M)), (0, .ref 336)] [.int w189v] w189M _
        rw [show (44 : Int32).toInt = 44 by decide] at w189x0
        rcases w189x0 w176e (by omega) with ⟨w190v, w190_1, w190_2, w190_3, w190_4⟩ | ⟨w190v, w190_1, w190_4⟩
        · skip
          refine zs_if_neF (pc := 124) t343_124 rfl (by omega) ?_
          refine zs_iconst (pc := 127) t343_127 (v := 0) (by decide) ?_
          have w191 := ib336_6 w189I
          have w192 : (zI w189M 336 6).toInt = (zI w189M 336 6).toInt := (congrArg Int32.toInt rfl).trans rfl
          have w193 := ib336_7 w189I
          have w194 : (zI w189M 336 7).toInt = (zI w189M 336 7).toInt := (congrArg Int32.toInt rfl).trans rfl
          have w195 : (zI w189M 336 47).toInt = (zI M 336 47).toInt := (congrArg Int32.toInt ((w189F 336 47 rfl).trans ((w175F 336 47 rfl).trans ((zIoj (by decide)).trans ((zIo (by decide)).trans rfl))))).trans rfl
          exact zs_iret (pc := 128) t343_128 mr343 (by decide) (hQ _ _ w189s w189I (((((zFr.refl).put rfl).put rfl).trans (w175F.mono rfl)).trans (w189F.mono rfl)) (w189J.trans w175J) ⟨(fun p k hp hk => by obtain rfl : w7n = p := (by omega); obtain rfl : w10n = k := (by omega); exact Or.inr ⟨by decide, by omega, Or.inr ((pAc.h (by omega)).trans (pB.f (pRd.n w176_1 (by omega))))⟩), (fun j hj => ((w189F 362 j rfl).trans ((w175F 362 j rfl).trans ((zIo (by decide)).trans (zIoj (by omega))))))⟩ (by decide) (by decide))
        · skip
          refine zs_if_neT (pc := 124) t343_124 rfl (by omega) ?_
          refine zs_aload_n (pc := 129) t343_129 rfl ?_
          refine zs_get (pc := 130) t343_130 (by decide) (zk1 (w189s.k fk_zMm_336)) (w189s.p rfl fv_zMm_336_46) ?_
          refine zs_iload_n (pc := 133) t343_133 rfl ?_
          refine zs_iload (pc := 134) t343_134 rfl ?_
          obtain ⟨w196v, w196e, w196⟩ := ziadd (a := w165v) (b := (1 : Int32)) w165g li1 (by omega) (by omega)
          refine zs_iadd (pc := 136) t343_136 (c := w196v) w196e ?_
          refine zs_aload_n (pc := 137) t343_137 rfl ?_
          have w197 := zrg (zI w175M 336 8)
          refine zs_get (pc := 138) t343_138 (by decide) (zk1 (w189s.k fk_zMm_336)) (zfvi rfl ((w189F 336 8 rfl).trans rfl)) ?_
          have w198 : zIv mLo mHi (zsI w189M 362 (1 + 4 * w10n) (zI w175M 336 8)) := zIv.put w189I (show (-2147483648) ≤ (zI w175M 336 8).toInt ∧ (zI w175M 336 8).toInt ≤ 2147483647 from zrg (zI w175M 336 8))
          refine zs_iast (pc := 141) t343_141 (j := (1 + 4 * w10n)) (by decide) (zk1 (w189s.k fk_zMm_362)) (show w196v.toInt = (((1 + 4 * w10n) : Nat) : Int) by omega) (zk2 (w189s.k fk_zMm_362) (by omega)) ?_
          refine zs_iinc (pc := 142) t343_142 (ls' := [(4, .int (2 : Int32)), (3, .int w165v), (2, .int (3 : Int32)), (1, .int (zhere M)), (0, .ref 336)]) (zml mf343 (by decide)) rfl (c := 2) (by decide) rfl ?_
          refine zs_goto (pc := 145) t343_145 ?_
          refine zs_iload (pc := 88) t343_88 rfl ?_
          refine zs_iload_n (pc := 90) t343_90 rfl ?_
          refine zs_icmp_gtF (pc := 91) t343_91 li2 li3 (by decide) ?_
          refine zs_aload_n (pc := 94) t343_94 rfl ?_
          refine zs_sipush (pc := 95) t343_95 (v := -9999) (by decide) ?_
          refine zs_sipush (pc := 98) t343_98 (v := 9999) (by decide) ?_
          have w199 := ib336_6 w189I
          have w200 : (zI (zsI w189M 362 (1 + 4 * w10n) (zI w175M 336 8)) 336 6).toInt = (zI w189M 336 6).toInt := (congrArg Int32.toInt ((zIo (by decide)).trans rfl)).trans rfl
          obtain ⟨w201n, w201⟩ : ∃ n : Nat, (zI w189M 336 6).toInt = (n : Int) := ⟨((zI w189M 336 6).toInt).toNat, by omega⟩
          have w202 : (-9999 : Int32).toInt = (-9999) := lin9999
          have w203 : (9999 : Int32).toInt = 9999 := li9999
          have w204 : (zI (zsI w189M 362 (1 + 4 * w10n) (zI w175M 336 8)) 336 5).toInt = (zI M 336 5).toInt := (congrArg Int32.toInt ((zIo (by decide)).trans ((w189F 336 5 rfl).trans ((w175F 336 5 rfl).trans ((zIoj (by decide)).trans ((zIo (by decide)).trans rfl)))))).trans rfl
          have w205 : (zI (zsI w189M 362 (1 + 4 * w10n) (zI w175M 336 8)) 336 6).toInt = (zI w189M 336 6).toInt := (congrArg Int32.toInt ((zIo (by decide)).trans rfl)).trans rfl
          have w206 := ib336_7 w189I
          have w207 : (zI (zsI w189M 362 (1 + 4 * w10n) (zI w175M 336 8)) 336 7).toInt = (zI w189M 336 7).toInt := (congrArg Int32.toInt ((zIo (by decide)).trans rfl)).trans rfl
          refine zs_invV (pc := 101) (k := 336) (as' := [.int (-9999 : Int32), .int (9999 : Int32)]) (st := []) t343_101 mf243 rfl rfl (Or.inl ⟨by decide, (zk1 (w189s.k fk_zMm_336))⟩) ⟨by decide, by decide, Nat.le_of_ble_eq_true rfl, Nat.le_of_ble_eq_true rfl⟩ (R243 w189s w198 (by omega) (by omega) (by omega) (zTm.mk x0 (fun j => ((zIo (by decide)).trans ((w189F 339 j rfl).trans ((w175F 339 j rfl).trans ((zIo (by decide)).trans (zIo (by decide))))))) ((zIo (by decide)).trans ((w189F 336 5 rfl).trans ((w175F 336 5 rfl).trans ((zIoj (by decide)).trans (zIo (by decide))))))) ?_) (fun _ _ q => q)
          intro w208M w208v w208s w208I w208F w208J w208x0 w208a w208b
          show zGo X l 3 0 0 343 104 [(4, .int (2 : Int32)), (3, .int w165v), (2, .int (3 : Int32)), (1, .int (zhere M)), (0, .ref 336)] [.int w208v] w208M _
          rcases w208x0 w201n (by omega) with ⟨w209v, w209e, w209x, w209_1, w209_2, w209_3, w209_4, w209_5, w209_6, w209_7, w209_8, w209_9, w209_10⟩ | ⟨w209v, w209_8, w209z⟩
          · skip
            rw [show (-9999 : Int32).toInt = -9999 by decide, show (9999 : Int32).toInt = 9999 by decide] at w209z
            refine zs_if_eqT (pc := 104) t343_104 rfl (by omega) ?_
            refine zs_iconst (pc := 127) t343_127 (v := 0) (by decide) ?_
            have w210 := ib336_6 w208I
            have w211 : (zI w208M 336 6).toInt = (zI w208M 336 6).toInt := (congrArg Int32.toInt rfl).trans rfl
            have w212 := ib336_7 w208I
            have w213 : (zI w208M 336 7).toInt = (zI w208M 336 7).toInt := (congrArg Int32.toInt rfl).trans rfl
            have w214 : (zI w208M 336 47).toInt = (zI M 336 47).toInt := (congrArg Int32.toInt ((w208F 336 47 rfl).trans ((zIo (by decide)).trans ((w189F 336 47 rfl).trans ((w175F 336 47 rfl).trans ((zIoj (by decide)).trans ((zIo (by decide)).trans rfl))))))).trans rfl
            exact zs_iret (pc := 128) t343_128 mr343 (by decide) (hQ _ _ w208s w208I (((((((zFr.refl).put rfl).put rfl).trans (w175F.mono rfl)).trans (w189F.mono rfl)).put rfl).trans (w208F.mono rfl)) (w208J.trans (w189J.trans w175J)) ⟨(fun p k hp hk => by obtain rfl : w7n = p := (by omega); obtain rfl : w10n = k := (by omega); exact Or.inr ⟨by decide, by omega, Or.inr (((pAc.h (by omega)).trans (pB.y (pRd.y w176_1 (by omega) (by omega) (by omega)))).trans (pB.f (by rcases w209z with q | ⟨e, x, q, q2⟩; exact pRd.f q; exact pRd.n q (by omega))))⟩), (fun j hj => ((w208F 362 j rfl).trans ((zIoj (by omega)).trans ((w189F 362 j rfl).trans ((w175F 362 j rfl).trans ((zIo (by decide)).trans (zIoj (by omega))))))))⟩ (by decide) (by decide))
          · skip
            have w209y := x0.rg w209e
            refine zs_if_eqF (pc := 104) t343_104 rfl (by omega) ?_
            refine zs_aload_n (pc := 107) t343_107 rfl ?_
            refine zs_iload (pc := 108) t343_108 rfl ?_
            refine zs_iload_n (pc := 110) t343_110 rfl ?_
            refine zs_icmp_neT (pc := 111) t343_111 li2 li3 (by decide) ?_
            refine zs_bipush (pc := 119) t343_119 (v := 44) (by decide) ?_
            have w215 := ib336_6 w208I
            have w216 : (zI w208M 336 6).toInt = (zI w208M 336 6).toInt := (congrArg Int32.toInt rfl).trans rfl
            have w217 : (44 : Int32).toInt = 44 := li44
            have w218 : (zI w208M 336 5).toInt = (zI M 336 5).toInt := (congrArg Int32.toInt ((w208F 336 5 rfl).trans ((zIo (by decide)).trans ((w189F 336 5 rfl).trans ((w175F 336 5 rfl).trans ((zIoj (by decide)).trans ((zIo (by decide)).trans rfl))))))).trans rfl
            have w219 : (zI w208M 336 6).toInt = (zI w208M 336 6).toInt := (congrArg Int32.toInt rfl).trans rfl
            have w220 := ib336_7 w208I
            have w221 : (zI w208M 336 7).toInt = (zI w208M 336 7).toInt := (congrArg Int32.toInt rfl).trans rfl
            refine zs_invV (pc := 121) (k := 336) (as' := [.int (44 : Int32)]) (st := []) t343_121 mf246 rfl rfl (Or.inl ⟨by decide, (zk1 (w208s.k fk_zMm_336))⟩) ⟨by decide, by decide, Nat.le_of_ble_eq_true rfl, Nat.le_of_ble_eq_true rfl⟩ (R246 w208s w208I ⟨by decide, by decide⟩ (by omega) (by omega) (by omega) (zTm.mk x0 (fun j => ((w208F 339 j rfl).trans ((zIo (by decide)).trans ((w189F 339 j rfl).trans ((w175F 339 j rfl).trans ((zIo (by decide)).trans (zIo (by decide)))))))) ((w208F 336 5 rfl).trans ((zIo (by decide)).trans ((w189F 336 5 rfl).trans ((w175F 336 5 rfl).trans ((zIoj (by decide)).trans (zIo (by decide)))))))) ?_) (fun _ _ q => q)
            intro w222M w222v w222s w222I w222F w222J w222x0 w222a w222b
            show zGo X l 3 0 0 343 124 [(4, .int (2 : Int32)), (3, .int w165v), (2, .int (3 : Int32)), (1, .int (zhere M)), (0, .ref 336)] [.int w222v] w222M _
            rw [show (44 : Int32).toInt = 44 by decide] at w222x0
            rcases w222x0 w209e (by omega) with ⟨w223v, w223_1, w223_2, w223_3, w223_4⟩ | ⟨w223v, w223_1, w223_4⟩
            · skip
              refine zs_if_neF (pc := 124) t343_124 rfl (by omega) ?_
              refine zs_iconst (pc := 127) t343_127 (v := 0) (by decide) ?_
              have w224 := ib336_6 w222I
              have w225 : (zI w222M 336 6).toInt = (zI w222M 336 6).toInt := (congrArg Int32.toInt rfl).trans rfl
              have w226 := ib336_7 w222I
              have w227 : (zI w222M 336 7).toInt = (zI w222M 336 7).toInt := (congrArg Int32.toInt rfl).trans rfl
              have w228 : (zI w222M 336 47).toInt = (zI M 336 47).toInt := (congrArg Int32.toInt ((w222F 336 47 rfl).trans ((w208F 336 47 rfl).trans ((zIo (by decide)).trans ((w189F 336 47 rfl).trans ((w175F 336 47 rfl).trans ((zIoj (by decide)).trans ((zIo (by decide)).trans rfl)))))))).trans rfl
              exact zs_iret (pc := 128) t343_128 mr343 (by decide) (hQ _ _ w222s w222I ((((((((zFr.refl).put rfl).put rfl).trans (w175F.mono rfl)).trans (w189F.mono rfl)).put rfl).trans (w208F.mono rfl)).trans (w222F.mono rfl)) (w222J.trans (w208J.trans (w189J.trans w175J))) ⟨(fun p k hp hk => by obtain rfl : w7n = p := (by omega); obtain rfl : w10n = k := (by omega); exact Or.inr ⟨by decide, by omega, Or.inr (((pAc.h (by omega)).trans (pB.y (pRd.y w176_1 (by omega) (by omega) (by omega)))).trans (pB.f (pRd.n w209_1 (by omega))))⟩), (fun j hj => ((w222F 362 j rfl).trans ((w208F 362 j rfl).trans ((zIoj (by omega)).trans ((w189F 362 j rfl).trans ((w175F 362 j rfl).trans ((zIo (by decide)).trans (zIoj (by omega)))))))))⟩ (by decide) (by decide))
            · skip
              refine zs_if_neT (pc := 124) t343_124 rfl (by omega) ?_
              refine zs_aload_n (pc := 129) t343_129 rfl ?_
              refine zs_get (pc := 130) t343_130 (by decide) (zk1 (w222s.k fk_zMm_336)) (w222s.p rfl fv_zMm_336_46) ?_
              refine zs_iload_n (pc := 133) t343_133 rfl ?_
              refine zs_iload (pc := 134) t343_134 rfl ?_
              obtain ⟨w229v, w229e, w229⟩ := ziadd (a := w165v) (b := (2 : Int32)) w165g li2 (by omega) (by omega)
              refine zs_iadd (pc := 136) t343_136 (c := w229v) w229e ?_
              refine zs_aload_n (pc := 137) t343_137 rfl ?_
              have w230 := zrg (zI w208M 336 8)
              refine zs_get (pc := 138) t343_138 (by decide) (zk1 (w222s.k fk_zMm_336)) (zfvi rfl ((w222F 336 8 rfl).trans rfl)) ?_
              have w231 : zIv mLo mHi (zsI w222M 362 (2 + 4 * w10n) (zI w208M 336 8)) := zIv.put w222I (show (-2147483648) ≤ (zI w208M 336 8).toInt ∧ (zI w208M 336 8).toInt ≤ 2147483647 from zrg (zI w208M 336 8))
              refine zs_iast (pc := 141) t343_141 (j := (2 + 4 * w10n)) (by decide) (zk1 (w222s.k fk_zMm_362)) (show w229v.toInt = (((2 + 4 * w10n) : Nat) : Int) by omega) (zk2 (w222s.k fk_zMm_362) (by omega)) ?_
              refine zs_iinc (pc := 142) t343_142 (ls' := [(4, .int (3 : Int32)), (3, .int w165v), (2, .int (3 : Int32)), (1, .int (zhere M)), (0, .ref 336)]) (zml mf343 (by decide)) rfl (c := 3) (by decide) rfl ?_
              refine zs_goto (pc := 145) t343_145 ?_
              refine zs_iload (pc := 88) t343_88 rfl ?_
              refine zs_iload_n (pc := 90) t343_90 rfl ?_
              refine zs_icmp_gtF (pc := 91) t343_91 li3 li3 (by decide) ?_
              refine zs_aload_n (pc := 94) t343_94 rfl ?_
              refine zs_sipush (pc := 95) t343_95 (v := -9999) (by decide) ?_
              refine zs_sipush (pc := 98) t343_98 (v := 9999) (by decide) ?_
              have w232 := ib336_6 w222I
              have w233 : (zI (zsI w222M 362 (2 + 4 * w10n) (zI w208M 336 8)) 336 6).toInt = (zI w222M 336 6).toInt := (congrArg Int32.toInt ((zIo (by decide)).trans rfl)).trans rfl
              obtain ⟨w234n, w234⟩ : ∃ n : Nat, (zI w222M 336 6).toInt = (n : Int) := ⟨((zI w222M 336 6).toInt).toNat, by omega⟩
              have w235 : (-9999 : Int32).toInt = (-9999) := lin9999
              have w236 : (9999 : Int32).toInt = 9999 := li9999
              have w237 : (zI (zsI w222M 362 (2 + 4 * w10n) (zI w208M 336 8)) 336 5).toInt = (zI M 336 5).toInt := (congrArg Int32.toInt ((zIo (by decide)).trans ((w222F 336 5 rfl).trans ((w208F 336 5 rfl).trans ((zIo (by decide)).trans ((w189F 336 5 rfl).trans ((w175F 336 5 rfl).trans ((zIoj (by decide)).trans ((zIo (by decide)).trans rfl))))))))).trans rfl
              have w238 : (zI (zsI w222M 362 (2 + 4 * w10n) (zI w208M 336 8)) 336 6).toInt = (zI w222M 336 6).toInt := (congrArg Int32.toInt ((zIo (by decide)).trans rfl)).trans rfl
              have w239 := ib336_7 w222I
              have w240 : (zI (zsI w222M 362 (2 + 4 * w10n) (zI w208M 336 8)) 336 7).toInt = (zI w222M 336 7).toInt := (congrArg Int32.toInt ((zIo (by decide)).trans rfl)).trans rfl
              refine zs_invV (pc := 101) (k := 336) (as' := [.int (-9999 : Int32), .int (9999 : Int32)]) (st := []) t343_101 mf243 rfl rfl (Or.inl ⟨by decide, (zk1 (w222s.k fk_zMm_336))⟩) ⟨by decide, by decide, Nat.le_of_ble_eq_true rfl, Nat.le_of_ble_eq_true rfl⟩ (R243 w222s w231 (by omega) (by omega) (by omega) (zTm.mk x0 (fun j => ((zIo (by decide)).trans ((w222F 339 j rfl).trans ((w208F 339 j rfl).trans ((zIo (by decide)).trans ((w189F 339 j rfl).trans ((w175F 339 j rfl).trans ((zIo (by decide)).trans (zIo (by decide)))))))))) ((zIo (by decide)).trans ((w222F 336 5 rfl).trans ((w208F 336 5 rfl).trans ((zIo (by decide)).trans ((w189F 336 5 rfl).trans ((w175F 336 5 rfl).trans ((zIoj (by decide)).trans (zIo (by decide)))))))))) ?_) (fun _ _ q => q)
              intro w241M w241v w241s w241I w241F w241J w241x0 w241a w241b
              show zGo X l 3 0 0 343 104 [(4, .int (3 : Int32)), (3, .int w165v), (2, .int (3 : Int32)), (1, .int (zhere M)), (0, .ref 336)] [.int w241v] w241M _
              rcases w241x0 w234n (by omega) with ⟨w242v, w242e, w242x, w242_1, w242_2, w242_3, w242_4, w242_5, w242_6, w242_7, w242_8, w242_9, w242_10⟩ | ⟨w242v, w242_8, w242z⟩
              · skip
                rw [show (-9999 : Int32).toInt = -9999 by decide, show (9999 : Int32).toInt = 9999 by decide] at w242z
                refine zs_if_eqT (pc := 104) t343_104 rfl (by omega) ?_
                refine zs_iconst (pc := 127) t343_127 (v := 0) (by decide) ?_
                have w243 := ib336_6 w241I
                have w244 : (zI w241M 336 6).toInt = (zI w241M 336 6).toInt := (congrArg Int32.toInt rfl).trans rfl
                have w245 := ib336_7 w241I
                have w246 : (zI w241M 336 7).toInt = (zI w241M 336 7).toInt := (congrArg Int32.toInt rfl).trans rfl
                have w247 : (zI w241M 336 47).toInt = (zI M 336 47).toInt := (congrArg Int32.toInt ((w241F 336 47 rfl).trans ((zIo (by decide)).trans ((w222F 336 47 rfl).trans ((w208F 336 47 rfl).trans ((zIo (by decide)).trans ((w189F 336 47 rfl).trans ((w175F 336 47 rfl).trans ((zIoj (by decide)).trans ((zIo (by decide)).trans rfl)))))))))).trans rfl
                exact zs_iret (pc := 128) t343_128 mr343 (by decide) (hQ _ _ w241s w241I ((((((((((zFr.refl).put rfl).put rfl).trans (w175F.mono rfl)).trans (w189F.mono rfl)).put rfl).trans (w208F.mono rfl)).trans (w222F.mono rfl)).put rfl).trans (w241F.mono rfl)) (w241J.trans (w222J.trans (w208J.trans (w189J.trans w175J)))) ⟨(fun p k hp hk => by obtain rfl : w7n = p := (by omega); obtain rfl : w10n = k := (by omega); exact Or.inr ⟨by decide, by omega, Or.inr ((((pAc.h (by omega)).trans (pB.y (pRd.y w176_1 (by omega) (by omega) (by omega)))).trans (pB.y (pRd.y w209_1 (by omega) (by omega) (by omega)))).trans (pB.f (by rcases w242z with q | ⟨e, x, q, q2⟩; exact pRd.f q; exact pRd.n q (by omega))))⟩), (fun j hj => ((w241F 362 j rfl).trans ((zIoj (by omega)).trans ((w222F 362 j rfl).trans ((w208F 362 j rfl).trans ((zIoj (by omega)).trans ((w189F 362 j rfl).trans ((w175F 362 j rfl).trans ((zIo (by decide)).trans (zIoj (by omega)))))))))))⟩ (by decide) (by decide))
              · skip
                have w242y := x0.rg w242e
                refine zs_if_eqF (pc := 104) t343_104 rfl (by omega) ?_
                refine zs_aload_n (pc := 107) t343_107 rfl ?_
                refine zs_iload (pc := 108) t343_108 rfl ?_
                refine zs_iload_n (pc := 110) t343_110 rfl ?_
                refine zs_icmp_neF (pc := 111) t343_111 li3 li3 (by decide) ?_
                refine zs_bipush (pc := 114) t343_114 (v := 59) (by decide) ?_
                refine zs_goto (pc := 116) t343_116 ?_
                have w248 := ib336_6 w241I
                have w249 : (zI w241M 336 6).toInt = (zI w241M 336 6).toInt := (congrArg Int32.toInt rfl).trans rfl
                have w250 : (59 : Int32).toInt = 59 := li59
                have w251 : (zI w241M 336 5).toInt = (zI M 336 5).toInt := (congrArg Int32.toInt ((w241F 336 5 rfl).trans ((zIo (by decide)).trans ((w222F 336 5 rfl).trans ((w208F 336 5 rfl).trans ((zIo (by decide)).trans ((w189F 336 5 rfl).trans ((w175F 336 5 rfl).trans ((zIoj (by decide)).trans ((zIo (by decide)).trans rfl)))))))))).trans rfl
                have w252 : (zI w241M 336 6).toInt = (zI w241M 336 6).toInt := (congrArg Int32.toInt rfl).trans rfl
                have w253 := ib336_7 w241I
                have w254 : (zI w241M 336 7).toInt = (zI w241M 336 7).toInt := (congrArg Int32.toInt rfl).trans rfl
                refine zs_invV (pc := 121) (k := 336) (as' := [.int (59 : Int32)]) (st := []) t343_121 mf246 rfl rfl (Or.inl ⟨by decide, (zk1 (w241s.k fk_zMm_336))⟩) ⟨by decide, by decide, Nat.le_of_ble_eq_true rfl, Nat.le_of_ble_eq_true rfl⟩ (R246 w241s w241I ⟨by decide, by decide⟩ (by omega) (by omega) (by omega) (zTm.mk x0 (fun j => ((w241F 339 j rfl).trans ((zIo (by decide)).trans ((w222F 339 j rfl).trans ((w208F 339 j rfl).trans ((zIo (by decide)).trans ((w189F 339 j rfl).trans ((w175F 339 j rfl).trans ((zIo (by decide)).trans (zIo (by decide))))))))))) ((w241F 336 5 rfl).trans ((zIo (by decide)).trans ((w222F 336 5 rfl).trans ((w208F 336 5 rfl).trans ((zIo (by decide)).trans ((w189F 336 5 rfl).trans ((w175F 336 5 rfl).trans ((zIoj (by decide)).trans (zIo (by decide))))))))))) ?_) (fun _ _ q => q)
                intro w255M w255v w255s w255I w255F w255J w255x0 w255a w255b
                show zGo X l 3 0 0 343 124 [(4, .int (3 : Int32)), (3, .int w165v), (2, .int (3 : Int32)), (1, .int (zhere M)), (0, .ref 336)] [.int w255v] w255M _
                rw [show (59 : Int32).toInt = 59 by decide] at w255x0
                rcases w255x0 w242e (by omega) with ⟨w256v, w256_1, w256_2, w256_3, w256_4⟩ | ⟨w256v, w256_1, w256_4⟩
                · skip
                  refine zs_if_neF (pc := 124) t343_124 rfl (by omega) ?_
                  refine zs_iconst (pc := 127) t343_127 (v := 0) (by decide) ?_
                  have w257 := ib336_6 w255I
                  have w258 : (zI w255M 336 6).toInt = (zI w255M 336 6).toInt := (congrArg Int32.toInt rfl).trans rfl
                  have w259 := ib336_7 w255I
                  have w260 : (zI w255M 336 7).toInt = (zI w255M 336 7).toInt := (congrArg Int32.toInt rfl).trans rfl
                  have w261 : (zI w255M 336 47).toInt = (zI M 336 47).toInt := (congrArg Int32.toInt ((w255F 336 47 rfl).trans ((w241F 336 47 rfl).trans ((zIo (by decide)).trans ((w222F 336 47 rfl).trans ((w208F 336 47 rfl).trans ((zIo (by decide)).trans ((w189F 336 47 rfl).trans ((w175F 336 47 rfl).trans ((zIoj (by decide)).trans ((zIo (by decide)).trans rfl))))))))))).trans rfl
                  exact zs_iret (pc := 128) t343_128 mr343 (by decide) (hQ _ _ w255s w255I (((((((((((zFr.refl).put rfl).put rfl).trans (w175F.mono rfl)).trans (w189F.mono rfl)).put rfl).trans (w208F.mono rfl)).trans (w222F.mono rfl)).put rfl).trans (w241F.mono rfl)).trans (w255F.mono rfl)) (w255J.trans (w241J.trans (w222J.trans (w208J.trans (w189J.trans w175J))))) ⟨(fun p k hp hk => by obtain rfl : w7n = p := (by omega); obtain rfl : w10n = k := (by omega); exact Or.inr ⟨by decide, by omega, Or.inr ((((pAc.h (by omega)).trans (pB.y (pRd.y w176_1 (by omega) (by omega) (by omega)))).trans (pB.y (pRd.y w209_1 (by omega) (by omega) (by omega)))).trans (pB.f (pRd.n w242_1 (by omega))))⟩), (fun j hj => ((w255F 362 j rfl).trans ((w241F 362 j rfl).trans ((zIoj (by omega)).trans ((w222F 362 j rfl).trans ((w208F 362 j rfl).trans ((zIoj (by omega)).trans ((w189F 362 j rfl).trans ((w175F 362 j rfl).trans ((zIo (by decide)).trans (zIoj (by omega))))))))))))⟩ (by decide) (by decide))
                · skip
                  refine zs_if_neT (pc := 124) t343_124 rfl (by omega) ?_
                  refine zs_aload_n (pc := 129) t343_129 rfl ?_
                  refine zs_get (pc := 130) t343_130 (by decide) (zk1 (w255s.k fk_zMm_336)) (w255s.p rfl fv_zMm_336_46) ?_
                  refine zs_iload_n (pc := 133) t343_133 rfl ?_
                  refine zs_iload (pc := 134) t343_134 rfl ?_
                  obtain ⟨w262v, w262e, w262⟩ := ziadd (a := w165v) (b := (3 : Int32)) w165g li3 (by omega) (by omega)
                  refine zs_iadd (pc := 136) t343_136 (c := w262v) w262e ?_
                  refine zs_aload_n (pc := 137) t343_137 rfl ?_
                  have w263 := zrg (zI w241M 336 8)
                  refine zs_get (pc := 138) t343_138 (by decide) (zk1 (w255s.k fk_zMm_336)) (zfvi rfl ((w255F 336 8 rfl).trans rfl)) ?_
                  have w264 : zIv mLo mHi (zsI w255M 362 (3 + 4 * w10n) (zI w241M 336 8)) := zIv.put w255I (show (-2147483648) ≤ (zI w241M 336 8).toInt ∧ (zI w241M 336 8).toInt ≤ 2147483647 from zrg (zI w241M 336 8))
                  refine zs_iast (pc := 141) t343_141 (j := (3 + 4 * w10n)) (by decide) (zk1 (w255s.k fk_zMm_362)) (show w262v.toInt = (((3 + 4 * w10n) : Nat) : Int) by omega) (zk2 (w255s.k fk_zMm_362) (by omega)) ?_
                  refine zs_iinc (pc := 142) t343_142 (ls' := [(4, .int (4 : Int32)), (3, .int w165v), (2, .int (3 : Int32)), (1, .int (zhere M)), (0, .ref 336)]) (zml mf343 (by decide)) rfl (c := 4) (by decide) rfl ?_
                  refine zs_goto (pc := 145) t343_145 ?_
                  refine zs_iload (pc := 88) t343_88 rfl ?_
                  refine zs_iload_n (pc := 90) t343_90 rfl ?_
                  refine zs_icmp_gtT (pc := 91) t343_91 li4 li3 (by decide) ?_
                  refine zs_aload_n (pc := 148) t343_148 rfl ?_
                  refine zs_dup (pc := 149) t343_149 rfl ?_
                  refine zs_get (pc := 150) t343_150 (by decide) (zk1 (w255s.k fk_zMm_336)) (zfvi rfl ((zIo (by decide)).trans ((w255F 336 47 rfl).trans ((w241F 336 47 rfl).trans ((zIo (by decide)).trans ((w222F 336 47 rfl).trans ((w208F 336 47 rfl).trans ((zIo (by decide)).trans ((w189F 336 47 rfl).trans ((w175F 336 47 rfl).trans ((zIoj (by decide)).trans ((zIo (by decide)).trans rfl)))))))))))) ?_
                  refine zs_iconst (pc := 153) t343_153 (v := 1) (by decide) ?_
                  obtain ⟨w265v, w265e, w265⟩ := ziadd (a := (zI M 336 47)) (b := (1 : Int32)) rfl li1 (by omega) (by omega)
                  refine zs_iadd (pc := 154) t343_154 (c := w265v) w265e ?_
                  have w266 : zIv mLo mHi (zsI (zsI w255M 362 (3 + 4 * w10n) (zI w241M 336 8)) 336 47 w265v) := zIv.put w264 (show 0 ≤ w265v.toInt ∧ w265v.toInt ≤ 20 from ⟨by omega, by omega⟩)
                  refine zs_putI (pc := 155) t343_155 (zk1 (w255s.k fk_zMm_336)) rfl ?_
                  refine zs_iconst (pc := 158) t343_158 (v := 1) (by decide) ?_
                  have w267 := ib336_6 w255I
                  have w268 : (zI (zsI (zsI w255M 362 (3 + 4 * w10n) (zI w241M 336 8)) 336 47 w265v) 336 6).toInt = (zI w255M 336 6).toInt := (congrArg Int32.toInt ((zIoj (by decide)).trans ((zIo (by decide)).trans rfl))).trans rfl
                  have w269 := ib336_7 w255I
                  have w270 : (zI (zsI (zsI w255M 362 (3 + 4 * w10n) (zI w241M 336 8)) 336 47 w265v) 336 7).toInt = (zI w255M 336 7).toInt := (congrArg Int32.toInt ((zIoj (by decide)).trans ((zIo (by decide)).trans rfl))).trans rfl
                  have w271 : (zI (zsI (zsI w255M 362 (3 + 4 * w10n) (zI w241M 336 8)) 336 47 w265v) 336 47).toInt = ((zI M 336 47).toInt + 1) := (congrArg Int32.toInt zIs).trans w265
                  exact zs_iret (pc := 159) t343_159 mr343 (by decide) (hQ _ _ w255s w266 (((((((((((((zFr.refl).put rfl).put rfl).trans (w175F.mono rfl)).trans (w189F.mono rfl)).put rfl).trans (w208F.mono rfl)).trans (w222F.mono rfl)).put rfl).trans (w241F.mono rfl)).trans (w255F.mono rfl)).put rfl).put rfl) (w255J.trans (w241J.trans (w222J.trans (w208J.trans (w189J.trans w175J))))) ⟨(fun p k hp hk => by obtain rfl : w7n = p := (by omega); obtain rfl : w10n = k := (by omega); exact Or.inl ⟨by decide, by omega, w242e + 1, _, ((((pAc.h (by omega)).trans (pB.y (pRd.y w176_1 (by omega) (by omega) (by omega)))).trans (pB.y (pRd.y w209_1 (by omega) (by omega) (by omega)))).trans (pB.y (pRd.y w242_1 (by omega) (by omega) (by omega)))), by omega, by omega, by omega, by omega, by omega, ⟨(by rw [show 4 * w10n = (4 * w10n) by omega]; have z := ((congrArg Int32.toInt ((zIo (by decide)).trans ((zIoj (by omega)).trans ((w255F 362 (4 * w10n) rfl).trans ((w241F 362 (4 * w10n) rfl).trans ((zIoj (by omega)).trans ((w222F 362 (4 * w10n) rfl).trans ((w208F 362 (4 * w10n) rfl).trans ((zIoj (by omega)).trans ((w189F 362 (4 * w10n) rfl).trans ((w175F 362 (4 * w10n) rfl).trans ((zIo (by decide)).trans zIs)))))))))))).trans rfl); omega), (by rw [show 4 * w10n + 1 = (1 + 4 * w10n) by omega]; have z := ((congrArg Int32.toInt ((zIo (by decide)).trans ((zIoj (by omega)).trans ((w255F 362 (1 + 4 * w10n) rfl).trans ((w241F 362 (1 + 4 * w10n) rfl).trans ((zIoj (by omega)).trans ((w222F 362 (1 + 4 * w10n) rfl).trans ((w208F 362 (1 + 4 * w10n) rfl).trans zIs)))))))).trans rfl); omega), (fun _ => ⟨(by rw [show 4 * w10n + 2 = (2 + 4 * w10n) by omega]; have z := ((congrArg Int32.toInt ((zIo (by decide)).trans ((zIoj (by omega)).trans ((w255F 362 (2 + 4 * w10n) rfl).trans ((w241F 362 (2 + 4 * w10n) rfl).trans zIs))))).trans rfl); omega), (by rw [show 4 * w10n + 3 = (3 + 4 * w10n) by omega]; have z := ((congrArg Int32.toInt ((zIo (by decide)).trans zIs)).trans rfl); omega)⟩), by decide⟩⟩), (fun j hj => ((zIo (by decide)).trans ((zIoj (by omega)).trans ((w255F 362 j rfl).trans ((w241F 362 j rfl).trans ((zIoj (by omega)).trans ((w222F 362 j rfl).trans ((w208F 362 j rfl).trans ((zIoj (by omega)).trans ((w189F 362 j rfl).trans ((w175F 362 j rfl).trans ((zIo (by decide)).trans (zIoj (by omega))))))))))))))⟩ (by decide) (by decide))
    · refine zs_icmp_neF (pc := 49) t343_49 rfl li20 (by omega) ?_
      refine zs_aload_n (pc := 52) t343_52 rfl ?_
      refine zs_aload_n (pc := 53) t343_53 rfl ?_
      refine zs_get (pc := 54) t343_54 (by decide) (zk1 (hs.k fk_zMm_336)) (zfvi rfl rfl) ?_
      refine zs_invV (pc := 57) (k := 336) (as' := [.int (zI M 336 6)]) (st := []) t343_57 mf239 rfl rfl (Or.inl ⟨by decide, (zk1 (hs.k fk_zMm_336))⟩) ⟨by decide, by decide, Nat.le_of_ble_eq_true rfl, Nat.le_of_ble_eq_true rfl⟩ (zs_in (by decide) mf239 (Nat.le_of_ble_eq_true rfl) ?_) (fun _ _ q => q)
      show zGo X l 0 0 0 239 0 [(0, .ref 336), (1, .int (zI M 336 6))] [] M _
      refine zs_aload_n (pc := 0) t239_0 rfl ?_
      refine zs_iload_n (pc := 1) t239_1 rfl ?_
      have w272 : zIv mLo mHi (zsI M 336 7 (zI M 336 6)) := zIv.put hI (show (-1) ≤ (zI M 336 6).toInt ∧ (zI M 336 6).toInt ≤ 500 from ⟨by omega, by omega⟩)
      refine zs_putI (pc := 2) t239_2 (zk1 (hs.k fk_zMm_336)) rfl ?_
      refine zs_iconst (pc := 5) t239_5 (v := 0) (by decide) ?_
      refine zs_iret (pc := 6) t239_6 mr239 (by decide) ?_
      show zGo X l 3 0 0 343 60 [(2, .int (3 : Int32)), (1, .int (zhere M)), (0, .ref 336)] [.int (0 : Int32)] (zsI M 336 7 (zI M 336 6)) _
      have w273 : (zI (zsI M 336 7 (zI M 336 6)) 336 6).toInt = (zI M 336 6).toInt := (congrArg Int32.toInt ((zIoj (by decide)).trans rfl)).trans rfl
      have w274 : (zI (zsI M 336 7 (zI M 336 6)) 336 7).toInt = (zI M 336 6).toInt := (congrArg Int32.toInt zIs).trans rfl
      have w275 : (zI (zsI M 336 7 (zI M 336 6)) 336 47).toInt = (zI M 336 47).toInt := (congrArg Int32.toInt ((zIoj (by decide)).trans rfl)).trans rfl
      exact zs_iret (pc := 60) t343_60 mr343 (by decide) (hQ _ _ hs w272 ((zFr.refl).put rfl) rfl ⟨(fun p k hp hk => by obtain rfl : w7n = p := (by omega); obtain rfl : w10n = k := (by omega); exact Or.inr ⟨by decide, by omega, by first | exact Or.inl (by omega) | exact Or.inr (pAc.no (by omega))⟩), (fun j hj => (zIo (by decide)))⟩ (by decide) (by decide))
theorem R344 {X : zX} {l : Launch} {M : zM} {Q : Option Value → zM → Prop} {a : Int32} (hs : zSk zMm M) (hI : zIv mLo mHi M) {F : Nat → Int} {H : Nat → Nat → Int} {n : Int} {K : Nat → Nat → Int} {T : Nat → Int} {A : aT} {i : Nat} (pR : zPR M) (pC : zPC M) (pF : zPF M) (ha : 0 ≤ a.toInt ∧ a.toInt ≤ 76) (x0 : zRw M 0 F) (x1 : zHM M H n) (x2 : zKM M K T) (x3 : zWF F) (x4 : zBt M 362 i A) (x5 : a.toInt = 4 * (i : Int)) (hQ : ∀ (M' : zM) (v : Int32), zSk zMm M' → zIv mLo mHi M' → zFr [(337, 337, none), (336, 336, some 1), (336, 336, some 3)] M M' → zJ M' 351 = zJ M 351 → zPR M' → zPC M' → zPF M' → ((v.toInt = -1 ∧ aDo A F = none ∧ zSM M' F H n K T) ∨ (v.toInt ≠ -1 ∧ ∃ G, aDo A F = some G ∧ zSM M' G (pushH F H) (nP n) K T)) → Q (some (.int v)) M') : zCall X l 4 0 0 344 [.ref 336, .int a] M Q := by
  have ga := zrg a
  refine zs_in (by decide) mf344 (Nat.le_of_ble_eq_true rfl) ?_
  show zGo X l 4 0 0 344 0 [(0, .ref 336), (1, .int a)] [] M _
  have f1 := x3.1
  have f3 := x3.2.2.2
  have w1 := ibA0 hI
  have w2 : (zI M 337 0).toInt = (zI M 337 0).toInt := (congrArg Int32.toInt rfl).trans rfl
  have e0 : (zI M 337 0).toInt = F 0 := x0.at (by decide) (by decide) (by decide)
  have w3 := ibA1 hI
  have w4 : (zI M 337 1).toInt = (zI M 337 1).toInt := (congrArg Int32.toInt rfl).trans rfl
  have e1 : (zI M 337 1).toInt = F 1 := x0.at (by decide) (by decide) (by decide)
  have w5 := ibA2 hI
  have w6 : (zI M 337 2).toInt = (zI M 337 2).toInt := (congrArg Int32.toInt rfl).trans rfl
  have e2 : (zI M 337 2).toInt = F 2 := x0.at (by decide) (by decide) (by decide)
  obtain ⟨L, y0, y1, y2⟩ := A
  have yl : (zI M 362 (4 * i)).toInt = L := x4.1
  have y160 : (zI M 362 (4 * i + 1)).toInt = y0 := x4.2.1
  have y161 : L = 104 → (zI M 362 (4 * i + 2)).toInt = y1 ∧ (zI M 362 (4 * i + 3)).toInt = y2 := x4.2.2.1
  have yc : L = 104 ∨ L = 120 ∨ L = 100 ∨ L = 110 := x4.2.2.2
  refine zs_aload_n (pc := 0) t344_0 rfl ?_
  refine zs_get (pc := 1) t344_1 (by decide) (zk1 (hs.k fk_zMm_336)) (hs.p rfl fv_zMm_336_46) ?_
  refine zs_iload_n (pc := 4) t344_4 rfl ?_
  obtain ⟨w7n, w7⟩ : ∃ n : Nat, a.toInt = (n : Int) := ⟨(a.toInt).toNat, by omega⟩
  have w8 := zrg (zI M 362 w7n)
  have w9 : w7n = 4 * i → (zI M 362 w7n).toInt = L := fun q => by rw [q]; exact yl
  have w10 : w7n = 4 * i + 1 → (zI M 362 w7n).toInt = y0 := fun q => by rw [q]; exact y160
  have w11 : L = 104 ∧ w7n = 4 * i + 2 → (zI M 362 w7n).toInt = y1 := fun q => by rw [q.2]; exact (y161 q.1).1
  have w12 : L = 104 ∧ w7n = 4 * i + 3 → (zI M 362 w7n).toInt = y2 := fun q => by rw [q.2]; exact (y161 q.1).2
  refine zs_iald (pc := 5) t344_5 (j := w7n) (by decide) (zk1 (hs.k fk_zMm_362)) (show a.toInt = ((w7n : Nat) : Int) by omega) (zk2 (hs.k fk_zMm_362) (by omega)) rfl ?_
  by_cases w13 : (zI M 362 w7n).toInt = 100
  · refine zs_lsw (pc := 6) t344_6 (off := 76) ((rfl : (zI M 362 w7n).toInt = (zI M 362 w7n).toInt).trans w13) rfl (pc2 := 82) rfl ?_
    refine zs_aload_n (pc := 82) t344_82 rfl ?_
    refine zs_aload_n (pc := 83) t344_83 rfl ?_
    refine zs_get (pc := 84) t344_84 (by decide) (zk1 (hs.k fk_zMm_336)) (hs.p rfl fv_zMm_336_46) ?_
    refine zs_iload_n (pc := 87) t344_87 rfl ?_
    refine zs_iconst (pc := 88) t344_88 (v := 1) (by decide) ?_
    obtain ⟨w14v, w14e, w14⟩ := ziadd (a := a) (b := (1 : Int32)) rfl li1 (by omega) (by omega)
    refine zs_iadd (pc := 89) t344_89 (c := w14v) w14e ?_
    have w15 := zrg (zI M 362 (1 + w7n))
    have w16 : (1 + w7n) = 4 * i → (zI M 362 (1 + w7n)).toInt = L := fun q => by rw [q]; exact yl
    have w17 : (1 + w7n) = 4 * i + 1 → (zI M 362 (1 + w7n)).toInt = y0 := fun q => by rw [q]; exact y160
    have w18 : L = 104 ∧ (1 + w7n) = 4 * i + 2 → (zI M 362 (1 + w7n)).toInt = y1 := fun q => by rw [q.2]; exact (y161 q.1).1
    have w19 : L = 104 ∧ (1 + w7n) = 4 * i + 3 → (zI M 362 (1 + w7n)).toInt = y2 := fun q => by rw [q.2]; exact (y161 q.1).2
    refine zs_iald (pc := 90) t344_90 (j := (1 + w7n)) (by decide) (zk1 (hs.k fk_zMm_362)) (show w14v.toInt = (((1 + w7n) : Nat) : Int) by omega) (zk2 (hs.k fk_zMm_362) (by omega)) rfl ?_
    refine zs_invV (pc := 91) (k := 336) (as' := [.int (zI M 362 (1 + w7n))]) (st := []) t344_91 mf333 rfl rfl (Or.inl ⟨by decide, (zk1 (hs.k fk_zMm_336))⟩) ⟨by decide, by decide, Nat.le_of_ble_eq_true rfl, Nat.le_of_ble_eq_true rfl⟩ (R333 hs hI pR pC pF x0 x1 x2 x3 ?_) (fun _ _ q => q)
    intro w20M w20v w20s w20I w20F w20J w20PR w20PC w20PF w20x0
    have w20g := zrg w20v
    show zGo X l 4 0 0 344 94 [(0, .ref 336), (1, .int a)] [.int w20v] w20M _
    have w21 := w20x0
    rw [show (zI M 362 (1 + w7n)).toInt = y0 by omega] at w21
    exact zs_iret (pc := 94) t344_94 mr344 rfl (hQ _ _ w20s w20I ((zFr.refl).trans (w20F.mono rfl)) w20J w20PR w20PC w20PF (by
        rcases w21 with ⟨q1, q2, q3⟩ | ⟨q1, q2, q3, q4⟩
        · exact Or.inl ⟨by omega, aDo.dn (by omega) (by omega), q3⟩
        · exact Or.inr ⟨by have z := (x3.2.1 y0.toNat (by omega)).2.2; omega, _, aDo.dy (by omega) ⟨q1, q2⟩, (by rw [q3] at q4; exact q4)⟩))
  by_cases w22 : (zI M 362 w7n).toInt = 104
  · refine zs_lsw (pc := 6) t344_6 (off := 34) ((rfl : (zI M 362 w7n).toInt = (zI M 362 w7n).toInt).trans w22) rfl (pc2 := 40) rfl ?_
    refine zs_aload_n (pc := 40) t344_40 rfl ?_
    refine zs_aload_n (pc := 41) t344_41 rfl ?_
    refine zs_get (pc := 42) t344_42 (by decide) (zk1 (hs.k fk_zMm_336)) (hs.p rfl fv_zMm_336_46) ?_
    refine zs_iload_n (pc := 45) t344_45 rfl ?_
    refine zs_iconst (pc := 46) t344_46 (v := 1) (by decide) ?_
    obtain ⟨w23v, w23e, w23⟩ := ziadd (a := a) (b := (1 : Int32)) rfl li1 (by omega) (by omega)
    refine zs_iadd (pc := 47) t344_47 (c := w23v) w23e ?_
    have w24 := zrg (zI M 362 (1 + w7n))
    have w25 : (1 + w7n) = 4 * i → (zI M 362 (1 + w7n)).toInt = L := fun q => by rw [q]; exact yl
    have w26 : (1 + w7n) = 4 * i + 1 → (zI M 362 (1 + w7n)).toInt = y0 := fun q => by rw [q]; exact y160
    have w27 : L = 104 ∧ (1 + w7n) = 4 * i + 2 → (zI M 362 (1 + w7n)).toInt = y1 := fun q => by rw [q.2]; exact (y161 q.1).1
    have w28 : L = 104 ∧ (1 + w7n) = 4 * i + 3 → (zI M 362 (1 + w7n)).toInt = y2 := fun q => by rw [q.2]; exact (y161 q.1).2
    refine zs_iald (pc := 48) t344_48 (j := (1 + w7n)) (by decide) (zk1 (hs.k fk_zMm_362)) (show w23v.toInt = (((1 + w7n) : Nat) : Int) by omega) (zk2 (hs.k fk_zMm_362) (by omega)) rfl ?_
    refine zs_aload_n (pc := 49) t344_49 rfl ?_
    refine zs_get (pc := 50) t344_50 (by decide) (zk1 (hs.k fk_zMm_336)) (hs.p rfl fv_zMm_336_46) ?_
    refine zs_iload_n (pc := 53) t344_53 rfl ?_
    refine zs_iconst (pc := 54) t344_54 (v := 2) (by decide) ?_
    obtain ⟨w29v, w29e, w29⟩ := ziadd (a := a) (b := (2 : Int32)) rfl li2 (by omega) (by omega)
    refine zs_iadd (pc := 55) t344_55 (c := w29v) w29e ?_
    have w30 := zrg (zI M 362 (2 + w7n))
    have w31 : (2 + w7n) = 4 * i → (zI M 362 (2 + w7n)).toInt = L := fun q => by rw [q]; exact yl
    have w32 : (2 + w7n) = 4 * i + 1 → (zI M 362 (2 + w7n)).toInt = y0 := fun q => by rw [q]; exact y160
    have w33 : L = 104 ∧ (2 + w7n) = 4 * i + 2 → (zI M 362 (2 + w7n)).toInt = y1 := fun q => by rw [q.2]; exact (y161 q.1).1
    have w34 : L = 104 ∧ (2 + w7n) = 4 * i + 3 → (zI M 362 (2 + w7n)).toInt = y2 := fun q => by rw [q.2]; exact (y161 q.1).2
    refine zs_iald (pc := 56) t344_56 (j := (2 + w7n)) (by decide) (zk1 (hs.k fk_zMm_362)) (show w29v.toInt = (((2 + w7n) : Nat) : Int) by omega) (zk2 (hs.k fk_zMm_362) (by omega)) rfl ?_
    refine zs_aload_n (pc := 57) t344_57 rfl ?_
    refine zs_get (pc := 58) t344_58 (by decide) (zk1 (hs.k fk_zMm_336)) (hs.p rfl fv_zMm_336_46) ?_
    refine zs_iload_n (pc := 61) t344_61 rfl ?_
    refine zs_iconst (pc := 62) t344_62 (v := 3) (by decide) ?_
    obtain ⟨w35v, w35e, w35⟩ := ziadd (a := a) (b := (3 : Int32)) rfl li3 (by omega) (by omega)
    refine zs_iadd (pc := 63) t344_63 (c := w35v) w35e ?_
    have w36 := zrg (zI M 362 (3 + w7n))
    have w37 : (3 + w7n) = 4 * i → (zI M 362 (3 + w7n)).toInt = L := fun q => by rw [q]; exact yl
    have w38 : (3 + w7n) = 4 * i + 1 → (zI M 362 (3 + w7n)).toInt = y0 := fun q => by rw [q]; exact y160
    have w39 : L = 104 ∧ (3 + w7n) = 4 * i + 2 → (zI M 362 (3 + w7n)).toInt = y1 := fun q => by rw [q.2]; exact (y161 q.1).1
    have w40 : L = 104 ∧ (3 + w7n) = 4 * i + 3 → (zI M 362 (3 + w7n)).toInt = y2 := fun q => by rw [q.2]; exact (y161 q.1).2
    refine zs_iald (pc := 64) t344_64 (j := (3 + w7n)) (by decide) (zk1 (hs.k fk_zMm_362)) (show w35v.toInt = (((3 + w7n) : Nat) : Int) by omega) (zk2 (hs.k fk_zMm_362) (by omega)) rfl ?_
    refine zs_invV (pc := 65) (k := 336) (as' := [.int (zI M 362 (1 + w7n)), .int (zI M 362 (2 + w7n)), .int (zI M 362 (3 + w7n))]) (st := []) t344_65 mf331 rfl rfl (Or.inl ⟨by decide, (zk1 (hs.k fk_zMm_336))⟩) ⟨by decide, by decide, Nat.le_of_ble_eq_true rfl, Nat.le_of_ble_eq_true rfl⟩ (R331 hs hI pR pC pF x0 x1 x2 x3 ?_) (fun _ _ q => q)
    intro w41M w41v w41s w41I w41F w41J w41PR w41PC w41PF w41x0
    have w41g := zrg w41v
    show zGo X l 4 0 0 344 68 [(0, .ref 336), (1, .int a)] [.int w41v] w41M _
    have w42 := w41x0
    rw [show (zI M 362 (1 + w7n)).toInt = y0 by omega, show (zI M 362 (2 + w7n)).toInt = y1 by omega, show (zI M 362 (3 + w7n)).toInt = y2 by omega] at w42
    exact zs_iret (pc := 68) t344_68 mr344 rfl (hQ _ _ w41s w41I ((zFr.refl).trans (w41F.mono rfl)) w41J w41PR w41PC w41PF (by
        rcases w42 with ⟨q1, q2, q3⟩ | ⟨q1, q2, q3⟩
        · exact Or.inl ⟨by omega, aDo.hn (by omega) (by omega), q3⟩
        · exact Or.inr ⟨by omega, _, aDo.hy (by omega) q1, q3⟩))
  by_cases w43 : (zI M 362 w7n).toInt = 120
  · refine zs_lsw (pc := 6) t344_6 (off := 63) ((rfl : (zI M 362 w7n).toInt = (zI M 362 w7n).toInt).trans w43) rfl (pc2 := 69) rfl ?_
    refine zs_aload_n (pc := 69) t344_69 rfl ?_
    refine zs_aload_n (pc := 70) t344_70 rfl ?_
    refine zs_get (pc := 71) t344_71 (by decide) (zk1 (hs.k fk_zMm_336)) (hs.p rfl fv_zMm_336_46) ?_
    refine zs_iload_n (pc := 74) t344_74 rfl ?_
    refine zs_iconst (pc := 75) t344_75 (v := 1) (by decide) ?_
    obtain ⟨w44v, w44e, w44⟩ := ziadd (a := a) (b := (1 : Int32)) rfl li1 (by omega) (by omega)
    refine zs_iadd (pc := 76) t344_76 (c := w44v) w44e ?_
    have w45 := zrg (zI M 362 (1 + w7n))
    have w46 : (1 + w7n) = 4 * i → (zI M 362 (1 + w7n)).toInt = L := fun q => by rw [q]; exact yl
    have w47 : (1 + w7n) = 4 * i + 1 → (zI M 362 (1 + w7n)).toInt = y0 := fun q => by rw [q]; exact y160
    have w48 : L = 104 ∧ (1 + w7n) = 4 * i + 2 → (zI M 362 (1 + w7n)).toInt = y1 := fun q => by rw [q.2]; exact (y161 q.1).1
    have w49 : L = 104 ∧ (1 + w7n) = 4 * i + 3 → (zI M 362 (1 + w7n)).toInt = y2 := fun q => by rw [q.2]; exact (y161 q.1).2
    refine zs_iald (pc := 77) t344_77 (j := (1 + w7n)) (by decide) (zk1 (hs.k fk_zMm_362)) (show w44v.toInt = (((1 + w7n) : Nat) : Int) by omega) (zk2 (hs.k fk_zMm_362) (by omega)) rfl ?_
    refine zs_invV (pc := 78) (k := 336) (as' := [.int (zI M 362 (1 + w7n))]) (st := []) t344_78 mf332 rfl rfl (Or.inl ⟨by decide, (zk1 (hs.k fk_zMm_336))⟩) ⟨by decide, by decide, Nat.le_of_ble_eq_true rfl, Nat.le_of_ble_eq_true rfl⟩ (R332 hs hI pR pC pF x0 x1 x2 x3 ?_) (fun _ _ q => q)
    intro w50M w50v w50s w50I w50F w50J w50PR w50PC w50PF w50x0
    have w50g := zrg w50v
    show zGo X l 4 0 0 344 81 [(0, .ref 336), (1, .int a)] [.int w50v] w50M _
    have w51 := w50x0
    rw [show (zI M 362 (1 + w7n)).toInt = y0 by omega] at w51
    exact zs_iret (pc := 81) t344_81 mr344 rfl (hQ _ _ w50s w50I ((zFr.refl).trans (w50F.mono rfl)) w50J w50PR w50PC w50PF (by
        rcases w51 with ⟨q1, q2, q3⟩ | ⟨q1, q2, q3, q4, q5⟩
        · exact Or.inl ⟨by omega, aDo.xn (by omega) (by omega), q3⟩
        · exact Or.inr ⟨by have z := pct.nn (P := zctb (uS F (32 + 4 * y0.toNat) (-1))) ((uS F (32 + 4 * y0.toNat) (-1)) 1).toNat; omega, _, aDo.xy (by omega) ⟨q1, q2, q3⟩, q5⟩))
  refine zs_lsw (pc := 6) t344_6 (off := 89) rfl (by unfold zlsel; repeat (first | rfl | (rw [if_neg (by omega)]; unfold zlsel))) (pc2 := 95) rfl ?_
  refine zs_aload_n (pc := 95) t344_95 rfl ?_
  refine zs_aload_n (pc := 96) t344_96 rfl ?_
  refine zs_get (pc := 97) t344_97 (by decide) (zk1 (hs.k fk_zMm_336)) (hs.p rfl fv_zMm_336_46) ?_
  refine zs_iload_n (pc := 100) t344_100 rfl ?_
  refine zs_iconst (pc := 101) t344_101 (v := 1) (by decide) ?_
  obtain ⟨w52v, w52e, w52⟩ := ziadd (a := a) (b := (1 : Int32)) rfl li1 (by omega) (by omega)
  refine zs_iadd (pc := 102) t344_102 (c := w52v) w52e ?_
  have w53 := zrg (zI M 362 (1 + w7n))
  have w54 : (1 + w7n) = 4 * i → (zI M 362 (1 + w7n)).toInt = L := fun q => by rw [q]; exact yl
  have w55 : (1 + w7n) = 4 * i + 1 → (zI M 362 (1 + w7n)).toInt = y0 := fun q => by rw [q]; exact y160
  have w56 : L = 104 ∧ (1 + w7n) = 4 * i + 2 → (zI M 362 (1 + w7n)).toInt = y1 := fun q => by rw [q.2]; exact (y161 q.1).1
  have w57 : L = 104 ∧ (1 + w7n) = 4 * i + 3 → (zI M 362 (1 + w7n)).toInt = y2 := fun q => by rw [q.2]; exact (y161 q.1).2
  refine zs_iald (pc := 103) t344_103 (j := (1 + w7n)) (by decide) (zk1 (hs.k fk_zMm_362)) (show w52v.toInt = (((1 + w7n) : Nat) : Int) by omega) (zk2 (hs.k fk_zMm_362) (by omega)) rfl ?_
  refine zs_invV (pc := 104) (k := 336) (as' := [.int (zI M 362 (1 + w7n))]) (st := []) t344_104 mf334 rfl rfl (Or.inl ⟨by decide, (zk1 (hs.k fk_zMm_336))⟩) ⟨by decide, by decide, Nat.le_of_ble_eq_true rfl, Nat.le_of_ble_eq_true rfl⟩ (R334 hs hI pR pC pF x0 x1 x2 x3 ?_) (fun _ _ q => q)
  intro w58M w58v w58s w58I w58F w58J w58PR w58PC w58PF w58x0
  have w58g := zrg w58v
  show zGo X l 4 0 0 344 107 [(0, .ref 336), (1, .int a)] [.int w58v] w58M _
  have w59 := w58x0
  rw [show (zI M 362 (1 + w7n)).toInt = y0 by omega] at w59
  exact zs_iret (pc := 107) t344_107 mr344 rfl (hQ _ _ w58s w58I ((zFr.refl).trans (w58F.mono rfl)) w58J w58PR w58PC w58PF (by
      rcases w59 with ⟨q1, q2, q3⟩ | ⟨q1, q2, q3, q4⟩
      · exact Or.inl ⟨by omega, aDo.nn (by omega) (by omega), q3⟩
      · exact Or.inr ⟨by omega, _, aDo.ny (by omega) ⟨q1, q2⟩, q4⟩))
