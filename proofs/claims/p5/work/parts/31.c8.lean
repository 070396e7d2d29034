theorem K343 {X : zX} {l : Launch} {M : zM} {Q : Option Value → zM → Prop} (hs : zSk zMm M) (hI : zIv mLo mHi M) (u0 : (zI M 336 7).toInt = -1) (u1 : (zI M 336 6).toInt < (zI M 336 5).toInt) (hQ : ∀ (M' : zM) (v : Int32), zSk zMm M' → zIv mLo mHi M' → zFr [(336, 336, some 6), (336, 336, some 7), (336, 336, some 8), (362, 362, none), (336, 336, some 47)] M M' → zJ M' 351 = zJ M 351 → ((0 ≤ (zI M' 336 7).toInt) ∨ ((zI M' 336 7).toInt = -1 ∧ (zI M 336 6).toInt < (zI M' 336 6).toInt)) → 0 ≤ v.toInt → v.toInt ≤ 1 → Q (some (.int v)) M') : zCall X l 3 0 0 343 [.ref 336] M Q := by
  refine zs_in (by decide) mf343 (Nat.le_of_ble_eq_true rfl) ?_
  show zGo X l 3 0 0 343 0 [(0, .ref 336)] [] M _
  refine zs_aload_n (pc := 0) t343_0 rfl ?_
  have w1 := ib336_6 hI
  have w2 : (zI M 336 6).toInt = (zI M 336 6).toInt := (congrArg Int32.toInt rfl).trans rfl
  have w3 := ib336_5 hI
  have w4 : (zI M 336 5).toInt = (zI M 336 5).toInt := (congrArg Int32.toInt rfl).trans rfl
  refine zs_invV (pc := 1) (k := 336) (as' := []) (st := []) t343_1 mf238 rfl rfl (Or.inl ⟨by decide, (zk1 (hs.k fk_zMm_336))⟩) ⟨by decide, by decide, Nat.le_of_ble_eq_true rfl, Nat.le_of_ble_eq_true rfl⟩ (K238 hs hI ?_) (fun _ _ q => q)
  intro w5v w5t0 w5a w5b
  show zGo X l 3 0 0 343 4 [(0, .ref 336)] [.int w5v] M _
  refine zs_istore_n (pc := 4) t343_4 (ls' := [(1, .int w5v), (0, .ref 336)]) (zml mf343 (by decide)) rfl ?_
  refine zs_iload_n (pc := 5) t343_5 rfl ?_
  refine zs_bipush (pc := 6) t343_6 (v := 104) (by decide) ?_
  by_cases w6 : w5v.toInt ≠ 104
  · refine zs_icmp_neT (pc := 8) t343_8 rfl li104 (by omega) ?_
    refine zs_iload_n (pc := 15) t343_15 rfl ?_
    refine zs_bipush (pc := 16) t343_16 (v := 120) (by decide) ?_
    by_cases w7 : w5v.toInt = 120
    · refine zs_icmp_eqT (pc := 18) t343_18 rfl li120 (by omega) ?_
      refine zs_iconst (pc := 33) t343_33 (v := 1) (by decide) ?_
      refine zs_goto (pc := 34) t343_34 ?_
      refine zs_istore_n (pc := 38) t343_38 (ls' := [(2, .int (1 : Int32)), (1, .int w5v), (0, .ref 336)]) (zml mf343 (by decide)) rfl ?_
      refine zs_iload_n (pc := 39) t343_39 rfl ?_
      refine zs_if_eqF (pc := 40) t343_40 li1 (by decide) ?_
      refine zs_aload_n (pc := 43) t343_43 rfl ?_
      have w8 := ib336_47 hI
      refine zs_get (pc := 44) t343_44 (by decide) (zk1 (hs.k fk_zMm_336)) (zfvi rfl rfl) ?_
      refine zs_bipush (pc := 47) t343_47 (v := 20) (by decide) ?_
      by_cases w9 : (zI M 336 47).toInt ≠ 20
      · refine zs_icmp_neT (pc := 49) t343_49 rfl li20 (by omega) ?_
        refine zs_iconst (pc := 61) t343_61 (v := 4) (by decide) ?_
        refine zs_aload_n (pc := 62) t343_62 rfl ?_
        refine zs_get (pc := 63) t343_63 (by decide) (zk1 (hs.k fk_zMm_336)) (zfvi rfl rfl) ?_
        obtain ⟨w10v, w10⟩ : ∃ v, (4 : Int32) * (zI M 336 47) = v := ⟨_, rfl⟩
        have w10g : w10v.toInt = 4 * (zI M 336 47).toInt := by rw [← w10]; exact zmulc li4 rfl (by omega) (by omega)
        refine zs_imul (pc := 66) t343_66 (c := w10v) w10 ?_
        refine zs_istore_n (pc := 67) t343_67 (ls' := [(3, .int w10v), (2, .int (1 : Int32)), (1, .int w5v), (0, .ref 336)]) (zml mf343 (by decide)) rfl ?_
        refine zs_aload_n (pc := 68) t343_68 rfl ?_
        refine zs_get (pc := 69) t343_69 (by decide) (zk1 (hs.k fk_zMm_336)) (hs.p rfl fv_zMm_336_46) ?_
        refine zs_iload_n (pc := 72) t343_72 rfl ?_
        refine zs_iload_n (pc := 73) t343_73 rfl ?_
        obtain ⟨w11n, w11⟩ : ∃ n : Nat, (zI M 336 47).toInt = (n : Int) := ⟨((zI M 336 47).toInt).toNat, by omega⟩
        have w12 : zIv mLo mHi (zsI M 362 (4 * w11n) w5v) := zIv.put hI (show (-2147483648) ≤ w5v.toInt ∧ w5v.toInt ≤ 2147483647 from zrg w5v)
        refine zs_iast (pc := 74) t343_74 (j := (4 * w11n)) (by decide) (zk1 (hs.k fk_zMm_362)) (show w10v.toInt = (((4 * w11n) : Nat) : Int) by omega) (zk2 (hs.k fk_zMm_362) (by omega)) ?_
        refine zs_aload_n (pc := 75) t343_75 rfl ?_
        refine zs_dup (pc := 76) t343_76 rfl ?_
        refine zs_get (pc := 77) t343_77 (by decide) (zk1 (hs.k fk_zMm_336)) (zfvi rfl ((zIo (by decide)).trans rfl)) ?_
        refine zs_iconst (pc := 80) t343_80 (v := 1) (by decide) ?_
        obtain ⟨w13v, w13e, w13⟩ := ziadd (a := (zI M 336 6)) (b := (1 : Int32)) rfl li1 (by omega) (by omega)
        refine zs_iadd (pc := 81) t343_81 (c := w13v) w13e ?_
        have w14 : zIv mLo mHi (zsI (zsI M 362 (4 * w11n) w5v) 336 6 w13v) := zIv.put w12 (show 0 ≤ w13v.toInt ∧ w13v.toInt ≤ 500 from ⟨by omega, by omega⟩)
        refine zs_putI (pc := 82) t343_82 (zk1 (hs.k fk_zMm_336)) rfl ?_
        refine zs_iconst (pc := 85) t343_85 (v := 1) (by decide) ?_
        refine zs_istore (pc := 86) t343_86 (ls' := [(4, .int (1 : Int32)), (3, .int w10v), (2, .int (1 : Int32)), (1, .int w5v), (0, .ref 336)]) (zml mf343 (by decide)) rfl ?_
        have w15L : ∀ (m : Nat) (w15x4 : Int32) (w15M : zM), (1 ≤ w15x4.toInt ∧ w15x4.toInt ≤ 4) → zSk zMm w15M → zIv mLo mHi w15M → zFr [(336, 336, some 6), (336, 336, some 7), (336, 336, some 8), (362, 362, none)] (zsI (zsI M 362 (4 * w11n) w5v) 336 6 w13v) w15M → zJ w15M 351 = zJ (zsI (zsI M 362 (4 * w11n) w5v) 336 6 w13v) 351 → ((zI w15M 336 47).toInt = (zI (zsI (zsI M 362 (4 * w11n) w5v) 336 6 w13v) 336 47).toInt) → ((zI (zsI (zsI M 362 (4 * w11n) w5v) 336 6 w13v) 336 6).toInt ≤ (zI w15M 336 6).toInt) → ((zI w15M 336 7).toInt = (zI (zsI (zsI M 362 (4 * w11n) w5v) 336 6 w13v) 336 7).toInt) → 4 - w15x4.toInt ≤ (m : Int) → zGo X l 3 0 0 343 88 [(0, .ref 336), (1, .int w5v), (2, .int (1 : Int32)), (3, .int w10v), (4, .int w15x4)] [] w15M Q := by
          intro m
          induction m using Nat.strongRecOn with
          | ind w15m w15ih =>
            intro w15x4 w15M w15b4 w15s w15I w15F w15J w15r0 w15r1 w15r2 w15q
            have w16 : (zI (zsI (zsI M 362 (4 * w11n) w5v) 336 6 w13v) 336 47).toInt = (zI M 336 47).toInt := (congrArg Int32.toInt ((zIoj (by decide)).trans ((zIo (by decide)).trans rfl))).trans rfl
            have w17 := ib336_6 w15I
            have w18 : (zI (zsI (zsI M 362 (4 * w11n) w5v) 336 6 w13v) 336 6).toInt = ((zI M 336 6).toInt + 1) := (congrArg Int32.toInt zIs).trans w13
            have w19 := ib336_7 w15I
            have w20 := ib336_7 hI
            have w21 : (zI (zsI (zsI M 362 (4 * w11n) w5v) 336 6 w13v) 336 7).toInt = (zI M 336 7).toInt := (congrArg Int32.toInt ((zIoj (by decide)).trans ((zIo (by decide)).trans rfl))).trans rfl
            refine zs_iload (pc := 88) t343_88 rfl ?_
            refine zs_iload_n (pc := 90) t343_90 rfl ?_
            by_cases w22 : 1 < w15x4.toInt
            · refine zs_icmp_gtT (pc := 91) t343_91 rfl li1 (by omega) ?_
              refine zs_aload_n (pc := 148) t343_148 rfl ?_
              refine zs_dup (pc := 149) t343_149 rfl ?_
              refine zs_get (pc := 150) t343_150 (by decide) (zk1 (w15s.k fk_zMm_336)) (zfvi rfl ((w15F 336 47 rfl).trans ((zIoj (by decide)).trans ((zIo (by decide)).trans rfl)))) ?_
              refine zs_iconst (pc := 153) t343_153 (v := 1) (by decide) ?_
              obtain ⟨w23v, w23e, w23⟩ := ziadd (a := (zI M 336 47)) (b := (1 : Int32)) rfl li1 (by omega) (by omega)
              refine zs_iadd (pc := 154) t343_154 (c := w23v) w23e ?_
              have w24 : zIv mLo mHi (zsI w15M 336 47 w23v) := zIv.put w15I (show 0 ≤ w23v.toInt ∧ w23v.toInt ≤ 20 from ⟨by omega, by omega⟩)
              refine zs_putI (pc := 155) t343_155 (zk1 (w15s.k fk_zMm_336)) rfl ?_
              refine zs_iconst (pc := 158) t343_158 (v := 1) (by decide) ?_
              have w25 : (zI (zsI w15M 336 47 w23v) 336 6).toInt = (zI w15M 336 6).toInt := (congrArg Int32.toInt ((zIoj (by decide)).trans rfl)).trans rfl
              have w26 : (zI (zsI w15M 336 47 w23v) 336 7).toInt = (zI w15M 336 7).toInt := (congrArg Int32.toInt ((zIoj (by decide)).trans rfl)).trans rfl
              have w27 := li1
              exact zs_iret (pc := 159) t343_159 mr343 (by decide) (hQ _ _ w15s w24 (((((zFr.refl).put rfl).put rfl).trans (w15F.mono rfl)).put rfl) w15J (by omega) (by decide) (by decide))
            · refine zs_icmp_gtF (pc := 91) t343_91 rfl li1 (by omega) ?_
              refine zs_aload_n (pc := 94) t343_94 rfl ?_
              refine zs_sipush (pc := 95) t343_95 (v := -9999) (by decide) ?_
              refine zs_sipush (pc := 98) t343_98 (v := 9999) (by decide) ?_
              have w28 : (-9999 : Int32).toInt = (-9999) := lin9999
              have w29 : (9999 : Int32).toInt = 9999 := li9999
              have w30 : (zI w15M 336 6).toInt = (zI w15M 336 6).toInt := (congrArg Int32.toInt rfl).trans rfl
              have w31 : (zI w15M 336 7).toInt = (zI w15M 336 7).toInt := (congrArg Int32.toInt rfl).trans rfl
              refine zs_invV (pc := 101) (k := 336) (as' := [.int (-9999 : Int32), .int (9999 : Int32)]) (st := []) t343_101 mf243 rfl rfl (Or.inl ⟨by decide, (zk1 (w15s.k fk_zMm_336))⟩) ⟨by decide, by decide, Nat.le_of_ble_eq_true rfl, Nat.le_of_ble_eq_true rfl⟩ (K243 w15s w15I ?_) (fun _ _ q => q)
              intro w32M w32v w32s w32I w32F w32J w32t0 w32t1 w32t2 w32a w32b
              have w33 := ib336_6 w32I
              have w34 := ib336_7 w32I
              have w35 := zrg (zI w32M 336 8)
              show zGo X l 3 0 0 343 104 [(0, .ref 336), (1, .int w5v), (2, .int (1 : Int32)), (3, .int w10v), (4, .int w15x4)] [.int w32v] w32M _
              by_cases w36 : w32v.toInt = 0
              · refine zs_if_eqT (pc := 104) t343_104 rfl (by omega) ?_
                refine zs_iconst (pc := 127) t343_127 (v := 0) (by decide) ?_
                have w37 : (zI w32M 336 6).toInt = (zI w32M 336 6).toInt := (congrArg Int32.toInt rfl).trans rfl
                have w38 : (zI w32M 336 7).toInt = (zI w32M 336 7).toInt := (congrArg Int32.toInt rfl).trans rfl
                have w39 := li0
                exact zs_iret (pc := 128) t343_128 mr343 (by decide) (hQ _ _ w32s w32I (((((zFr.refl).put rfl).put rfl).trans (w15F.mono rfl)).trans (w32F.mono rfl)) (w32J.trans w15J) (by omega) (by decide) (by decide))
              · refine zs_if_eqF (pc := 104) t343_104 rfl (by omega) ?_
                refine zs_aload_n (pc := 107) t343_107 rfl ?_
                refine zs_iload (pc := 108) t343_108 rfl ?_
                refine zs_iload_n (pc := 110) t343_110 rfl ?_
                refine zs_icmp_neF (pc := 111) t343_111 rfl li1 (by omega) ?_
                refine zs_bipush (pc := 114) t343_114 (v := 59) (by decide) ?_
                refine zs_goto (pc := 116) t343_116 ?_
                have w40 : (59 : Int32).toInt = 59 := li59
                have w41 : (zI w32M 336 6).toInt = (zI w32M 336 6).toInt := (congrArg Int32.toInt rfl).trans rfl
                have w42 : (zI w32M 336 7).toInt = (zI w32M 336 7).toInt := (congrArg Int32.toInt rfl).trans rfl
                refine zs_invV (pc := 121) (k := 336) (as' := [.int (59 : Int32)]) (st := []) t343_121 mf246 rfl rfl (Or.inl ⟨by decide, (zk1 (w32s.k fk_zMm_336))⟩) ⟨by decide, by decide, Nat.le_of_ble_eq_true rfl, Nat.le_of_ble_eq_true rfl⟩ (K246 w32s w32I ⟨by decide, by decide⟩ ?_) (fun _ _ q => q)
                intro w43M w43v w43s w43I w43F w43J w43t0 w43t1 w43a w43b
                have w44 := ib336_6 w43I
                have w45 := ib336_7 w43I
                show zGo X l 3 0 0 343 124 [(0, .ref 336), (1, .int w5v), (2, .int (1 : Int32)), (3, .int w10v), (4, .int w15x4)] [.int w43v] w43M _
                by_cases w46 : w43v.toInt ≠ 0
                · refine zs_if_neT (pc := 124) t343_124 rfl (by omega) ?_
                  refine zs_aload_n (pc := 129) t343_129 rfl ?_
                  refine zs_get (pc := 130) t343_130 (by decide) (zk1 (w43s.k fk_zMm_336)) (w43s.p rfl fv_zMm_336_46) ?_
                  refine zs_iload_n (pc := 133) t343_133 rfl ?_
                  refine zs_iload (pc := 134) t343_134 rfl ?_
                  obtain ⟨w47v, w47e, w47⟩ := ziadd (a := w10v) (b := w15x4) w10g rfl (by omega) (by omega)
                  refine zs_iadd (pc := 136) t343_136 (c := w47v) w47e ?_
                  refine zs_aload_n (pc := 137) t343_137 rfl ?_
                  refine zs_get (pc := 138) t343_138 (by decide) (zk1 (w43s.k fk_zMm_336)) (zfvi rfl ((w43F 336 8 rfl).trans rfl)) ?_
                  obtain ⟨w48n, w48⟩ : ∃ n : Nat, w15x4.toInt = (n : Int) := ⟨(w15x4.toInt).toNat, by omega⟩
                  have w49 : zIv mLo mHi (zsI w43M 362 (4 * w11n + w48n) (zI w32M 336 8)) := zIv.put w43I (show (-2147483648) ≤ (zI w32M 336 8).toInt ∧ (zI w32M 336 8).toInt ≤ 2147483647 from zrg (zI w32M 336 8))
                  refine zs_iast (pc := 141) t343_141 (j := (4 * w11n + w48n)) (by decide) (zk1 (w43s.k fk_zMm_362)) (show w47v.toInt = (((4 * w11n + w48n) : Nat) : Int) by omega) (zk2 (w43s.k fk_zMm_362) (by omega)) ?_
                  obtain ⟨w50v, w50e, w50⟩ := ziadd (a := w15x4) (b := Int32.ofInt 1) rfl (show (Int32.ofInt 1).toInt = 1 by decide) (by omega) (by omega)
                  refine zs_iinc (pc := 142) t343_142 (ls' := [(4, .int w50v), (0, .ref 336), (1, .int w5v), (2, .int (1 : Int32)), (3, .int w10v)]) (zml mf343 (by decide)) rfl (c := w50v) w50e rfl ?_
                  refine zs_goto (pc := 145) t343_145 ?_
                  refine zGo.locals (ls' := [(0, .ref 336), (1, .int w5v), (2, .int (1 : Int32)), (3, .int w10v), (4, .int w50v)]) (by simp) ?_
                  have w51 := w50
                  have w52 : (zI (zsI w43M 362 (4 * w11n + w48n) (zI w32M 336 8)) 336 47).toInt = (zI M 336 47).toInt := (congrArg Int32.toInt ((zIo (by decide)).trans ((w43F 336 47 rfl).trans ((w32F 336 47 rfl).trans ((w15F 336 47 rfl).trans ((zIoj (by decide)).trans ((zIo (by decide)).trans rfl))))))).trans rfl
                  have w53 : (zI (zsI w43M 362 (4 * w11n + w48n) (zI w32M 336 8)) 336 6).toInt = (zI w43M 336 6).toInt := (congrArg Int32.toInt ((zIo (by decide)).trans rfl)).trans rfl
                  have w54 : (zI (zsI w43M 362 (4 * w11n + w48n) (zI w32M 336 8)) 336 7).toInt = (zI w43M 336 7).toInt := (congrArg Int32.toInt ((zIo (by decide)).trans rfl)).trans rfl
                  exact w15ih (w15m - 1) (by omega) w50v (zsI w43M 362 (4 * w11n + w48n) (zI w32M 336 8)) ⟨by omega, by omega⟩ w43s w49 (((((zFr.refl).trans (w15F.mono rfl)).trans (w32F.mono rfl)).trans (w43F.mono rfl)).put rfl) (w43J.trans (w32J.trans w15J)) (by omega) (by omega) (by omega) (by omega)
                · refine zs_if_neF (pc := 124) t343_124 rfl (by omega) ?_
                  refine zs_iconst (pc := 127) t343_127 (v := 0) (by decide) ?_
                  have w55 : (zI w43M 336 6).toInt = (zI w43M 336 6).toInt := (congrArg Int32.toInt rfl).trans rfl
                  have w56 : (zI w43M 336 7).toInt = (zI w43M 336 7).toInt := (congrArg Int32.toInt rfl).trans rfl
                  have w57 := li0
                  exact zs_iret (pc := 128) t343_128 mr343 (by decide) (hQ _ _ w43s w43I ((((((zFr.refl).put rfl).put rfl).trans (w15F.mono rfl)).trans (w32F.mono rfl)).trans (w43F.mono rfl)) (w43J.trans (w32J.trans w15J)) (by omega) (by decide) (by decide))
        refine zGo.locals (ls' := [(0, .ref 336), (1, .int w5v), (2, .int (1 : Int32)), (3, .int w10v), (4, .int (1 : Int32))]) (by simp) ?_
        have w58 := li1
        have w59 : (zI (zsI (zsI M 362 (4 * w11n) w5v) 336 6 w13v) 336 47).toInt = (zI M 336 47).toInt := (congrArg Int32.toInt ((zIoj (by decide)).trans ((zIo (by decide)).trans rfl))).trans rfl
        have w60 : (zI (zsI (zsI M 362 (4 * w11n) w5v) 336 6 w13v) 336 6).toInt = ((zI M 336 6).toInt + 1) := (congrArg Int32.toInt zIs).trans w13
        have w61 : (zI (zsI (zsI M 362 (4 * w11n) w5v) 336 6 w13v) 336 7).toInt = (zI M 336 7).toInt := (congrArg Int32.toInt ((zIoj (by decide)).trans ((zIo (by decide)).trans rfl))).trans rfl
        exact w15L ((4 - 1 : Int).toNat) (1 : Int32) (zsI (zsI M 362 (4 * w11n) w5v) 336 6 w13v) ⟨by decide, by decide⟩ hs w14 zFr.refl rfl (by omega) (by omega) (by omega) (by omega)
      · refine zs_icmp_neF (pc := 49) t343_49 rfl li20 (by omega) ?_
        refine zs_aload_n (pc := 52) t343_52 rfl ?_
        refine zs_aload_n (pc := 53) t343_53 rfl ?_
        refine zs_get (pc := 54) t343_54 (by decide) (zk1 (hs.k fk_zMm_336)) (zfvi rfl rfl) ?_
        refine zs_invV (pc := 57) (k := 336) (as' := [.int (zI M 336 6)]) (st := []) t343_57 mf239 rfl rfl (Or.inl ⟨by decide, (zk1 (hs.k fk_zMm_336))⟩) ⟨by decide, by decide, Nat.le_of_ble_eq_true rfl, Nat.le_of_ble_eq_true rfl⟩ (zs_in (by decide) mf239 (Nat.le_of_ble_eq_true rfl) ?_) (fun _ _ q => q)
        show zGo X l 0 0 0 239 0 [(0, .ref 336), (1, .int (zI M 336 6))] [] M _
        refine zs_aload_n (pc := 0) t239_0 rfl ?_
        refine zs_iload_n (pc := 1) t239_1 rfl ?_
        have w62 : zIv mLo mHi (zsI M 336 7 (zI M 336 6)) := zIv.put hI (show (-1) ≤ (zI M 336 6).toInt ∧ (zI M 336 6).toInt ≤ 500 from ⟨by omega, by omega⟩)
        refine zs_putI (pc := 2) t239_2 (zk1 (hs.k fk_zMm_336)) rfl ?_
        refine zs_iconst (pc := 5) t239_5 (v := 0) (by decide) ?_
        refine zs_iret (pc := 6) t239_6 mr239 (by decide) ?_
        show zGo X l 3 0 0 343 60 [(2, .int (1 : Int32)), (1, .int w5v), (0, .ref 336)] [.int (0 : Int32)] (zsI M 336 7 (zI M 336 6)) _
        have w63 : (zI (zsI M 336 7 (zI M 336 6)) 336 6).toInt = (zI M 336 6).toInt := (congrArg Int32.toInt ((zIoj (by decide)).trans rfl)).trans rfl
        have w64 : (zI (zsI M 336 7 (zI M 336 6)) 336 7).toInt = (zI M 336 6).toInt := (congrArg Int32.toInt zIs).trans rfl
        have w65 := li0
        exact zs_iret (pc := 60) t343_60 mr343 (by decide) (hQ _ _ hs w62 ((zFr.refl).put rfl) rfl (by omega) (by decide) (by decide))
    · refine zs_icmp_eqF (pc := 18) t343_18 rfl li120 (by omega) ?_
      refine zs_iload_n (pc := 21) t343_21 rfl ?_
      refine zs_bipush (pc := 22) t343_22 (v := 100) (by decide) ?_
      by_cases w66 : w5v.toInt = 100
      · refine zs_icmp_eqT (pc := 24) t343_24 rfl li100 (by omega) ?_
        refine zs_iconst (pc := 33) t343_33 (v := 1) (by decide) ?_
        refine zs_goto (pc := 34) t343_34 ?_
        refine zs_istore_n (pc := 38) t343_38 (ls' := [(2, .int (1 : Int32)), (1, .int w5v), (0, .ref 336)]) (zml mf343 (by decide)) rfl ?_
        refine zs_iload_n (pc := 39) t343_39 rfl ?_
        refine zs_if_eqF (pc := 40) t343_40 li1 (by decide) ?_
        refine zs_aload_n (pc := 43) t343_43 rfl ?_
        have w67 := ib336_47 hI
        refine zs_get (pc := 44) t343_44 (by decide) (zk1 (hs.k fk_zMm_336)) (zfvi rfl rfl) ?_
        refine zs_bipush (pc := 47) t343_47 (v := 20) (by decide) ?_
        by_cases w68 : (zI M 336 47).toInt ≠ 20
        · refine zs_icmp_neT (pc := 49) t343_49 rfl li20 (by omega) ?_
          refine zs_iconst (pc := 61) t343_61 (v := 4) (by decide) ?_
          refine zs_aload_n (pc := 62) t343_62 rfl ?_
          refine zs_get (pc := 63) t343_63 (by decide) (zk1 (hs.k fk_zMm_336)) (zfvi rfl rfl) ?_
          obtain ⟨w69v, w69⟩ : ∃ v, (4 : Int32) * (zI M 336 47) = v := ⟨_, rfl⟩
          have w69g : w69v.toInt = 4 * (zI M 336 47).toInt := by rw [← w69]; exact zmulc li4 rfl (by omega) (by omega)
          refine zs_imul (pc := 66) t343_66 (c := w69v) w69 ?_
          refine zs_istore_n (pc := 67) t343_67 (ls' := [(3, .int w69v), (2, .int (1 : Int32)), (1, .int w5v), (0, .ref 336)]) (zml mf343 (by decide)) rfl ?_
          refine zs_aload_n (pc := 68) t343_68 rfl ?_
          refine zs_get (pc := 69) t343_69 (by decide) (zk1 (hs.k fk_zMm_336)) (hs.p rfl fv_zMm_336_46) ?_
          refine zs_iload_n (pc := 72) t343_72 rfl ?_
          refine zs_iload_n (pc := 73) t343_73 rfl ?_
          obtain ⟨w70n, w70⟩ : ∃ n : Nat, (zI M 336 47).toInt = (n : Int) := ⟨((zI M 336 47).toInt).toNat, by omega⟩
          have w71 : zIv mLo mHi (zsI M 362 (4 * w70n) w5v) := zIv.put hI (show (-2147483648) ≤ w5v.toInt ∧ w5v.toInt ≤ 2147483647 from zrg w5v)
          refine zs_iast (pc := 74) t343_74 (j := (4 * w70n)) (by decide) (zk1 (hs.k fk_zMm_362)) (show w69v.toInt = (((4 * w70n) : Nat) : Int) by omega) (zk2 (hs.k fk_zMm_362) (by omega)) ?_
          refine zs_aload_n (pc := 75) t343_75 rfl ?_
          refine zs_dup (pc := 76) t343_76 rfl ?_
          refine zs_get (pc := 77) t343_77 (by decide) (zk1 (hs.k fk_zMm_336)) (zfvi rfl ((zIo (by decide)).trans rfl)) ?_
          refine zs_iconst (pc := 80) t343_80 (v := 1) (by decide) ?_
          obtain ⟨w72v, w72e, w72⟩ := ziadd (a := (zI M 336 6)) (b := (1 : Int32)) rfl li1 (by omega) (by omega)
          refine zs_iadd (pc := 81) t343_81 (c := w72v) w72e ?_
          have w73 : zIv mLo mHi (zsI (zsI M 362 (4 * w70n) w5v) 336 6 w72v) := zIv.put w71 (show 0 ≤ w72v.toInt ∧ w72v.toInt ≤ 500 from ⟨by omega, by omega⟩)
          refine zs_putI (pc := 82) t343_82 (zk1 (hs.k fk_zMm_336)) rfl ?_
          refine zs_iconst (pc := 85) t343_85 (v := 1) (by decide) ?_
          refine zs_istore (pc := 86) t343_86 (ls' := [(4, .int (1 : Int32)), (3, .int w69v), (2, .int (1 : Int32)), (1, .int w5v), (0, .ref 336)]) (zml mf343 (by decide)) rfl ?_
          have w74L : ∀ (m : Nat) (w74x4 : Int32) (w74M : zM), (1 ≤ w74x4.toInt ∧ w74x4.toInt ≤ 4) → zSk zMm w74M → zIv mLo mHi w74M → zFr [(336, 336, some 6), (336, 336, some 7), (336, 336, some 8), (362, 362, none)] (zsI (zsI M 362 (4 * w70n) w5v) 336 6 w72v) w74M → zJ w74M 351 = zJ (zsI (zsI M 362 (4 * w70n) w5v) 336 6 w72v) 351 → ((zI w74M 336 47).toInt = (zI (zsI (zsI M 362 (4 * w70n) w5v) 336 6 w72v) 336 47).toInt) → ((zI (zsI (zsI M 362 (4 * w70n) w5v) 336 6 w72v) 336 6).toInt ≤ (zI w74M 336 6).toInt) → ((zI w74M 336 7).toInt = (zI (zsI (zsI M 362 (4 * w70n) w5v) 336 6 w72v) 336 7).toInt) → 4 - w74x4.toInt ≤ (m : Int) → zGo X l 3 0 0 343 88 [(0, .ref 336), (1, .int w5v), (2, .int (1 : Int32)), (3, .int w69v), (4, .int w74x4)] [] w74M Q := by
            intro m
            induction m using Nat.strongRecOn with
            | ind w74m w74ih =>
              intro w74x4 w74M w74b4 w74s w74I w74F w74J w74r0 w74r1 w74r2 w74q
              have w75 : (zI (zsI (zsI M 362 (4 * w70n) w5v) 336 6 w72v) 336 47).toInt = (zI M 336 47).toInt := (congrArg Int32.toInt ((zIoj (by decide)).trans ((zIo (by decide)).trans rfl))).trans rfl
              have w76 := ib336_6 w74I
              have w77 : (zI (zsI (zsI M 362 (4 * w70n) w5v) 336 6 w72v) 336 6).toInt = ((zI M 336 6).toInt + 1) := (congrArg Int32.toInt zIs).trans w72
              have w78 := ib336_7 w74I
              have w79 := ib336_7 hI
              have w80 : (zI (zsI (zsI M 362 (4 * w70n) w5v) 336 6 w72v) 336 7).toInt = (zI M 336 7).toInt := (congrArg Int32.toInt ((zIoj (by decide)).trans ((zIo (by decide)).trans rfl))).trans rfl
              refine zs_iload (pc := 88) t343_88 rfl ?_
              refine zs_iload_n (pc := 90) t343_90 rfl ?_
              by_cases w81 : 1 < w74x4.toInt
              · refine zs_icmp_gtT (pc := 91) t343_91 rfl li1 (by omega) ?_
                refine zs_aload_n (pc := 148) t343_148 rfl ?_
                refine zs_dup (pc := 149) t343_149 rfl ?_
                refine zs_get (pc := 150) t343_150 (by decide) (zk1 (w74s.k fk_zMm_336)) (zfvi rfl ((w74F 336 47 rfl).trans ((zIoj (by decide)).trans ((zIo (by decide)).trans rfl)))) ?_
                refine zs_iconst (pc := 153) t343_153 (v := 1) (by decide) ?_
                obtain ⟨w82v, w82e, w82⟩ := ziadd (a := (zI M 336 47)) (b := (1 : Int32)) rfl li1 (by omega) (by omega)
                refine zs_iadd (pc := 154) t343_154 (c := w82v) w82e ?_
                have w83 : zIv mLo mHi (zsI w74M 336 47 w82v) := zIv.put w74I (show 0 ≤ w82v.toInt ∧ w82v.toInt ≤ 20 from ⟨by omega, by omega⟩)
                refine zs_putI (pc := 155) t343_155 (zk1 (w74s.k fk_zMm_336)) rfl ?_
                refine zs_iconst (pc := 158) t343_158 (v := 1) (by decide) ?_
                have w84 : (zI (zsI w74M 336 47 w82v) 336 6).toInt = (zI w74M 336 6).toInt := (congrArg Int32.toInt ((zIoj (by decide)).trans rfl)).trans rfl
                have w85 : (zI (zsI w74M 336 47 w82v) 336 7).toInt = (zI w74M 336 7).toInt := (congrArg Int32.toInt ((zIoj (by decide)).trans rfl)).trans rfl
                have w86 := li1
                exact zs_iret (pc := 159) t343_159 mr343 (by decide) (hQ _ _ w74s w83 (((((zFr.refl).put rfl).put rfl).trans (w74F.mono rfl)).put rfl) w74J (by omega) (by decide) (by decide))
              · refine zs_icmp_gtF (pc := 91) t343_91 rfl li1 (by omega) ?_
                refine zs_aload_n (pc := 94) t343_94 rfl ?_
                refine zs_sipush (pc := 95) t343_95 (v := -9999) (by decide) ?_
                refine zs_sipush (pc := 98) t343_98 (v := 9999) (by decide) ?_
                have w87 : (-9999 : Int32).toInt = (-9999) := lin9999
                have w88 : (9999 : Int32).toInt = 9999 := li9999
                have w89 : (zI w74M 336 6).toInt = (zI w74M 336 6).toInt := (congrArg Int32.toInt rfl).trans rfl
                have w90 : (zI w74M 336 7).toInt = (zI w74M 336 7).toInt := (congrArg Int32.toInt rfl).trans rfl
                refine zs_invV (pc := 101) (k := 336) (as' := [.int (-9999 : Int32), .int (9999 : Int32)]) (st := []) t343_101 mf243 rfl rfl (Or.inl ⟨by decide, (zk1 (w74s.k fk_zMm_336))⟩) ⟨by decide, by decide, Nat.le_of_ble_eq_true rfl, Nat.le_of_ble_eq_true rfl⟩ (K243 w74s w74I ?_) (fun _ _ q => q)
                intro w91M w91v w91s w91I w91F w91J w91t0 w91t1 w91t2 w91a w91b
                have w92 := ib336_6 w91I
                have w93 := ib336_7 w91I
                have w94 := zrg (zI w91M 336 8)
                show zGo X l 3 0 0 343 104 [(0, .ref 336), (1, .int w5v), (2, .int (1 : Int32)), (3, .int w69v), (4, .int w74x4)] [.int w91v] w91M _
                by_cases w95 : w91v.toInt = 0
                · refine zs_if_eqT (pc := 104) t343_104 rfl (by omega) ?_
                  refine zs_iconst (pc := 127) t343_127 (v := 0) (by decide) ?_
                  have w96 : (zI w91M 336 6).toInt = (zI w91M 336 6).toInt := (congrArg Int32.toInt rfl).trans rfl
                  have w97 : (zI w91M 336 7).toInt = (zI w91M 336 7).toInt := (congrArg Int32.toInt rfl).trans rfl
                  have w98 := li0
                  exact zs_iret (pc := 128) t343_128 mr343 (by decide) (hQ _ _ w91s w91I (((((zFr.refl).put rfl).put rfl).trans (w74F.mono rfl)).trans (w91F.mono rfl)) (w91J.trans w74J) (by omega) (by decide) (by decide))
                · refine zs_if_eqF (pc := 104) t343_104 rfl (by omega) ?_
                  refine zs_aload_n (pc := 107) t343_107 rfl ?_
                  refine zs_iload (pc := 108) t343_108 rfl ?_
                  refine zs_iload_n (pc := 110) t343_110 rfl ?_
                  refine zs_icmp_neF (pc := 111) t343_111 rfl li1 (by omega) ?_
                  refine zs_bipush (pc := 114) t343_114 (v := 59) (by decide) ?_
                  refine zs_goto (pc := 116) t343_116 ?_
                  have w99 : (59 : Int32).toInt = 59 := li59
                  have w100 : (zI w91M 336 6).toInt = (zI w91M 336 6).toInt := (congrArg Int32.toInt rfl).trans rfl
                  have w101 : (zI w91M 336 7).toInt = (zI w91M 336 7).toInt := (congrArg Int32.toInt rfl).trans rfl
                  refine zs_invV (pc := 121) (k := 336) (as' := [.int (59 : Int32)]) (st := []) t343_121 mf246 rfl rfl (Or.inl ⟨by decide, (zk1 (w91s.k fk_zMm_336))⟩) ⟨by decide, by decide, Nat.le_of_ble_eq_true rfl, Nat.le_of_ble_eq_true rfl⟩ (K246 w91s w91I ⟨by decide, by decide⟩ ?_) (fun _ _ q => q)
                  intro w102M w102v w102s w102I w102F w102J w102t0 w102t1 w102a w102b
                  have w103 := ib336_6 w102I
                  have w104 := ib336_7 w102I
                  show zGo X l 3 0 0 343 124 [(0, .ref 336), (1, .int w5v), (2, .int (1 : Int32)), (3, .int w69v), (4, .int w74x4)] [.int w102v] w102M _
                  by_cases w105 : w102v.toInt ≠ 0
                  · refine zs_if_neT (pc := 124) t343_124 rfl (by omega) ?_
                    refine zs_aload_n (pc := 129) t343_129 rfl ?_
                    refine zs_get (pc := 130) t343_130 (by decide) (zk1 (w102s.k fk_zMm_336)) (w102s.p rfl fv_zMm_336_46) ?_
                    refine zs_iload_n (pc := 133) t343_133 rfl ?_
                    refine zs_iload (pc := 134) t343_134 rfl ?_
                    obtain ⟨w106v, w106e, w106⟩ := ziadd (a := w69v) (b := w74x4) w69g rfl (by omega) (by omega)
                    refine zs_iadd (pc := 136) t343_136 (c := w106v) w106e ?_
                    refine zs_aload_n (pc := 137) t343_137 rfl ?_
                    refine zs_get (pc := 138) t343_138 (by decide) (zk1 (w102s.k fk_zMm_336)) (zfvi rfl ((w102F 336 8 rfl).trans rfl)) ?_
                    obtain ⟨w107n, w107⟩ : ∃ n : Nat, w74x4.toInt = (n : Int) := ⟨(w74x4.toInt).toNat, by omega⟩
                    have w108 : zIv mLo mHi (zsI w102M 362 (4 * w70n + w107n) (zI w91M 336 8)) := zIv.put w102I (show (-2147483648) ≤ (zI w91M 336 8).toInt ∧ (zI w91M 336 8).toInt ≤ 2147483647 from zrg (zI w91M 336 8))
                    refine zs_iast (pc := 141) t343_141 (j := (4 * w70n + w107n)) (by decide) (zk1 (w102s.k fk_zMm_362)) (show w106v.toInt = (((4 * w70n + w107n) : Nat) : Int) by omega) (zk2 (w102s.k fk_zMm_362) (by omega)) ?_
                    obtain ⟨w109v, w109e, w109⟩ := ziadd (a := w74x4) (b := Int32.ofInt 1) rfl (show (Int32.ofInt 1).toInt = 1 by decide) (by omega) (by omega)
                    refine zs_iinc (pc := 142) t343_142 (ls' := [(4, .int w109v), (0, .ref 336), (1, .int w5v), (2, .int (1 : Int32)), (3, .int w69v)]) (zml mf343 (by decide)) rfl (c := w109v) w109e rfl ?_
                    refine zs_goto (pc := 145) t343_145 ?_
                    refine zGo.locals (ls' := [(0, .ref 336), (1, .int w5v), (2, .int (1 : Int32)), (3, .int w69v), (4, .int w109v)]) (by simp) ?_
                    have w110 := w109
                    have w111 : (zI (zsI w102M 362 (4 * w70n + w107n) (zI w91M 336 8)) 336 47).toInt = (zI M 336 47).toInt := (congrArg Int32.toInt ((zIo (by decide)).trans ((w102F 336 47 rfl).trans ((w91F 336 47 rfl).trans ((w74F 336 47 rfl).trans ((zIoj (by decide)).trans ((zIo (by decide)).trans rfl))))))).trans rfl
                    have w112 : (zI (zsI w102M 362 (4 * w70n + w107n) (zI w91M 336 8)) 336 6).toInt = (zI w102M 336 6).toInt := (congrArg Int32.toInt ((zIo (by decide)).trans rfl)).trans rfl
                    have w113 : (zI (zsI w102M 362 (4 * w70n + w107n) (zI w91M 336 8)) 336 7).toInt = (zI w102M 336 7).toInt := (congrArg Int32.toInt ((zIo (by decide)).trans rfl)).trans rfl
                    exact w74ih (w74m - 1) (by omega) w109v (zsI w102M 362 (4 * w70n + w107n) (zI w91M 336 8)) ⟨by omega, by omega⟩ w102s w108 (((((zFr.refl).trans (w74F.mono rfl)).trans (w91F.mono rfl)).trans (w102F.mono rfl)).put rfl) (w102J.trans (w91J.trans w74J)) (by omega) (by omega) (by omega) (by omega)
                  · refine zs_if_neF (pc := 124) t343_124 rfl (by omega) ?_
                    refine zs_iconst (pc := 127) t343_127 (v := 0) (by decide) ?_
                    have w114 : (zI w102M 336 6).toInt = (zI w102M 336 6).toInt := (congrArg Int32.toInt rfl).trans rfl
                    have w115 : (zI w102M 336 7).toInt = (zI w102M 336 7).toInt := (congrArg Int32.toInt rfl).trans rfl
                    have w116 := li0
                    exact zs_iret (pc := 128) t343_128 mr343 (by decide) (hQ _ _ w102s w102I ((((((zFr.refl).put rfl).put rfl).trans (w74F.mono rfl)).trans (w91F.mono rfl)).trans (w102F.mono rfl)) (w102J.trans (w91J.trans w74J)) (by omega) (by decide) (by decide))
          refine zGo.locals (ls' := [(0, .ref 336), (1, .int w5v), (2, .int (1 : Int32)), (3, .int w69v), (4, .int (1 : Int32))]) (by simp) ?_
          have w117 := li1
          have w118 : (zI (zsI (zsI M 362 (4 * w70n) w5v) 336 6 w72v) 336 47).toInt = (zI M 336 47).toInt := (congrArg Int32.toInt ((zIoj (by decide)).trans ((zIo (by decide)).trans rfl))).trans rfl
          have w119 : (zI (zsI (zsI M 362 (4 * w70n) w5v) 336 6 w72v) 336 6).toInt = ((zI M 336 6).toInt + 1) := (congrArg Int32.toInt zIs).trans w72
          have w120 : (zI (zsI (zsI M 362 (4 * w70n) w5v) 336 6 w72v) 336 7).toInt = (zI M 336 7).toInt := (congrArg Int32.toInt ((zIoj (by decide)).trans ((zIo (by decide)).trans rfl))).trans rfl
          exact w74L ((4 - 1 : Int).toNat) (1 : Int32) (zsI (zsI M 362 (4 * w70n) w5v) 336 6 w72v) ⟨by decide, by decide⟩ hs w73 zFr.refl rfl (by omega) (by omega) (by omega) (by omega)
        · refine zs_icmp_neF (pc := 49) t343_49 rfl li20 (by omega) ?_
          refine zs_aload_n (pc := 52) t343_52 rfl ?_
          refine zs_aload_n (pc := 53) t343_53 rfl ?_
          refine zs_get (pc := 54) t343_54 (by decide) (zk1 (hs.k fk_zMm_336)) (zfvi rfl rfl) ?_
          refine zs_invV (pc := 57) (k := 336) (as' := [.int (zI M 336 6)]) (st := []) t343_57 mf239 rfl rfl (Or.inl ⟨by decide, (zk1 (hs.k fk_zMm_336))⟩) ⟨by decide, by decide, Nat.le_of_ble_eq_true rfl, Nat.le_of_ble_eq_true rfl⟩ (zs_in (by decide) mf239 (Nat.le_of_ble_eq_true rfl) ?_) (fun _ _ q => q)
          show zGo X l 0 0 0 239 0 [(0, .ref 336), (1, .int (zI M 336 6))] [] M _
          refine zs_aload_n (pc := 0) t239_0 rfl ?_
          refine zs_iload_n (pc := 1) t239_1 rfl ?_
          have w121 : zIv mLo mHi (zsI M 336 7 (zI M 336 6)) := zIv.put hI (show (-1) ≤ (zI M 336 6).toInt ∧ (zI M 336 6).toInt ≤ 500 from ⟨by omega, by omega⟩)
          refine zs_putI (pc := 2) t239_2 (zk1 (hs.k fk_zMm_336)) rfl ?_
          refine zs_iconst (pc := 5) t239_5 (v := 0) (by decide) ?_
          refine zs_iret (pc := 6) t239_6 mr239 (by decide) ?_
          show zGo X l 3 0 0 343 60 [(2, .int (1 : Int32)), (1, .int w5v), (0, .ref 336)] [.int (0 : Int32)] (zsI M 336 7 (zI M 336 6)) _
          have w122 : (zI (zsI M 336 7 (zI M 336 6)) 336 6).toInt = (zI M 336 6).toInt := (congrArg Int32.toInt ((zIoj (by decide)).trans rfl)).trans rfl
          have w123 : (zI (zsI M 336 7 (zI M 336 6)) 336 7).toInt = (zI M 336 6).toInt := (congrArg Int32.toInt zIs).trans rfl
          have w124 := li0
          exact zs_iret (pc := 60) t343_60 mr343 (by decide) (hQ _ _ hs w121 ((zFr.refl).put rfl) rfl (by omega) (by decide) (by decide))
      · refine zs_icmp_eqF (pc := 24) t343_24 rfl li100 (by omega) ?_
        refine zs_iload_n (pc := 27) t343_27 rfl ?_
        refine zs_bipush (pc := 28) t343_28 (v := 110) (by decide) ?_
        by_cases w125 : w5v.toInt ≠ 110
        · refine zs_icmp_neT (pc := 30) t343_30 rfl li110 (by omega) ?_
          refine zs_iconst (pc := 37) t343_37 (v := 0) (by decide) ?_
          refine zs_istore_n (pc := 38) t343_38 (ls' := [(2, .int (0 : Int32)), (1, .int w5v), (0, .ref 336)]) (zml mf343 (by decide)) rfl ?_
          refine zs_iload_n (pc := 39) t343_39 rfl ?_
          refine zs_if_eqT (pc := 40) t343_40 li0 (by decide) ?_
          refine zs_aload_n (pc := 52) t343_52 rfl ?_
          refine zs_aload_n (pc := 53) t343_53 rfl ?_
          refine zs_get (pc := 54) t343_54 (by decide) (zk1 (hs.k fk_zMm_336)) (zfvi rfl rfl) ?_
          refine zs_invV (pc := 57) (k := 336) (as' := [.int (zI M 336 6)]) (st := []) t343_57 mf239 rfl rfl (Or.inl ⟨by decide, (zk1 (hs.k fk_zMm_336))⟩) ⟨by decide, by decide, Nat.le_of_ble_eq_true rfl, Nat.le_of_ble_eq_true rfl⟩ (zs_in (by decide) mf239 (Nat.le_of_ble_eq_true rfl) ?_) (fun _ _ q => q)
          show zGo X l 0 0 0 239 0 [(0, .ref 336), (1, .int (zI M 336 6))] [] M _
          refine zs_aload_n (pc := 0) t239_0 rfl ?_
          refine zs_iload_n (pc := 1) t239_1 rfl ?_
          have w126 : zIv mLo mHi (zsI M 336 7 (zI M 336 6)) := zIv.put hI (show (-1) ≤ (zI M 336 6).toInt ∧ (zI M 336 6).toInt ≤ 500 from ⟨by omega, by omega⟩)
          refine zs_putI (pc := 2) t239_2 (zk1 (hs.k fk_zMm_336)) rfl ?_
          refine zs_iconst (pc := 5) t239_5 (v := 0) (by decide) ?_
          refine zs_iret (pc := 6) t239_6 mr239 (by decide) ?_
          show zGo X l 3 0 0 343 60 [(2, .int (0 : Int32)), (1, .int w5v), (0, .ref 336)] [.int (0 : Int32)] (zsI M 336 7 (zI M 336 6)) _
          have w127 : (zI (zsI M 336 7 (zI M 336 6)) 336 6).toInt = (zI M 336 6).toInt := (congrArg Int32.toInt ((zIoj (by decide)).trans rfl)).trans rfl
          have w128 : (zI (zsI M 336 7 (zI M 336 6)) 336 7).toInt = (zI M 336 6).toInt := (congrArg Int32.toInt zIs).trans rfl
          have w129 := li0
          exact zs_iret (pc := 60) t343_60 mr343 (by decide) (hQ _ _ hs w126 ((zFr.refl).put rfl) rfl (by omega) (by decide) (by decide))
        · refine zs_icmp_neF (pc := 30) t343_30 rfl li110 (by omega) ?_
          refine zs_iconst (pc := 33) t343_33 (v := 1) (by decide) ?_
          refine zs_goto (pc := 34) t343_34 ?_
          refine zs_istore_n (pc := 38) t343_38 (ls' := [(2, .int (1 : Int32)), (1, .int w5v), (0, .ref 336)]) (zml mf343 (by decide)) rfl ?_
          refine zs_iload_n (pc := 39) t343_39 rfl ?_
          refine zs_if_eqF (pc := 40) t343_40 li1 (by decide) ?_
          refine zs_aload_n (pc := 43) t343_43 rfl ?_
          have w130 := ib336_47 hI
          refine zs_get (pc := 44) t343_44 (by decide) (zk1 (hs.k fk_zMm_336)) (zfvi rfl rfl) ?_
          refine zs_bipush (pc := 47) t343_47 (v := 20) (by decide) ?_
          by_cases w131 : (zI M 336 47).toInt ≠ 20
          · refine zs_icmp_neT (pc := 49) t343_49 rfl li20 (by omega) ?_
            refine zs_iconst (pc := 61) t343_61 (v := 4) (by decide) ?_
            refine zs_aload_n (pc := 62) t343_62 rfl ?_
            refine zs_get (pc := 63) t343_63 (by decide) (zk1 (hs.k fk_zMm_336)) (zfvi rfl rfl) ?_
            obtain ⟨w132v, w132⟩ : ∃ v, (4 : Int32) * (zI M 336 47) = v := ⟨_, rfl⟩
            have w132g : w132v.toInt = 4 * (zI M 336 47).toInt := by rw [← w132]; exact zmulc li4 rfl (by omega) (by omega)
            refine zs_imul (pc := 66) t343_66 (c := w132v) w132 ?_
            refine zs_istore_n (pc := 67) t343_67 (ls' := [(3, .int w132v), (2, .int (1 : Int32)), (1, .int w5v), (0, .ref 336)]) (zml mf343 (by decide)) rfl ?_
            refine zs_aload_n (pc := 68) t343_68 rfl ?_
            refine zs_get (pc := 69) t343_69 (by decide) (zk1 (hs.k fk_zMm_336)) (hs.p rfl fv_zMm_336_46) ?_
            refine zs_iload_n (pc := 72) t343_72 rfl ?_
            refine zs_iload_n (pc := 73) t343_73 rfl ?_
            obtain ⟨w133n, w133⟩ : ∃ n : Nat, (zI M 336 47).toInt = (n : Int) := ⟨((zI M 336 47).toInt).toNat, by omega⟩
            have w134 : zIv mLo mHi (zsI M 362 (4 * w133n) w5v) := zIv.put hI (show (-2147483648) ≤ w5v.toInt ∧ w5v.toInt ≤ 2147483647 from zrg w5v)
            refine zs_iast (pc := 74) t343_74 (j := (4 * w133n)) (by decide) (zk1 (hs.k fk_zMm_362)) (show w132v.toInt = (((4 * w133n) : Nat) : Int) by omega) (zk2 (hs.k fk_zMm_362) (by omega)) ?_
            refine zs_aload_n (pc := 75) t343_75 rfl ?_
            refine zs_dup (pc := 76) t343_76 rfl ?_
            refine zs_get (pc := 77) t343_77 (by decide) (zk1 (hs.k fk_zMm_336)) (zfvi rfl ((zIo (by decide)).trans rfl)) ?_
            refine zs_iconst (pc := 80) t343_80 (v := 1) (by decide) ?_
            obtain ⟨w135v, w135e, w135⟩ := ziadd (a := (zI M 336 6)) (b := (1 : Int32)) rfl li1 (by omega) (by omega)
            refine zs_iadd (pc := 81) t343_81 (c := w135v) w135e ?_
            have w136 : zIv mLo mHi (zsI (zsI M 362 (4 * w133n) w5v) 336 6 w135v) := zIv.put w134 (show 0 ≤ w135v.toInt ∧ w135v.toInt ≤ 500 from ⟨by omega, by omega⟩)
            refine zs_putI (pc := 82) t343_82 (zk1 (hs.k fk_zMm_336)) rfl ?_
            refine zs_iconst (pc := 85) t343_85 (v := 1) (by decide) ?_
            refine zs_istore (pc := 86) t343_86 (ls' := [(4, .int (1 : Int32)), (3, .int w132v), (2, .int (1 : Int32)), (1, .int w5v), (0, .ref 336)]) (zml mf343 (by decide)) rfl ?_
            have w137L : ∀ (m : Nat) (w137x4 : Int32) (w137M : zM), (1 ≤ w137x4.toInt ∧ w137x4.toInt ≤ 4) → zSk zMm w137M → zIv mLo mHi w137M → zFr [(336, 336, some 6), (336, 336, some 7), (336, 336, some 8), (362, 362, none)] (zsI (zsI M 362 (4 * w133n) w5v) 336 6 w135v) w137M → zJ w137M 351 = zJ (zsI (zsI M 362 (4 * w133n) w5v) 336 6 w135v) 351 → ((zI w137M 336 47).toInt = (zI (zsI (zsI M 362 (4 * w133n) w5v) 336 6 w135v) 336 47).toInt) → ((zI (zsI (zsI M 362 (4 * w133n) w5v) 336 6 w135v) 336 6).toInt ≤ (zI w137M 336 6).toInt) → ((zI w137M 336 7).toInt = (zI (zsI (zsI M 362 (4 * w133n) w5v) 336 6 w135v) 336 7).toInt) → 4 - w137x4.toInt ≤ (m : Int) → zGo X l 3 0 0 343 88 [(0, .ref 336), (1, .int w5v), (2, .int (1 : Int32)), (3, .int w132v), (4, .int w137x4)] [] w137M Q := by
              intro m
              induction m using Nat.strongRecOn with
              | ind w137m w137ih =>
                intro w137x4 w137M w137b4 w137s w137I w137F w137J w137r0 w137r1 w137r2 w137q
                have w138 : (zI (zsI (zsI M 362 (4 * w133n) w5v) 336 6 w135v) 336 47).toInt = (zI M 336 47).toInt := (congrArg Int32.toInt ((zIoj (by decide)).trans ((zIo (by decide)).trans rfl))).trans rfl
                have w139 := ib336_6 w137I
                have w140 : (zI (zsI (zsI M 362 (4 * w133n) w5v) 336 6 w135v) 336 6).toInt = ((zI M 336 6).toInt + 1) := (congrArg Int32.toInt zIs).trans w135
                have w141 := ib336_7 w137I
                have w142 := ib336_7 hI
                have w143 : (zI (zsI (zsI M 362 (4 * w133n) w5v) 336 6 w135v) 336 7).toInt = (zI M 336 7).toInt := (congrArg Int32.toInt ((zIoj (by decide)).trans ((zIo (by decide)).trans rfl))).trans rfl
                refine zs_iload (pc := 88) t343_88 rfl ?_
                refine zs_iload_n (pc := 90) t343_90 rfl ?_
                by_cases w144 : 1 < w137x4.toInt
                · refine zs_icmp_gtT (pc := 91) t343_91 rfl li1 (by omega) ?_
                  refine zs_aload_n (pc := 148) t343_148 rfl ?_
                  refine zs_dup (pc := 149) t343_149 rfl ?_
                  refine zs_get (pc := 150) t343_150 (by decide) (zk1 (w137s.k fk_zMm_336)) (zfvi rfl ((w137F 336 47 rfl).trans ((zIoj (by decide)).trans ((zIo (by decide)).trans rfl)))) ?_
                  refine zs_iconst (pc := 153) t343_153 (v := 1) (by decide) ?_
                  obtain ⟨w145v, w145e, w145⟩ := ziadd (a := (zI M 336 47)) (b := (1 : Int32)) rfl li1 (by omega) (by omega)
                  refine zs_iadd (pc := 154) t343_154 (c := w145v) w145e ?_
                  have w146 : zIv mLo mHi (zsI w137M 336 47 w145v) := zIv.put w137I (show 0 ≤ w145v.toInt ∧ w145v.toInt ≤ 20 from ⟨by omega, by omega⟩)
                  refine zs_putI (pc := 155) t343_155 (zk1 (w137s.k fk_zMm_336)) rfl ?_
                  refine zs_iconst (pc := 158) t343_158 (v := 1) (by decide) ?_
                  have w147 : (zI (zsI w137M 336 47 w145v) 336 6).toInt = (zI w137M 336 6).toInt := (congrArg Int32.toInt ((zIoj (by decide)).trans rfl)).trans rfl
                  have w148 : (zI (zsI w137M 336 47 w145v) 336 7).toInt = (zI w137M 336 7).toInt := (congrArg Int32.toInt ((zIoj (by decide)).trans rfl)).trans rfl
                  have w149 := li1
                  exact zs_iret (pc := 159) t343_159 mr343 (by decide) (hQ _ _ w137s w146 (((((zFr.refl).put rfl).put rfl).trans (w137F.mono rfl)).put rfl) w137J (by omega) (by decide) (by decide))
                · refine zs_icmp_gtF (pc := 91) t343_91 rfl li1 (by omega) ?_
                  refine zs_aload_n (pc := 94) t343_94 rfl ?_
                  refine zs_sipush (pc := 95) t343_95 (v := -9999) (by decide) ?_
                  refine zs_sipush (pc := 98) t343_98 (v := 9999) (by decide) ?_
                  have w150 : (-9999 : Int32).toInt = (-9999) := lin9999
                  have w151 : (9999 : Int32).toInt = 9999 := li9999
                  have w152 : (zI w137M 336 6).toInt = (zI w137M 336 6).toInt := (congrArg Int32.toInt rfl).trans rfl
                  have w153 : (zI w137M 336 7).toInt = (zI w137M 336 7).toInt := (congrArg Int32.toInt rfl).trans rfl
                  refine zs_invV (pc := 101) (k := 336) (as' := [.int (-9999 : Int32), .int (9999 : Int32)]) (st := []) t343_101 mf243 rfl rfl (Or.inl ⟨by decide, (zk1 (w137s.k fk_zMm_336))⟩) ⟨by decide, by decide, Nat.le_of_ble_eq_true rfl, Nat.le_of_ble_eq_true rfl⟩ (K243 w137s w137I ?_) (fun _ _ q => q)
                  intro w154M w154v w154s w154I w154F w154J w154t0 w154t1 w154t2 w154a w154b
                  have w155 := ib336_6 w154I
                  have w156 := ib336_7 w154I
                  have w157 := zrg (zI w154M 336 8)
                  show zGo X l 3 0 0 343 104 [(0, .ref 336), (1, .int w5v), (2, .int (1 : Int32)), (3, .int w132v), (4, .int w137x4)] [.int w154v] w154M _
                  by_cases w158 : w154v.toInt = 0
                  · refine zs_if_eqT (pc := 104) t343_104 rfl (by omega) ?_
                    refine zs_iconst (pc := 127) t343_127 (v := 0) (by decide) ?_
                    have w159 : (zI w154M 336 6).toInt = (zI w154M 336 6).toInt := (congrArg Int32.toInt rfl).trans rfl
                    have w160 : (zI w154M 336 7).toInt = (zI w154M 336 7).toInt := (congrArg Int32.toInt rfl).trans rfl
                    have w161 := li0
                    exact zs_iret (pc := 128) t343_128 mr343 (by decide) (hQ _ _ w154s w154I (((((zFr.refl).put rfl).put rfl).trans (w137F.mono rfl)).trans (w154F.mono rfl)) (w154J.trans w137J) (by omega) (by decide) (by decide))
                  · refine zs_if_eqF (pc := 104) t343_104 rfl (by omega) ?_
                    refine zs_aload_n (pc := 107) t343_107 rfl ?_
                    refine zs_iload (pc := 108) t343_108 rfl ?_
                    refine zs_iload_n (pc := 110) t343_110 rfl ?_
                    refine zs_icmp_neF (pc := 111) t343_111 rfl li1 (by omega) ?_
                    refine zs_bipush (pc := 114) t343_114 (v := 59) (by decide) ?_
                    refine zs_goto (pc := 116) t343_116 ?_
                    have w162 : (59 : Int32).toInt = 59 := li59
                    have w163 : (zI w154M 336 6).toInt = (zI w154M 336 6).toInt := (congrArg Int32.toInt rfl).trans rfl
                    have w164 : (zI w154M 336 7).toInt = (zI w154M 336 7).toInt := (congrArg Int32.toInt rfl).trans rfl
                    refine zs_invV (pc := 121) (k := 336) (as' := [.int (59 : Int32)]) (st := []) t343_121 mf246 rfl rfl (Or.inl ⟨by decide, (zk1 (w154s.k fk_zMm_336))⟩) ⟨by decide, by decide, Nat.le_of_ble_eq_true rfl, Nat.le_of_ble_eq_true rfl⟩ (K246 w154s w154I ⟨by decide, by decide⟩ ?_) (fun _ _ q => q)
                    intro w165M w165v w165s w165I w165F w165J w165t0 w165t1 w165a w165b
                    have w166 := ib336_6 w165I
                    have w167 := ib336_7 w165I
                    show zGo X l 3 0 0 343 124 [(0, .ref 336), (1, .int w5v), (2, .int (1 : Int32)), (3, .int w132v), (4, .int w137x4)] [.int w165v] w165M _
                    by_cases w168 : w165v.toInt ≠ 0
                    · refine zs_if_neT (pc := 124) t343_124 rfl (by omega) ?_
                      refine zs_aload_n (pc := 129) t343_129 rfl ?_
                      refine zs_get (pc := 130) t343_130 (by decide) (zk1 (w165s.k fk_zMm_336)) (w165s.p rfl fv_zMm_336_46) ?_
                      refine zs_iload_n (pc := 133) t343_133 rfl ?_
                      refine zs_iload (pc := 134) t343_134 rfl ?_
                      obtain ⟨w169v, w169e, w169⟩ := ziadd (a := w132v) (b := w137x4) w132g rfl (by omega) (by omega)
                      refine zs_iadd (pc := 136) t343_136 (c := w169v) w169e ?_
                      refine zs_aload_n (pc := 137) t343_137 rfl ?_
                      refine zs_get (pc := 138) t343_138 (by decide) (zk1 (w165s.k fk_zMm_336)) (zfvi rfl ((w165F 336 8 rfl).trans rfl)) ?_
                      obtain ⟨w170n, w170⟩ : ∃ n : Nat, w137x4.toInt = (n : Int) := ⟨(w137x4.toInt).toNat, by omega⟩
                      have w171 : zIv mLo mHi (zsI w165M 362 (4 * w133n + w170n) (zI w154M 336 8)) := zIv.put w165I (show (-2147483648) ≤ (zI w154M 336 8).toInt ∧ (zI w154M 336 8).toInt ≤ 2147483647 from zrg (zI w154M 336 8))
                      refine zs_iast (pc := 141) t343_141 (j := (4 * w133n + w170n)) (by decide) (zk1 (w165s.k fk_zMm_362)) (show w169v.toInt = (((4 * w133n + w170n) : Nat) : Int) by omega) (zk2 (w165s.k fk_zMm_362) (by omega)) ?_
                      obtain ⟨w172v, w172e, w172⟩ := ziadd (a := w137x4) (b := Int32.ofInt 1) rfl (show (Int32.ofInt 1).toInt = 1 by decide) (by omega) (by omega)
                      refine zs_iinc (pc := 142) t343_142 (ls' := [(4, .int w172v), (0, .ref 336), (1, .int w5v), (2, .int (1 : Int32)), (3, .int w132v)]) (zml mf343 (by decide)) rfl (c := w172v) w172e rfl ?_
                      refine zs_goto (pc := 145) t343_145 ?_
                      refine zGo.locals (ls' := [(0, .ref 336), (1, .int w5v), (2, .int (1 : Int32)), (3, .int w132v), (4, .int w172v)]) (by simp) ?_
                      have w173 := w172
                      have w174 : (zI (zsI w165M 362 (4 * w133n + w170n) (zI w154M 336 8)) 336 47).toInt = (zI M 336 47).toInt := (congrArg Int32.toInt ((zIo (by decide)).trans ((w165F 336 47 rfl).trans ((w154F 336 47 rfl).trans ((w137F 336 47 rfl).trans ((zIoj (by decide)).trans ((zIo (by decide)).trans rfl))))))).trans rfl
                      have w175 : (zI (zsI w165M 362 (4 * w133n + w170n) (zI w154M 336 8)) 336 6).toInt = (zI w165M 336 6).toInt := (congrArg Int32.toInt ((zIo (by decide)).trans rfl)).trans rfl
                      have w176 : (zI (zsI w165M 362 (4 * w133n + w170n) (zI w154M 336 8)) 336 7).toInt = (zI w165M 336 7).toInt := (congrArg Int32.toInt ((zIo (by decide)).trans rfl)).trans rfl
                      exact w137ih (w137m - 1) (by omega) w172v (zsI w165M 362 (4 * w133n + w170n) (zI w154M 336 8)) ⟨by omega, by omega⟩ w165s w171 (((((zFr.refl).trans (w137F.mono rfl)).trans (w154F.mono rfl)).trans (w165F.mono rfl)).put rfl) (w165J.trans (w154J.trans w137J)) (by omega) (by omega) (by omega) (by omega)
                    · refine zs_if_neF (pc := 124) t343_124 rfl (by omega) ?_
                      refine zs_iconst (pc := 127) t343_127 (v := 0) (by decide) ?_
                      have w177 : (zI w165M 336 6).toInt = (zI w165M 336 6).toInt := (congrArg Int32.toInt rfl).trans rfl
                      have w178 : (zI w165M 336 7).toInt = (zI w165M 336 7).toInt := (congrArg Int32.toInt rfl).trans rfl
                      have w179 := li0
                      exact zs_iret (pc := 128) t343_128 mr343 (by decide) (hQ _ _ w165s w165I ((((((zFr.refl).put rfl).put rfl).trans (w137F.mono rfl)).trans (w154F.mono rfl)).trans (w165F.mono rfl)) (w165J.trans (w154J.trans w137J)) (by omega) (by decide) (by decide))
            refine zGo.locals (ls' := [(0, .ref 336), (1, .int w5v), (2, .int (1 : Int32)), (3, .int w132v), (4, .int (1 : Int32))]) (by simp) ?_
            have w180 := li1
            have w181 : (zI (zsI (zsI M 362 (4 * w133n) w5v) 336 6 w135v) 336 47).toInt = (zI M 336 47).toInt := (congrArg Int32.toInt ((zIoj (by decide)).trans ((zIo (by decide)).trans rfl))).trans rfl
            have w182 : (zI (zsI (zsI M 362 (4 * w133n) w5v) 336 6 w135v) 336 6).toInt = ((zI M 336 6).toInt + 1) := (congrArg Int32.toInt zIs).trans w135
            have w183 : (zI (zsI (zsI M 362 (4 * w133n) w5v) 336 6 w135v) 336 7).toInt = (zI M 336 7).toInt := (congrArg Int32.toInt ((zIoj (by decide)).trans ((zIo (by decide)).trans rfl))).trans rfl
            exact w137L ((4 - 1 : Int).toNat) (1 : Int32) (zsI (zsI M 362 (4 * w133n) w5v) 336 6 w135v) ⟨by decide, by decide⟩ hs w136 zFr.refl rfl (by omega) (by omega) (by omega) (by omega)
          · refine zs_icmp_neF (pc := 49) t343_49 rfl li20 (by omega) ?_
            refine zs_aload_n (pc := 52) t343_52 rfl ?_
            refine zs_aload_n (pc := 53) t343_53 rfl ?_
            refine zs_get (pc := 54) t343_54 (by decide) (zk1 (hs.k fk_zMm_336)) (zfvi rfl rfl) ?_
            refine zs_invV (pc := 57) (k := 336) (as' := [.int (zI M 336 6)]) (st := []) t343_57 mf239 rfl rfl (Or.inl ⟨by decide, (zk1 (hs.k fk_zMm_336))⟩) ⟨by decide, by decide, Nat.le_of_ble_eq_true rfl, Nat.le_of_ble_eq_true rfl⟩ (zs_in (by decide) mf239 (Nat.le_of_ble_eq_true rfl) ?_) (fun _ _ q => q)
            show zGo X l 0 0 0 239 0 [(0, .ref 336), (1, .int (zI M 336 6))] [] M _
            refine zs_aload_n (pc := 0) t239_0 rfl ?_
            refine zs_iload_n (pc := 1) t239_1 rfl ?_
            have w184 : zIv mLo mHi (zsI M 336 7 (zI M 336 6)) := zIv.put hI (show (-1) ≤ (zI M 336 6).toInt ∧ (zI M 336 6).toInt ≤ 500 from ⟨by omega, by omega⟩)
            refine zs_putI (pc := 2) t239_2 (zk1 (hs.k fk_zMm_336)) rfl ?_
            refine zs_iconst (pc := 5) t239_5 (v := 0) (by decide) ?_
            refine zs_iret (pc := 6) t239_6 mr239 (by decide) ?_
            show zGo X l 3 0 0 343 60 [(2, .int (1 : Int32)), (1, .int w5v), (0, .ref 336)] [.int (0 : Int32)] (zsI M 336 7 (zI M 336 6)) _
            have w185 : (zI (zsI M 336 7 (zI M 336 6)) 336 6).toInt = (zI M 336 6).toInt := (congrArg Int32.toInt ((zIoj (by decide)).trans rfl)).trans rfl
            have w186 : (zI (zsI M 336 7 (zI M 336 6)) 336 7).toInt = (zI M 336 6).toInt := (congrArg Int32.toInt zIs).trans rfl
            have w187 := li0
            exact zs_iret (pc := 60) t343_60 mr343 (by decide) (hQ _ _ hs w184 ((zFr.refl).put rfl) rfl (by omega) (by decide) (by decide))
  · refine zs_icmp_neF (pc := 8) t343_8 rfl li104 (by omega) ?_
    refine zs_iconst (pc := 11) t343_11 (v := 3) (by decide) ?_
    refine zs_goto (pc := 12) t343_12 ?_
    refine zs_istore_n (pc := 38) t343_38 (ls' := [(2, .int (3 : Int32)), (1, .int w5v), (0, .ref 336)]) (zml mf343 (by decide)) rfl ?_
    refine zs_iload_n (pc := 39) t343_39 rfl ?_
    refine zs_if_eqF (pc := 40) t343_40 li3 (by decide) ?_
    refine zs_aload_n (pc := 43) t343_43 rfl ?_
    have w188 := ib336_47 hI
    refine zs_get (pc := 44) t343_44 (by decide) (zk1 (hs.k fk_zMm_336)) (zfvi rfl rfl) ?_
    refine zs_bipush (pc := 47) t343_47 (v := 20) (by decide) ?_
    by_cases w189 : (zI M 336 47).toInt ≠ 20
    · refine zs_icmp_neT (pc := 49) t343_49 rfl li20 (by omega) ?_
      refine zs_iconst (pc := 61) t343_61 (v := 4) (by decide) ?_
      refine zs_aload_n (pc := 62) t343_62 rfl ?_
      refine zs_get (pc := 63) t343_63 (by decide) (zk1 (hs.k fk_zMm_336)) (zfvi rfl rfl) ?_
      obtain ⟨w190v, w190⟩ : ∃ v, (4 : Int32) * (zI M 336 47) = v := ⟨_, rfl⟩
      have w190g : w190v.toInt = 4 * (zI M 336 47).toInt := by rw [← w190]; exact zmulc li4 rfl (by omega) (by omega)
      refine zs_imul (pc := 66) t343_66 (c := w190v) w190 ?_
      refine zs_istore_n (pc := 67) t343_67 (ls' := [(3, .int w190v), (2, .int (3 : Int32)), (1, .int w5v), (0, .ref 336)]) (zml mf343 (by decide)) rfl ?_
      refine zs_aload_n (pc := 68) t343_68 rfl ?_
      refine zs_get (pc := 69) t343_69 (by decide) (zk1 (hs.k fk_zMm_336)) (hs.p rfl fv_zMm_336_46) ?_
      refine zs_iload_n (pc := 72) t343_72 rfl ?_
      refine zs_iload_n (pc := 73) t343_73 rfl ?_
      obtain ⟨w191n, w191⟩ : ∃ n : Nat, (zI M 336 47).toInt = (n : Int) := ⟨((zI M 336 47).toInt).toNat, by omega⟩
      have w192 : zIv mLo mHi (zsI M 362 (4 * w191n) w5v) := zIv.put hI (show (-2147483648) ≤ w5v.toInt ∧ w5v.toInt ≤ 2147483647 from zrg w5v)
      refine zs_iast (pc := 74) t343_74 (j := (4 * w191n)) (by decide) (zk1 (hs.k fk_zMm_362)) (show w190v.toInt = (((4 * w191n) : Nat) : Int) by omega) (zk2 (hs.k fk_zMm_362) (by omega)) ?_
      refine zs_aload_n (pc := 75) t343_75 rfl ?_
      refine zs_dup (pc := 76) t343_76 rfl ?_
      refine zs_get (pc := 77) t343_77 (by decide) (zk1 (hs.k fk_zMm_336)) (zfvi rfl ((zIo (by decide)).trans rfl)) ?_
      refine zs_iconst (pc := 80) t343_80 (v := 1) (by decide) ?_
      obtain ⟨w193v, w193e, w193⟩ := ziadd (a := (zI M 336 6)) (b := (1 : Int32)) rfl li1 (by omega) (by omega)
      refine zs_iadd (pc := 81) t343_81 (c := w193v) w193e ?_
      have w194 : zIv mLo mHi (zsI (zsI M 362 (4 * w191n) w5v) 336 6 w193v) := zIv.put w192 (show 0 ≤ w193v.toInt ∧ w193v.toInt ≤ 500 from ⟨by omega, by omega⟩)
      refine zs_putI (pc := 82) t343_82 (zk1 (hs.k fk_zMm_336)) rfl ?_
      refine zs_iconst (pc := 85) t343_85 (v := 1) (by decide) ?_
      refine zs_istore (pc := 86) t343_86 (ls' := [(4, .int (1 : Int32)), (3, .int w190v), (2, .int (3 : Int32)), (1, .int w5v), (0, .ref 336)]) (zml mf343 (by decide)) rfl ?_
      have w195L : ∀ (m : Nat) (w195x4 : Int32) (w195M : zM), (1 ≤ w195x4.toInt ∧ w195x4.toInt ≤ 4) → zSk zMm w195M → zIv mLo mHi w195M → zFr [(336, 336, some 6), (336, 336, some 7), (336, 336, some 8), (362, 362, none)] (zsI (zsI M 362 (4 * w191n) w5v) 336 6 w193v) w195M → zJ w195M 351 = zJ (zsI (zsI M 362 (4 * w191n) w5v) 336 6 w193v) 351 → ((zI w195M 336 47).toInt = (zI (zsI (zsI M 362 (4 * w191n) w5v) 336 6 w193v) 336 47).toInt) → ((zI (zsI (zsI M 362 (4 * w191n) w5v) 336 6 w193v) 336 6).toInt ≤ (zI w195M 336 6).toInt) → ((zI w195M 336 7).toInt = (zI (zsI (zsI M 362 (4 * w191n) w5v) 336 6 w193v) 336 7).toInt) → 4 - w195x4.toInt ≤ (m : Int) → zGo X l 3 0 0 343 88 [(0, .ref 336), (1, .int w5v), (2, .int (3 : Int32)), (3, .int w190v), (4, .int w195x4)] [] w195M Q := by
        intro m
        induction m using Nat.strongRecOn with
        | ind w195m w195ih =>
          intro w195x4 w195M w195b4 w195s w195I w195F w195J w195r0 w195r1 w195r2 w195q
          have w196 : (zI (zsI (zsI M 362 (4 * w191n) w5v) 336 6 w193v) 336 47).toInt = (zI M 336 47).toInt := (congrArg Int32.toInt ((zIoj (by decide)).trans ((zIo (by decide)).trans rfl))).trans rfl
          have w197 := ib336_6 w195I
          have w198 : (zI (zsI (zsI M 362 (4 * w191n) w5v) 336 6 w193v) 336 6).toInt = ((zI M 336 6).toInt + 1) := (congrArg Int32.toInt zIs).trans w193
          have w199 := ib336_7 w195I
          have w200 := ib336_7 hI
          have w201 : (zI (zsI (zsI M 362 (4 * w191n) w5v) 336 6 w193v) 336 7).toInt = (zI M 336 7).toInt := (congrArg Int32.toInt ((zIoj (by decide)).trans ((zIo (by decide)).trans rfl))).trans rfl
          refine zs_iload (pc := 88) t343_88 rfl ?_
          refine zs_iload_n (pc := 90) t343_90 rfl ?_
          by_cases w202 : 3 < w195x4.toInt
          · refine zs_icmp_gtT (pc := 91) t343_91 rfl li3 (by omega) ?_
            refine zs_aload_n (pc := 148) t343_148 rfl ?_
            refine zs_dup (pc := 149) t343_149 rfl ?_
            refine zs_get (pc := 150) t343_150 (by decide) (zk1 (w195s.k fk_zMm_336)) (zfvi rfl ((w195F 336 47 rfl).trans ((zIoj (by decide)).trans ((zIo (by decide)).trans rfl)))) ?_
            refine zs_iconst (pc := 153) t343_153 (v := 1) (by decide) ?_
            obtain ⟨w203v, w203e, w203⟩ := ziadd (a := (zI M 336 47)) (b := (1 : Int32)) rfl li1 (by omega) (by omega)
            refine zs_iadd (pc := 154) t343_154 (c := w203v) w203e ?_
            have w204 : zIv mLo mHi (zsI w195M 336 47 w203v) := zIv.put w195I (show 0 ≤ w203v.toInt ∧ w203v.toInt ≤ 20 from ⟨by omega, by omega⟩)
            refine zs_putI (pc := 155) t343_155 (zk1 (w195s.k fk_zMm_336)) rfl ?_
            refine zs_iconst (pc := 158) t343_158 (v := 1) (by decide) ?_
            have w205 : (zI (zsI w195M 336 47 w203v) 336 6).toInt = (zI w195M 336 6).toInt := (congrArg Int32.toInt ((zIoj (by decide)).trans rfl)).trans rfl
            have w206 : (zI (zsI w195M 336 47 w203v) 336 7).toInt = (zI w195M 336 7).toInt := (congrArg Int32.toInt ((zIoj (by decide)).trans rfl)).trans rfl
            have w207 := li1
            exact zs_iret (pc := 159) t343_159 mr343 (by decide) (hQ _ _ w195s w204 (((((zFr.refl).put rfl).put rfl).trans (w195F.mono rfl)).put rfl) w195J (by omega) (by decide) (by decide))
          · refine zs_icmp_gtF (pc := 91) t343_91 rfl li3 (by omega) ?_
            refine zs_aload_n (pc := 94) t343_94 rfl ?_
            refine zs_sipush (pc := 95) t343_95 (v := -9999) (by decide) ?_
            refine zs_sipush (pc := 98) t343_98 (v := 9999) (by decide) ?_
            have w208 : (-9999 : Int32).toInt = (-9999) := lin9999
            have w209 : (9999 : Int32).toInt = 9999 := li9999
            have w210 : (zI w195M 336 6).toInt = (zI w195M 336 6).toInt := (congrArg Int32.toInt rfl).trans rfl
            have w211 : (zI w195M 336 7).toInt = (zI w195M 336 7).toInt := (congrArg Int32.toInt rfl).trans rfl
            refine zs_invV (pc := 101) (k := 336) (as' := [.int (-9999 : Int32), .int (9999 : Int32)]) (st := []) t343_101 mf243 rfl rfl (Or.inl ⟨by decide, (zk1 (w195s.k fk_zMm_336))⟩) ⟨by decide, by decide, Nat.le_of_ble_eq_true rfl, Nat.le_of_ble_eq_true rfl⟩ (K243 w195s w195I ?_) (fun _ _ q => q)
            intro w212M w212v w212s w212I w212F w212J w212t0 w212t1 w212t2 w212a w212b
            have w213 := ib336_6 w212I
            have w214 := ib336_7 w212I
            have w215 := zrg (zI w212M 336 8)
            show zGo X l 3 0 0 343 104 [(0, .ref 336), (1, .int w5v), (2, .int (3 : Int32)), (3, .int w190v), (4, .int w195x4)] [.int w212v] w212M _
            by_cases w216 : w212v.toInt = 0
            · refine zs_if_eqT (pc := 104) t343_104 rfl (by omega) ?_
              refine zs_iconst (pc := 127) t343_127 (v := 0) (by decide) ?_
              have w217 : (zI w212M 336 6).toInt = (zI w212M 336 6).toInt := (congrArg Int32.toInt rfl).trans rfl
              have w218 : (zI w212M 336 7).toInt = (zI w212M 336 7).toInt := (congrArg Int32.toInt rfl).trans rfl
              have w219 := li0
              exact zs_iret (pc := 128) t343_128 mr343 (by decide) (hQ _ _ w212s w212I (((((zFr.refl).put rfl).put rfl).trans (w195F.mono rfl)).trans (w212F.mono rfl)) (w212J.trans w195J) (by omega) (by decide) (by decide))
            · refine zs_if_eqF (pc := 104) t343_104 rfl (by omega) ?_
              refine zs_aload_n (pc := 107) t343_107 rfl ?_
              refine zs_iload (pc := 108) t343_108 rfl ?_
              refine zs_iload_n (pc := 110) t343_110 rfl ?_
              by_cases w220 : w195x4.toInt ≠ 3
              · refine zs_icmp_neT (pc := 111) t343_111 rfl li3 (by omega) ?_
                refine zs_bipush (pc := 119) t343_119 (v := 44) (by decide) ?_
                have w221 : (44 : Int32).toInt = 44 := li44
                have w222 : (zI w212M 336 6).toInt = (zI w212M 336 6).toInt := (congrArg Int32.toInt rfl).trans rfl
                have w223 : (zI w212M 336 7).toInt = (zI w212M 336 7).toInt := (congrArg Int32.toInt rfl).trans rfl
                refine zs_invV (pc := 121) (k := 336) (as' := [.int (44 : Int32)]) (st := []) t343_121 mf246 rfl rfl (Or.inl ⟨by decide, (zk1 (w212s.k fk_zMm_336))⟩) ⟨by decide, by decide, Nat.le_of_ble_eq_true rfl, Nat.le_of_ble_eq_true rfl⟩ (K246 w212s w212I ⟨by decide, by decide⟩ ?_) (fun _ _ q => q)
                intro w224M w224v w224s w224I w224F w224J w224t0 w224t1 w224a w224b
                have w225 := ib336_6 w224I
                have w226 := ib336_7 w224I
                show zGo X l 3 0 0 343 124 [(0, .ref 336), (1, .int w5v), (2, .int (3 : Int32)), (3, .int w190v), (4, .int w195x4)] [.int w224v] w224M _
                by_cases w227 : w224v.toInt ≠ 0
                · refine zs_if_neT (pc := 124) t343_124 rfl (by omega) ?_
                  refine zs_aload_n (pc := 129) t343_129 rfl ?_
                  refine zs_get (pc := 130) t343_130 (by decide) (zk1 (w224s.k fk_zMm_336)) (w224s.p rfl fv_zMm_336_46) ?_
                  refine zs_iload_n (pc := 133) t343_133 rfl ?_
                  refine zs_iload (pc := 134) t343_134 rfl ?_
                  obtain ⟨w228v, w228e, w228⟩ := ziadd (a := w190v) (b := w195x4) w190g rfl (by omega) (by omega)
                  refine zs_iadd (pc := 136) t343_136 (c := w228v) w228e ?_
                  refine zs_aload_n (pc := 137) t343_137 rfl ?_
                  refine zs_get (pc := 138) t343_138 (by decide) (zk1 (w224s.k fk_zMm_336)) (zfvi rfl ((w224F 336 8 rfl).trans rfl)) ?_
                  obtain ⟨w229n, w229⟩ : ∃ n : Nat, w195x4.toInt = (n : Int) := ⟨(w195x4.toInt).toNat, by omega⟩
                  have w230 : zIv mLo mHi (zsI w224M 362 (4 * w191n + w229n) (zI w212M 336 8)) := zIv.put w224I (show (-2147483648) ≤ (zI w212M 336 8).toInt ∧ (zI w212M 336 8).toInt ≤ 2147483647 from zrg (zI w212M 336 8))
                  refine zs_iast (pc := 141) t343_141 (j := (4 * w191n + w229n)) (by decide) (zk1 (w224s.k fk_zMm_362)) (show w228v.toInt = (((4 * w191n + w229n) : Nat) : Int) by omega) (zk2 (w224s.k fk_zMm_362) (by omega)) ?_
                  obtain ⟨w231v, w231e, w231⟩ := ziadd (a := w195x4) (b := Int32.ofInt 1) rfl (show (Int32.ofInt 1).toInt = 1 by decide) (by omega) (by omega)
                  refine zs_iinc (pc := 142) t343_142 (ls' := [(4, .int w231v), (0, .ref 336), (1, .int w5v), (2, .int (3 : Int32)), (3, .int w190v)]) (zml mf343 (by decide)) rfl (c := w231v) w231e rfl ?_
                  refine zs_goto (pc := 145) t343_145 ?_
                  refine zGo.locals (ls' := [(0, .ref 336), (1, .int w5v), (2, .int (3 : Int32)), (3, .int w190v), (4, .int w231v)]) (by simp) ?_
                  have w232 := w231
                  have w233 : (zI (zsI w224M 362 (4 * w191n + w229n) (zI w212M 336 8)) 336 47).toInt = (zI M 336 47).toInt := (congrArg Int32.toInt ((zIo (by decide)).trans ((w224F 336 47 rfl).trans ((w212F 336 47 rfl).trans ((w195F 336 47 rfl).trans ((zIoj (by decide)).trans ((zIo (by decide)).trans rfl))))))).trans rfl
                  have w234 : (zI (zsI w224M 362 (4 * w191n + w229n) (zI w212M 336 8)) 336 6).toInt = (zI w224M 336 6).toInt := (congrArg Int32.toInt ((zIo (by decide)).trans rfl)).trans rfl
                  have w235 : (zI (zsI w224M 362 (4 * w191n + w229n) (zI w212M 336 8)) 336 7).toInt = (zI w224M 336 7).toInt := (congrArg Int32.toInt ((zIo (by decide)).trans rfl)).trans rfl
                  exact w195ih (w195m - 1) (by omega) w231v (zsI w224M 362 (4 * w191n + w229n) (zI w212M 336 8)) ⟨by omega, by omega⟩ w224s w230 (((((zFr.refl).trans (w195F.mono rfl)).trans (w212F.mono rfl)).trans (w224F.mono rfl)).put rfl) (w224J.trans (w212J.trans w195J)) (by omega) (by omega) (by omega) (by omega)
                · refine zs_if_neF (pc := 124) t343_124 rfl (by omega) ?_
                  refine zs_iconst (pc := 127) t343_127 (v := 0) (by decide) ?_
                  have w236 : (zI w224M 336 6).toInt = (zI w224M 336 6).toInt := (congrArg Int32.toInt rfl).trans rfl
                  have w237 : (zI w224M 336 7).toInt = (zI w224M 336 7).toInt := (congrArg Int32.toInt rfl).trans rfl
                  have w238 := li0
                  exact zs_iret (pc := 128) t343_128 mr343 (by decide) (hQ _ _ w224s w224I ((((((zFr.refl).put rfl).put rfl).trans (w195F.mono rfl)).trans (w212F.mono rfl)).trans (w224F.mono rfl)) (w224J.trans (w212J.trans w195J)) (by omega) (by decide) (by decide))
              · refine zs_icmp_neF (pc := 111) t343_111 rfl li3 (by omega) ?_
                refine zs_bipush (pc := 114) t343_114 (v := 59) (by decide) ?_
                refine zs_goto (pc := 116) t343_116 ?_
                have w239 : (59 : Int32).toInt = 59 := li59
                have w240 : (zI w212M 336 6).toInt = (zI w212M 336 6).toInt := (congrArg Int32.toInt rfl).trans rfl
                have w241 : (zI w212M 336 7).toInt = (zI w212M 336 7).toInt := (congrArg Int32.toInt rfl).trans rfl
                refine zs_invV (pc := 121) (k := 336) (as' := [.int (59 : Int32)]) (st := []) t343_121 mf246 rfl rfl (Or.inl ⟨by decide, (zk1 (w212s.k fk_zMm_336))⟩) ⟨by decide, by decide, Nat.le_of_ble_eq_true rfl, Nat.le_of_ble_eq_true rfl⟩ (K246 w212s w212I ⟨by decide, by decide⟩ ?_) (fun _ _ q => q)
                intro w242M w242v w242s w242I w242F w242J w242t0 w242t1 w242a w242b
                have w243 := ib336_6 w242I
                have w244 := ib336_7 w242I
                show zGo X l 3 0 0 343 124 [(0, .ref 336), (1, .int w5v), (2, .int (3 : Int32)), (3, .int w190v), (4, .int w195x4)] [.int w242v] w242M _
                by_cases w245 : w242v.toInt ≠ 0
                · refine zs_if_neT (pc := 124) t343_124 rfl (by omega) ?_
                  refine zs_aload_n (pc := 129) t343_129 rfl ?_
                  refine zs_get (pc := 130) t343_130 (by decide) (zk1 (w242s.k fk_zMm_336)) (w242s.p rfl fv_zMm_336_46) ?_
                  refine zs_iload_n (pc := 133) t343_133 rfl ?_
                  refine zs_iload (pc := 134) t343_134 rfl ?_
                  obtain ⟨w246v, w246e, w246⟩ := ziadd (a := w190v) (b := w195x4) w190g rfl (by omega) (by omega)
                  refine zs_iadd (pc := 136) t343_136 (c := w246v) w246e ?_
                  refine zs_aload_n (pc := 137) t343_137 rfl ?_
                  refine zs_get (pc := 138) t343_138 (by decide) (zk1 (w242s.k fk_zMm_336)) (zfvi rfl ((w242F 336 8 rfl).trans rfl)) ?_
                  obtain ⟨w247n, w247⟩ : ∃ n : Nat, w195x4.toInt = (n : Int) := ⟨(w195x4.toInt).toNat, by omega⟩
                  have w248 : zIv mLo mHi (zsI w242M 362 (4 * w191n + w247n) (zI w212M 336 8)) := zIv.put w242I (show (-2147483648) ≤ (zI w212M 336 8).toInt ∧ (zI w212M 336 8).toInt ≤ 2147483647 from zrg (zI w212M 336 8))
                  refine zs_iast (pc := 141) t343_141 (j := (4 * w191n + w247n)) (by decide) (zk1 (w242s.k fk_zMm_362)) (show w246v.toInt = (((4 * w191n + w247n) : Nat) : Int) by omega) (zk2 (w242s.k fk_zMm_362) (by omega)) ?_
                  obtain ⟨w249v, w249e, w249⟩ := ziadd (a := w195x4) (b := Int32.ofInt 1) rfl (show (Int32.ofInt 1).toInt = 1 by decide) (by omega) (by omega)
                  refine zs_iinc (pc := 142) t343_142 (ls' := [(4, .int w249v), (0, .ref 336), (1, .int w5v), (2, .int (3 : Int32)), (3, .int w190v)]) (zml mf343 (by decide)) rfl (c := w249v) w249e rfl ?_
                  refine zs_goto (pc := 145) t343_145 ?_
                  refine zGo.locals (ls' := [(0, .ref 336), (1, .int w5v), (2, .int (3 : Int32)), (3, .int w190v), (4, .int w249v)]) (by simp) ?_
                  have w250 := w249
                  have w251 : (zI (zsI w242M 362 (4 * w191n + w247n) (zI w212M 336 8)) 336 47).toInt = (zI M 336 47).toInt := (congrArg Int32.toInt ((zIo (by decide)).trans ((w242F 336 47 rfl).trans ((w212F 336 47 rfl).trans ((w195F 336 47 rfl).trans ((zIoj (by decide)).trans ((zIo (by decide)).trans rfl))))))).trans rfl
                  have w252 : (zI (zsI w242M 362 (4 * w191n + w247n) (zI w212M 336 8)) 336 6).toInt = (zI w242M 336 6).toInt := (congrArg Int32.toInt ((zIo (by decide)).trans rfl)).trans rfl
                  have w253 : (zI (zsI w242M 362 (4 * w191n + w247n) (zI w212M 336 8)) 336 7).toInt = (zI w242M 336 7).toInt := (congrArg Int32.toInt ((zIo (by decide)).trans rfl)).trans rfl
                  exact w195ih (w195m - 1) (by omega) w249v (zsI w242M 362 (4 * w191n + w247n) (zI w212M 336 8)) ⟨by omega, by omega⟩ w242s w248 (((((zFr.refl).trans (w195F.mono rfl)).trans (w212F.mono rfl)).trans (w242F.mono rfl)).put rfl) (w242J.trans (w212J.trans w195J)) (by omega) (by omega) (by omega) (by omega)
                · refine zs_if_neF (pc := 124) t343_124 rfl (by omega) ?_
                  refine zs_iconst (pc := 127) t343_127 (v := 0) (by decide) ?_
                  have w254 : (zI w242M 336 6).toInt = (zI w242M 336 6).toInt := (congrArg Int32.toInt rfl).trans rfl
                  have w255 : (zI w242M 336 7).toInt = (zI w242M 336 7).toInt := (congrArg Int32.toInt rfl).trans rfl
                  have w256 := li0
                  exact zs_iret (pc := 128) t343_128 mr343 (by decide) (hQ _ _ w242s w242I ((((((zFr.refl).put rfl).put rfl).trans (w195F.mono rfl)).trans (w212F.mono rfl)).trans (w242F.mono rfl)) (w242J.trans (w212J.trans w195J)) (by omega) (by decide) (by decide))
      refine zGo.locals (ls' := [(0, .ref 336), (1, .int w5v), (2, .int (3 : Int32)), (3, .int w190v), (4, .int (1 : Int32))]) (by simp) ?_
      have w257 := li1
      have w258 : (zI (zsI (zsI M 362 (4 * w191n) w5v) 336 6 w193v) 336 47).toInt = (zI M 336 47).toInt := (congrArg Int32.toInt ((zIoj (by decide)).trans ((zIo (by decide)).trans rfl))).trans rfl
      have w259 : (zI (zsI (zsI M 362 (4 * w191n) w5v) 336 6 w193v) 336 6).toInt = ((zI M 336 6).toInt + 1) := (congrArg Int32.toInt zIs).trans w193
      have w260 : (zI (zsI (zsI M 362 (4 * w191n) w5v) 336 6 w193v) 336 7).toInt = (zI M 336 7).toInt := (congrArg Int32.toInt ((zIoj (by decide)).trans ((zIo (by decide)).trans rfl))).trans rfl
      exact w195L ((4 - 1 : Int).toNat) (1 : Int32) (zsI (zsI M 362 (4 * w191n) w5v) 336 6 w193v) ⟨by decide, by decide⟩ hs w194 zFr.refl rfl (by omega) (by omega) (by omega) (by omega)
    · refine zs_icmp_neF (pc := 49) t343_49 rfl li20 (by omega) ?_
      refine zs_aload_n (pc := 52) t343_52 rfl ?_
      refine zs_aload_n (pc := 53) t343_53 rfl ?_
      refine zs_get (pc := 54) t343_54 (by decide) (zk1 (hs.k fk_zMm_336)) (zfvi rfl rfl) ?_
      refine zs_invV (pc := 57) (k := 336) (as' := [.int (zI M 336 6)]) (st := []) t343_57 mf239 rfl rfl (Or.inl ⟨by decide, (zk1 (hs.k fk_zMm_336))⟩) ⟨by decide, by decide, Nat.le_of_ble_eq_true rfl, Nat.le_of_ble_eq_true rfl⟩ (zs_in (by decide) mf239 (Nat.le_of_ble_eq_true rfl) ?_) (fun _ _ q => q)
      show zGo X l 0 0 0 239 0 [(0, .ref 336), (1, .int (zI M 336 6))] [] M _
      refine zs_aload_n (pc := 0) t239_0 rfl ?_
      refine zs_iload_n (pc := 1) t239_1 rfl ?_
      have w261 : zIv mLo mHi (zsI M 336 7 (zI M 336 6)) := zIv.put hI (show (-1) ≤ (zI M 336 6).toInt ∧ (zI M 336 6).toInt ≤ 500 from ⟨by omega, by omega⟩)
      refine zs_putI (pc := 2) t239_2 (zk1 (hs.k fk_zMm_336)) rfl ?_
      refine zs_iconst (pc := 5) t239_5 (v := 0) (by decide) ?_
      refine zs_iret (pc := 6) t239_6 mr239 (by decide) ?_
      show zGo X l 3 0 0 343 60 [(2, .int (3 : Int32)), (1, .int w5v), (0, .ref 336)] [.int (0 : Int32)] (zsI M 336 7 (zI M 336 6)) _
      have w262 : (zI (zsI M 336 7 (zI M 336 6)) 336 6).toInt = (zI M 336 6).toInt := (congrArg Int32.toInt ((zIoj (by decide)).trans rfl)).trans rfl
      have w263 : (zI (zsI M 336 7 (zI M 336 6)) 336 7).toInt = (zI M 336 6).toInt := (congrArg Int32.toInt zIs).trans rfl
      have w264 := li0
      exact zs_iret (pc := 60) t343_60 mr343 (by decide) (hQ _ _ hs w261 ((zFr.refl).put rfl) rfl (by omega) (by decide) (by decide))
theorem K344 {X : zX} {l : Launch} {M : zM} {Q : Option Value → zM → Prop} {a : Int32} (hs : zSk zMm M) (hI : zIv mLo mHi M) (pR : zPR M) (pC : zPC M) (pF : zPF M) (ha : 0 ≤ a.toInt ∧ a.toInt ≤ 76) (hQ : ∀ (M' : zM) (v : Int32), zSk zMm M' → zIv mLo mHi M' → zFr [(336, 363, none)] M M' → zPR M' → zPC M' → zPF M' → Q (some (.int v)) M') : zCall X l 4 0 0 344 [.ref 336, .int a] M Q := by
  have ga := zrg a
  refine zs_in (by decide) mf344 (Nat.le_of_ble_eq_true rfl) ?_
  show zGo X l 4 0 0 344 0 [(0, .ref 336), (1, .int a)] [] M _
  refine zs_aload_n (pc := 0) t344_0 rfl ?_
  refine zs_get (pc := 1) t344_1 (by decide) (zk1 (hs.k fk_zMm_336)) (hs.p rfl fv_zMm_336_46) ?_
  refine zs_iload_n (pc := 4) t344_4 rfl ?_
  obtain ⟨w1n, w1⟩ : ∃ n : Nat, a.toInt = (n : Int) := ⟨(a.toInt).toNat, by omega⟩
  have w2 := zrg (zI M 362 w1n)
  refine zs_iald (pc := 5) t344_5 (j := w1n) (by decide) (zk1 (hs.k fk_zMm_362)) (show a.toInt = ((w1n : Nat) : Int) by omega) (zk2 (hs.k fk_zMm_362) (by omega)) rfl ?_
  by_cases w3 : (zI M 362 w1n).toInt = 100
  · refine zs_lsw (pc := 6) t344_6 (off := 76) ((rfl : (zI M 362 w1n).toInt = (zI M 362 w1n).toInt).trans w3) rfl (pc2 := 82) rfl ?_
    refine zs_aload_n (pc := 82) t344_82 rfl ?_
    refine zs_aload_n (pc := 83) t344_83 rfl ?_
    refine zs_get (pc := 84) t344_84 (by decide) (zk1 (hs.k fk_zMm_336)) (hs.p rfl fv_zMm_336_46) ?_
    refine zs_iload_n (pc := 87) t344_87 rfl ?_
    refine zs_iconst (pc := 88) t344_88 (v := 1) (by decide) ?_
    obtain ⟨w4v, w4e, w4⟩ := ziadd (a := a) (b := (1 : Int32)) rfl li1 (by omega) (by omega)
    refine zs_iadd (pc := 89) t344_89 (c := w4v) w4e ?_
    have w5 := zrg (zI M 362 (1 + w1n))
    refine zs_iald (pc := 90) t344_90 (j := (1 + w1n)) (by decide) (zk1 (hs.k fk_zMm_362)) (show w4v.toInt = (((1 + w1n) : Nat) : Int) by omega) (zk2 (hs.k fk_zMm_362) (by omega)) rfl ?_
    refine zs_invV (pc := 91) (k := 336) (as' := [.int (zI M 362 (1 + w1n))]) (st := []) t344_91 mf333 rfl rfl (Or.inl ⟨by decide, (zk1 (hs.k fk_zMm_336))⟩) ⟨by decide, by decide, Nat.le_of_ble_eq_true rfl, Nat.le_of_ble_eq_true rfl⟩ (K333 hs hI pR pC pF ?_) (fun _ _ q => q)
    intro w6M w6v w6s w6I w6F w6PR w6PC w6PF
    have w6g := zrg w6v
    show zGo X l 4 0 0 344 94 [(0, .ref 336), (1, .int a)] [.int w6v] w6M _
    exact zs_iret (pc := 94) t344_94 mr344 rfl (hQ _ _ w6s w6I ((zFr.refl).trans (w6F.mono rfl)) w6PR w6PC w6PF)
  by_cases w7 : (zI M 362 w1n).toInt = 104
  · refine zs_lsw (pc := 6) t344_6 (off := 34) ((rfl : (zI M 362 w1n).toInt = (zI M 362 w1n).toInt).trans w7) rfl (pc2 := 40) rfl ?_
    refine zs_aload_n (pc := 40) t344_40 rfl ?_
    refine zs_aload_n (pc := 41) t344_41 rfl ?_
    refine zs_get (pc := 42) t344_42 (by decide) (zk1 (hs.k fk_zMm_336)) (hs.p rfl fv_zMm_336_46) ?_
    refine zs_iload_n (pc := 45) t344_45 rfl ?_
    refine zs_iconst (pc := 46) t344_46 (v := 1) (by decide) ?_
    obtain ⟨w8v, w8e, w8⟩ := ziadd (a := a) (b := (1 : Int32)) rfl li1 (by omega) (by omega)
    refine zs_iadd (pc := 47) t344_47 (c := w8v) w8e ?_
    have w9 := zrg (zI M 362 (1 + w1n))
    refine zs_iald (pc := 48) t344_48 (j := (1 + w1n)) (by decide) (zk1 (hs.k fk_zMm_362)) (show w8v.toInt = (((1 + w1n) : Nat) : Int) by omega) (zk2 (hs.k fk_zMm_362) (by omega)) rfl ?_
    refine zs_aload_n (pc := 49) t344_49 rfl ?_
    refine zs_get (pc := 50) t344_50 (by decide) (zk1 (hs.k fk_zMm_336)) (hs.p rfl fv_zMm_336_46) ?_
    refine zs_iload_n (pc := 53) t344_53 rfl ?_
    refine zs_iconst (pc := 54) t344_54 (v := 2) (by decide) ?_
    obtain ⟨w10v, w10e, w10⟩ := ziadd (a := a) (b := (2 : Int32)) rfl li2 (by omega) (by omega)
    refine zs_iadd (pc := 55) t344_55 (c := w10v) w10e ?_
    have w11 := zrg (zI M 362 (2 + w1n))
    refine zs_iald (pc := 56) t344_56 (j := (2 + w1n)) (by decide) (zk1 (hs.k fk_zMm_362)) (show w10v.toInt = (((2 + w1n) : Nat) : Int) by omega) (zk2 (hs.k fk_zMm_362) (by omega)) rfl ?_
    refine zs_aload_n (pc := 57) t344_57 rfl ?_
    refine zs_get (pc := 58) t344_58 (by decide) (zk1 (hs.k fk_zMm_336)) (hs.p rfl fv_zMm_336_46) ?_
    refine zs_iload_n (pc := 61) t344_61 rfl ?_
    refine zs_iconst (pc := 62) t344_62 (v := 3) (by decide) ?_
    obtain ⟨w12v, w12e, w12⟩ := ziadd (a := a) (b := (3 : Int32)) rfl li3 (by omega) (by omega)
    refine zs_iadd (pc := 63) t344_63 (c := w12v) w12e ?_
    have w13 := zrg (zI M 362 (3 + w1n))
    refine zs_iald (pc := 64) t344_64 (j := (3 + w1n)) (by decide) (zk1 (hs.k fk_zMm_362)) (show w12v.toInt = (((3 + w1n) : Nat) : Int) by omega) (zk2 (hs.k fk_zMm_362) (by omega)) rfl ?_
    refine zs_invV (pc := 65) (k := 336) (as' := [.int (zI M 362 (1 + w1n)), .int (zI M 362 (2 + w1n)), .int (zI M 362 (3 + w1n))]) (st := []) t344_65 mf331 rfl rfl (Or.inl ⟨by decide, (zk1 (hs.k fk_zMm_336))⟩) ⟨by decide, by decide, Nat.le_of_ble_eq_true rfl, Nat.le_of_ble_eq_true rfl⟩ (K331 hs hI pR pC pF ?_) (fun _ _ q => q)
    intro w14M w14v w14s w14I w14F w14PR w14PC w14PF
    have w14g := zrg w14v
    show zGo X l 4 0 0 344 68 [(0, .ref 336), (1, .int a)] [.int w14v] w14M _
    exact zs_iret (pc := 68) t344_68 mr344 rfl (hQ _ _ w14s w14I ((zFr.refl).trans (w14F.mono rfl)) w14PR w14PC w14PF)
  by_cases w15 : (zI M 362 w1n).toInt = 120
  · refine zs_lsw (pc := 6) t344_6 (off := 63) ((rfl : (zI M 362 w1n).toInt = (zI M 362 w1n).toInt).trans w15) rfl (pc2 := 69) rfl ?_
    refine zs_aload_n (pc := 69) t344_69 rfl ?_
    refine zs_aload_n (pc := 70) t344_70 rfl ?_
    refine zs_get (pc := 71) t344_71 (by decide) (zk1 (hs.k fk_zMm_336)) (hs.p rfl fv_zMm_336_46) ?_
    refine zs_iload_n (pc := 74) t344_74 rfl ?_
    refine zs_iconst (pc := 75) t344_75 (v := 1) (by decide) ?_
    obtain ⟨w16v, w16e, w16⟩ := ziadd (a := a) (b := (1 : Int32)) rfl li1 (by omega) (by omega)
    refine zs_iadd (pc := 76) t344_76 (c := w16v) w16e ?_
    have w17 := zrg (zI M 362 (1 + w1n))
    refine zs_iald (pc := 77) t344_77 (j := (1 + w1n)) (by decide) (zk1 (hs.k fk_zMm_362)) (show w16v.toInt = (((1 + w1n) : Nat) : Int) by omega) (zk2 (hs.k fk_zMm_362) (by omega)) rfl ?_
    refine zs_invV (pc := 78) (k := 336) (as' := [.int (zI M 362 (1 + w1n))]) (st := []) t344_78 mf332 rfl rfl (Or.inl ⟨by decide, (zk1 (hs.k fk_zMm_336))⟩) ⟨by decide, by decide, Nat.le_of_ble_eq_true rfl, Nat.le_of_ble_eq_true rfl⟩ (K332 hs hI pR pC pF ?_) (fun _ _ q => q)
    intro w18M w18v w18s w18I w18F w18PR w18PC w18PF
    have w18g := zrg w18v
    show zGo X l 4 0 0 344 81 [(0, .ref 336), (1, .int a)] [.int w18v] w18M _
    exact zs_iret (pc := 81) t344_81 mr344 rfl (hQ _ _ w18s w18I ((zFr.refl).trans (w18F.mono rfl)) w18PR w18PC w18PF)
  refine zs_lsw (pc := 6) t344_6 (off := 89) rfl (by unfold zlsel; repeat (first | rfl | (rw [if_neg (by omega)]; unfold zlsel))) (pc2 := 95) rfl ?_
  refine zs_aload_n (pc := 95) t344_95 rfl ?_
  refine zs_aload_n (pc := 96) t344_96 rfl ?_
  refine zs_get (pc := 97) t344_97 (by decide) (zk1 (hs.k fk_zMm_336)) (hs.p rfl fv_zMm_336_46) ?_
  refine zs_iload_n (pc := 100) t344_100 rfl ?_
  refine zs_iconst (pc := 101) t344_101 (v := 1) (by decide) ?_
  obtain ⟨w19v, w19e, w19⟩ := ziadd (a := a) (b := (1 : Int32)) rfl li1 (by omega) (by omega)
  refine zs_iadd (pc := 102) t344_102 (c := w19v) w19e ?_
  have w20 := zrg (zI M 362 (1 + w1n))
  refine zs_iald (pc := 103) t344_103 (j := (1 + w1n)) (by decide) (zk1 (hs.k fk_zMm_362)) (show w19v.toInt = (((1 + w1n) : Nat) : Int) by omega) (zk2 (hs.k fk_zMm_362) (by omega)) rfl ?_
  refine zs_invV (pc := 104) (k := 336) (as' := [.int (zI M 362 (1 + w1n))]) (st := []) t344_104 mf334 rfl rfl (Or.inl ⟨by decide, (zk1 (hs.k fk_zMm_336))⟩) ⟨by decide, by decide, Nat.le_of_ble_eq_true rfl, Nat.le_of_ble_eq_true rfl⟩ (K334 hs hI pR pC pF ?_) (fun _ _ q => q)
  intro w21M w21v w21s w21I w21F w21PR w21PC w21PF
  have w21g := zrg w21v
  show zGo X l 4 0 0 344 107 [(0, .ref 336), (1, .int a)] [.int w21v] w21M _
  exact zs_iret (pc := 107) t344_107 mr344 rfl (hQ _ _ w21s w21I ((zFr.refl).trans (w21F.mono rfl)) w21PR w21PC w21PF)
theorem K342 {X : zX} {l : Launch} {M : zM} {Q : Option Value → zM → Prop} (hs : zSk zMm M) (hI : zIv mLo mHi M) (pR : zPR M) (pC : zPC M) (pF : zPF M) (hQ : ∀ (M' : zM) (v : Int32), zSk zMm M' → zIv mLo mHi M' → zFr [(336, 363, none)] M M' → zPR M' → zPC M' → zPF M' → Q (some (.int v)) M') : zCall X l 5 0 0 342 [.ref 336] M Q := by
  refine zs_in (by decide) mf342 (Nat.le_of_ble_eq_true rfl) ?_
  show zGo X l 5 0 0 342 0 [(0, .ref 336)] [] M _
  refine zs_aload_n (pc := 0) t342_0 rfl ?_
  refine zs_invV (pc := 1) (k := 336) (as' := []) (st := []) t342_1 mf236 rfl rfl (Or.inl ⟨by decide, (zk1 (hs.k fk_zMm_336))⟩) ⟨by decide, by decide, Nat.le_of_ble_eq_true rfl, Nat.le_of_ble_eq_true rfl⟩ (zs_in (by decide) mf236 (Nat.le_of_ble_eq_true rfl) ?_) (fun _ _ q => q)
  show zGo X l 0 0 0 236 0 [(0, .ref 336)] [] M _
  refine zs_aload_n (pc := 0) t236_0 rfl ?_
  refine zs_iconst (pc := 1) t236_1 (v := 0) (by decide) ?_
  have w1 : zIv mLo mHi (zsI M 336 6 (0 : Int32)) := zIv.put hI (show 0 ≤ (0 : Int32).toInt ∧ (0 : Int32).toInt ≤ 500 from ⟨by decide, by decide⟩)
  refine zs_putI (pc := 2) t236_2 (zk1 (hs.k fk_zMm_336)) rfl ?_
  refine zs_aload_n (pc := 5) t236_5 rfl ?_
  refine zs_iconst (pc := 6) t236_6 (v := -1) (by decide) ?_
  have w2 : zIv mLo mHi (zsI (zsI M 336 6 (0 : Int32)) 336 7 (-1 : Int32)) := zIv.put w1 (show (-1) ≤ (-1 : Int32).toInt ∧ (-1 : Int32).toInt ≤ 500 from ⟨by decide, by decide⟩)
  refine zs_putI (pc := 7) t236_7 (zk1 (hs.k fk_zMm_336)) rfl ?_
  refine zs_vret (pc := 10) t236_10 mr236 ?_
  show zGo X l 5 0 0 342 4 [(0, .ref 336)] [] (zsI (zsI M 336 6 (0 : Int32)) 336 7 (-1 : Int32)) _
  refine zs_aload_n (pc := 4) t342_4 rfl ?_
  refine zs_iconst (pc := 5) t342_5 (v := 0) (by decide) ?_
  have w3 : zIv mLo mHi (zsI (zsI (zsI M 336 6 (0 : Int32)) 336 7 (-1 : Int32)) 336 47 (0 : Int32)) := zIv.put w2 (show 0 ≤ (0 : Int32).toInt ∧ (0 : Int32).toInt ≤ 20 from ⟨by decide, by decide⟩)
  refine zs_putI (pc := 6) t342_6 (zk1 (hs.k fk_zMm_336)) rfl ?_
  have w4L : ∀ (m : Nat) (w4M : zM), zSk zMm w4M → zIv mLo mHi w4M → zFr [(336, 336, some 6), (336, 336, some 7), (336, 336, some 8), (362, 362, none), (336, 336, some 47)] (zsI (zsI (zsI M 336 6 (0 : Int32)) 336 7 (-1 : Int32)) 336 47 (0 : Int32)) w4M → zJ w4M 351 = zJ (zsI (zsI (zsI M 336 6 (0 : Int32)) 336 7 (-1 : Int32)) 336 47 (0 : Int32)) 351 → 501 - (zI w4M 336 6).toInt - 501 * (min (zI w4M 336 7).toInt 0) ≤ (m : Int) → zGo X l 5 0 0 342 9 [(0, .ref 336)] [] w4M Q := by
    intro m
    induction m using Nat.strongRecOn with
    | ind w4m w4ih =>
      intro w4M w4s w4I w4F w4J w4q
      have w5 := ib336_6 w4I
      have w6 := ib336_7 w4I
      refine zs_aload_n (pc := 9) t342_9 rfl ?_
      refine zs_get (pc := 10) t342_10 (by decide) (zk1 (w4s.k fk_zMm_336)) (zfvi rfl rfl) ?_
      refine zs_iconst (pc := 13) t342_13 (v := -1) (by decide) ?_
      by_cases w7 : (zI w4M 336 7).toInt ≠ (-1)
      · refine zs_icmp_neT (pc := 14) t342_14 rfl lin1 (by omega) ?_
        refine zs_aload_n (pc := 46) t342_46 rfl ?_
        refine zs_invV (pc := 47) (k := 336) (as' := []) (st := []) t342_47 mf253 rfl rfl (Or.inl ⟨by decide, (zk1 (w4s.k fk_zMm_336))⟩) ⟨by decide, by decide, Nat.le_of_ble_eq_true rfl, Nat.le_of_ble_eq_true rfl⟩ (zs_in (by decide) mf253 (Nat.le_of_ble_eq_true rfl) ?_) (fun _ _ q => q)
        show zGo X l 0 0 0 253 0 [(0, .ref 336)] [] w4M _
        refine zs_aload_n (pc := 0) t253_0 rfl ?_
        refine zs_iconst (pc := 1) t253_1 (v := 0) (by decide) ?_
        have w8 : zIv mLo mHi (zsI w4M 336 5 (0 : Int32)) := zIv.put w4I (show 0 ≤ (0 : Int32).toInt ∧ (0 : Int32).toInt ≤ 500 from ⟨by decide, by decide⟩)
        refine zs_putI (pc := 2) t253_2 (zk1 (w4s.k fk_zMm_336)) rfl ?_
        refine zs_aload_n (pc := 5) t253_5 rfl ?_
        refine zs_get (pc := 6) t253_6 (by decide) (zk1 (w4s.k fk_zMm_336)) (zfvi rfl ((zIoj (by decide)).trans rfl)) ?_
        refine zs_iconst (pc := 9) t253_9 (v := -1) (by decide) ?_
        refine zs_icmp_neT (pc := 10) t253_10 rfl lin1 (by omega) ?_
        refine zs_iconst (pc := 17) t253_17 (v := 0) (by decide) ?_
        refine zs_iret (pc := 18) t253_18 mr253 (by decide) ?_
        show zGo X l 5 0 0 342 50 [(0, .ref 336)] [.int (0 : Int32)] (zsI w4M 336 5 (0 : Int32)) _
        refine zs_if_neF (pc := 50) t342_50 li0 (by decide) ?_
        refine zs_iconst (pc := 53) t342_53 (v := -1) (by decide) ?_
        exact zs_iret (pc := 54) t342_54 mr342 (by decide) (hQ _ _ w4s w8 ((((((zFr.refl).put rfl).put rfl).put rfl).trans (w4F.mono rfl)).put rfl) (zPR.fr (M' := (zsI w4M 336 5 (0 : Int32))) (zPR.fr (zPR.fr (M' := (zsI (zsI (zsI M 336 6 (0 : Int32)) 336 7 (-1 : Int32)) 336 47 (0 : Int32))) (zPR.fr (M' := (zsI (zsI M 336 6 (0 : Int32)) 336 7 (-1 : Int32))) (zPR.fr (M' := (zsI M 336 6 (0 : Int32))) pR (zEq.put rfl)) (zEq.put rfl)) (zEq.put rfl)) (w4F.eq rfl)) (zEq.put rfl)) (zPC.fr (M' := (zsI w4M 336 5 (0 : Int32))) (zPC.fr (zPC.fr (M' := (zsI (zsI (zsI M 336 6 (0 : Int32)) 336 7 (-1 : Int32)) 336 47 (0 : Int32))) (zPC.fr (M' := (zsI (zsI M 336 6 (0 : Int32)) 336 7 (-1 : Int32))) (zPC.fr (M' := (zsI M 336 6 (0 : Int32))) pC (zEq.put rfl)) (zEq.put rfl)) (zEq.put rfl)) (w4F.eq rfl)) (zEq.put rfl)) (zPF.fr (M' := (zsI w4M 336 5 (0 : Int32))) (zPF.fr (zPF.fr (M' := (zsI (zsI (zsI M 336 6 (0 : Int32)) 336 7 (-1 : Int32)) 336 47 (0 : Int32))) (zPF.fr (M' := (zsI (zsI M 336 6 (0 : Int32)) 336 7 (-1 : Int32))) (zPF.fr (M' := (zsI M 336 6 (0 : Int32))) pF (zEq.put rfl) rfl) (zEq.put rfl) rfl) (zEq.put rfl) rfl) (w4F.eq rfl) w4J) (zEq.put rfl) rfl))
      · refine zs_icmp_neF (pc := 14) t342_14 rfl lin1 (by omega) ?_
        refine zs_aload_n (pc := 17) t342_17 rfl ?_
        refine zs_get (pc := 18) t342_18 (by decide) (zk1 (w4s.k fk_zMm_336)) (zfvi rfl rfl) ?_
        refine zs_aload_n (pc := 21) t342_21 rfl ?_
        have w9 := ib336_5 hI
        refine zs_get (pc := 22) t342_22 (by decide) (zk1 (w4s.k fk_zMm_336)) (zfvi rfl ((w4F 336 5 rfl).trans ((zIoj (by decide)).trans ((zIoj (by decide)).trans ((zIoj (by decide)).trans rfl))))) ?_
        by_cases w10 : (zI M 336 5).toInt ≤ (zI w4M 336 6).toInt
        · refine zs_icmp_geT (pc := 25) t342_25 rfl rfl (by omega) ?_
          refine zs_aload_n (pc := 46) t342_46 rfl ?_
          refine zs_invV (pc := 47) (k := 336) (as' := []) (st := []) t342_47 mf253 rfl rfl (Or.inl ⟨by decide, (zk1 (w4s.k fk_zMm_336))⟩) ⟨by decide, by decide, Nat.le_of_ble_eq_true rfl, Nat.le_of_ble_eq_true rfl⟩ (zs_in (by decide) mf253 (Nat.le_of_ble_eq_true rfl) ?_) (fun _ _ q => q)
          show zGo X l 0 0 0 253 0 [(0, .ref 336)] [] w4M _
          refine zs_aload_n (pc := 0) t253_0 rfl ?_
          refine zs_iconst (pc := 1) t253_1 (v := 0) (by decide) ?_
          have w11 : zIv mLo mHi (zsI w4M 336 5 (0 : Int32)) := zIv.put w4I (show 0 ≤ (0 : Int32).toInt ∧ (0 : Int32).toInt ≤ 500 from ⟨by decide, by decide⟩)
          refine zs_putI (pc := 2) t253_2 (zk1 (w4s.k fk_zMm_336)) rfl ?_
          refine zs_aload_n (pc := 5) t253_5 rfl ?_
          refine zs_get (pc := 6) t253_6 (by decide) (zk1 (w4s.k fk_zMm_336)) (zfvi rfl ((zIoj (by decide)).trans rfl)) ?_
          refine zs_iconst (pc := 9) t253_9 (v := -1) (by decide) ?_
          refine zs_icmp_neF (pc := 10) t253_10 rfl lin1 (by omega) ?_
          refine zs_iconst (pc := 13) t253_13 (v := 1) (by decide) ?_
          refine zs_goto (pc := 14) t253_14 ?_
          refine zs_iret (pc := 18) t253_18 mr253 (by decide) ?_
          show zGo X l 5 0 0 342 50 [(0, .ref 336)] [.int (1 : Int32)] (zsI w4M 336 5 (0 : Int32)) _
          refine zs_if_neT (pc := 50) t342_50 li1 (by decide) ?_
          refine zs_iconst (pc := 55) t342_55 (v := 0) (by decide) ?_
          refine zs_istore_n (pc := 56) t342_56 (ls' := [(1, .int (0 : Int32)), (0, .ref 336)]) (zml mf342 (by decide)) rfl ?_
          have w12L : ∀ (m : Nat) (w12x1 : Int32) (w12M : zM), (0 ≤ w12x1.toInt ∧ w12x1.toInt ≤ 20) → zSk zMm w12M → zIv mLo mHi w12M → zFr [(336, 363, none)] (zsI w4M 336 5 (0 : Int32)) w12M → zPR w12M → zPC w12M → zPF w12M → 20 - w12x1.toInt ≤ (m : Int) → zGo X l 5 0 0 342 57 [(0, .ref 336), (1, .int w12x1)] [] w12M Q := by
            intro m
            induction m using Nat.strongRecOn with
            | ind w12m w12ih =>
              intro w12x1 w12M w12b1 w12s w12I w12F w12PR w12PC w12PF w12q
              refine zs_iload_n (pc := 57) t342_57 rfl ?_
              refine zs_aload_n (pc := 58) t342_58 rfl ?_
              have w13 := ib336_47 w12I
              refine zs_get (pc := 59) t342_59 (by decide) (zk1 (w12s.k fk_zMm_336)) (zfvi rfl rfl) ?_
              by_cases w14 : (zI w12M 336 47).toInt ≤ w12x1.toInt
              · refine zs_icmp_geT (pc := 62) t342_62 rfl rfl (by omega) ?_
                refine zs_aload_n (pc := 82) t342_82 rfl ?_
                refine zs_iload_n (pc := 83) t342_83 rfl ?_
                refine zs_aload_n (pc := 84) t342_84 rfl ?_
                refine zs_get (pc := 85) t342_85 (by decide) (zk1 (w12s.k fk_zMm_336)) (zfvi rfl rfl) ?_
                by_cases w15 : (zI w12M 336 47).toInt ≤ w12x1.toInt
                · refine zs_icmp_geT (pc := 88) t342_88 rfl rfl (by omega) ?_
                  refine zs_iconst (pc := 95) t342_95 (v := -1) (by decide) ?_
                  have w16 : zIv mLo mHi (zsI w12M 336 48 (-1 : Int32)) := zIv.put w12I (show (-2147483648) ≤ (-1 : Int32).toInt ∧ (-1 : Int32).toInt ≤ 2147483647 from zrg (-1 : Int32))
                  refine zs_putI (pc := 96) t342_96 (zk1 (w12s.k fk_zMm_336)) rfl ?_
                  refine zs_iload_n (pc := 99) t342_99 rfl ?_
                  exact zs_iret (pc := 100) t342_100 mr342 rfl (hQ _ _ w12s w16 ((((((((zFr.refl).put rfl).put rfl).put rfl).trans (w4F.mono rfl)).put rfl).trans (w12F.mono rfl)).put rfl) (zPR.fr (M' := (zsI w12M 336 48 (-1 : Int32))) w12PR (zEq.put rfl)) (zPC.fr (M' := (zsI w12M 336 48 (-1 : Int32))) w12PC (zEq.put rfl)) (zPF.fr (M' := (zsI w12M 336 48 (-1 : Int32))) w12PF (zEq.put rfl) rfl))
                · refine zs_icmp_geF (pc := 88) t342_88 rfl rfl (by omega) ?_
                  refine zs_iload_n (pc := 91) t342_91 rfl ?_
                  refine zs_goto (pc := 92) t342_92 ?_
                  have w17 : zIv mLo mHi (zsI w12M 336 48 w12x1) := zIv.put w12I (show (-2147483648) ≤ w12x1.toInt ∧ w12x1.toInt ≤ 2147483647 from zrg w12x1)
                  refine zs_putI (pc := 96) t342_96 (zk1 (w12s.k fk_zMm_336)) rfl ?_
                  refine zs_iload_n (pc := 99) t342_99 rfl ?_
                  exact zs_iret (pc := 100) t342_100 mr342 rfl (hQ _ _ w12s w17 ((((((((zFr.refl).put rfl).put rfl).put rfl).trans (w4F.mono rfl)).put rfl).trans (w12F.mono rfl)).put rfl) (zPR.fr (M' := (zsI w12M 336 48 w12x1)) w12PR (zEq.put rfl)) (zPC.fr (M' := (zsI w12M 336 48 w12x1)) w12PC (zEq.put rfl)) (zPF.fr (M' := (zsI w12M 336 48 w12x1)) w12PF (zEq.put rfl) rfl))
              · refine zs_icmp_geF (pc := 62) t342_62 rfl rfl (by omega) ?_
                refine zs_aload_n (pc := 65) t342_65 rfl ?_
                refine zs_iconst (pc := 66) t342_66 (v := 4) (by decide) ?_
                refine zs_iload_n (pc := 67) t342_67 rfl ?_
                obtain ⟨w18v, w18⟩ : ∃ v, (4 : Int32) * w12x1 = v := ⟨_, rfl⟩
                have w18g : w18v.toInt = 4 * w12x1.toInt := by rw [← w18]; exact zmulc li4 rfl (by omega) (by omega)
                refine zs_imul (pc := 68) t342_68 (c := w18v) w18 ?_
                refine zs_invV (pc := 69) (k := 336) (as' := [.int w18v]) (st := []) t342_69 mf344 rfl rfl (Or.inl ⟨by decide, (zk1 (w12s.k fk_zMm_336))⟩) ⟨by decide, by decide, Nat.le_of_ble_eq_true rfl, Nat.le_of_ble_eq_true rfl⟩ (K344 w12s w12I w12PR w12PC w12PF ⟨by omega, by omega⟩ ?_) (fun _ _ q => q)
                intro w19M w19v w19s w19I w19F w19PR w19PC w19PF
                have w19g := zrg w19v
                show zGo X l 5 0 0 342 72 [(0, .ref 336), (1, .int w12x1)] [.int w19v] w19M _
                refine zs_iconst (pc := 72) t342_72 (v := -1) (by decide) ?_
                by_cases w20 : w19v.toInt = (-1)
                · refine zs_icmp_eqT (pc := 73) t342_73 rfl lin1 (by omega) ?_
                  refine zs_aload_n (pc := 82) t342_82 rfl ?_
                  refine zs_iload_n (pc := 83) t342_83 rfl ?_
                  refine zs_aload_n (pc := 84) t342_84 rfl ?_
                  have w21 := ib336_47 w19I
                  refine zs_get (pc := 85) t342_85 (by decide) (zk1 (w19s.k fk_zMm_336)) (zfvi rfl rfl) ?_
                  by_cases w22 : (zI w19M 336 47).toInt ≤ w12x1.toInt
                  · refine zs_icmp_geT (pc := 88) t342_88 rfl rfl (by omega) ?_
                    refine zs_iconst (pc := 95) t342_95 (v := -1) (by decide) ?_
                    have w23 : zIv mLo mHi (zsI w19M 336 48 (-1 : Int32)) := zIv.put w19I (show (-2147483648) ≤ (-1 : Int32).toInt ∧ (-1 : Int32).toInt ≤ 2147483647 from zrg (-1 : Int32))
                    refine zs_putI (pc := 96) t342_96 (zk1 (w19s.k fk_zMm_336)) rfl ?_
                    refine zs_iload_n (pc := 99) t342_99 rfl ?_
                    exact zs_iret (pc := 100) t342_100 mr342 rfl (hQ _ _ w19s w23 (((((((((zFr.refl).put rfl).put rfl).put rfl).trans (w4F.mono rfl)).put rfl).trans (w12F.mono rfl)).trans (w19F.mono rfl)).put rfl) (zPR.fr (M' := (zsI w19M 336 48 (-1 : Int32))) w19PR (zEq.put rfl)) (zPC.fr (M' := (zsI w19M 336 48 (-1 : Int32))) w19PC (zEq.put rfl)) (zPF.fr (M' := (zsI w19M 336 48 (-1 : Int32))) w19PF (zEq.put rfl) rfl))
                  · refine zs_icmp_geF (pc := 88) t342_88 rfl rfl (by omega) ?_
                    refine zs_iload_n (pc := 91) t342_91 rfl ?_
                    refine zs_goto (pc := 92) t342_92 ?_
                    have w24 : zIv mLo mHi (zsI w19M 336 48 w12x1) := zIv.put w19I (show (-2147483648) ≤ w12x1.toInt ∧ w12x1.toInt ≤ 2147483647 from zrg w12x1)
                    refine zs_putI (pc := 96) t342_96 (zk1 (w19s.k fk_zMm_336)) rfl ?_
                    refine zs_iload_n (pc := 99) t342_99 rfl ?_
                    exact zs_iret (pc := 100) t342_100 mr342 rfl (hQ _ _ w19s w24 (((((((((zFr.refl).put rfl).put rfl).put rfl).trans (w4F.mono rfl)).put rfl).trans (w12F.mono rfl)).trans (w19F.mono rfl)).put rfl) (zPR.fr (M' := (zsI w19M 336 48 w12x1)) w19PR (zEq.put rfl)) (zPC.fr (M' := (zsI w19M 336 48 w12x1)) w19PC (zEq.put rfl)) (zPF.fr (M' := (zsI w19M 336 48 w12x1)) w19PF (zEq.put rfl) rfl))
                · refine zs_icmp_eqF (pc := 73) t342_73 rfl lin1 (by omega) ?_
                  obtain ⟨w25v, w25e, w25⟩ := ziadd (a := w12x1) (b := Int32.ofInt 1) rfl (show (Int32.ofInt 1).toInt = 1 by decide) (by omega) (by omega)
                  refine zs_iinc (pc := 76) t342_76 (ls' := [(1, .int w25v), (0, .ref 336)]) (zml mf342 (by decide)) rfl (c := w25v) w25e rfl ?_
                  refine zs_goto (pc := 79) t342_79 ?_
                  refine zGo.locals (ls' := [(0, .ref 336), (1, .int w25v)]) (by simp) ?_
                  have w26 := w25
                  exact w12ih (w12m - 1) (by omega) w25v w19M ⟨by omega, by omega⟩ w19s w19I (((zFr.refl).trans (w12F.mono rfl)).trans (w19F.mono rfl)) w19PR w19PC w19PF (by omega)
          refine zGo.locals (ls' := [(0, .ref 336), (1, .int (0 : Int32))]) (by simp) ?_
          have w27 := li0
          exact w12L ((20 - 0 : Int).toNat) (0 : Int32) (zsI w4M 336 5 (0 : Int32)) ⟨by decide, by decide⟩ w4s w11 zFr.refl (zPR.fr (M' := (zsI w4M 336 5 (0 : Int32))) (zPR.fr (zPR.fr (M' := (zsI (zsI (zsI M 336 6 (0 : Int32)) 336 7 (-1 : Int32)) 336 47 (0 : Int32))) (zPR.fr (M' := (zsI (zsI M 336 6 (0 : Int32)) 336 7 (-1 : Int32))) (zPR.fr (M' := (zsI M 336 6 (0 : Int32))) pR (zEq.put rfl)) (zEq.put rfl)) (zEq.put rfl)) (w4F.eq rfl)) (zEq.put rfl)) (zPC.fr (M' := (zsI w4M 336 5 (0 : Int32))) (zPC.fr (zPC.fr (M' := (zsI (zsI (zsI M 336 6 (0 : Int32)) 336 7 (-1 : Int32)) 336 47 (0 : Int32))) (zPC.fr (M' := (zsI (zsI M 336 6 (0 : Int32)) 336 7 (-1 : Int32))) (zPC.fr (M' := (zsI M 336 6 (0 : Int32))) pC (zEq.put rfl)) (zEq.put rfl)) (zEq.put rfl)) (w4F.eq rfl)) (zEq.put rfl)) (zPF.fr (M' := (zsI w4M 336 5 (0 : Int32))) (zPF.fr (zPF.fr (M' := (zsI (zsI (zsI M 336 6 (0 : Int32)) 336 7 (-1 : Int32)) 336 47 (0 : Int32))) (zPF.fr (M' := (zsI (zsI M 336 6 (0 : Int32)) 336 7 (-1 : Int32))) (zPF.fr (M' := (zsI M 336 6 (0 : Int32))) pF (zEq.put rfl) rfl) (zEq.put rfl) rfl) (zEq.put rfl) rfl) (w4F.eq rfl) w4J) (zEq.put rfl) rfl) (by omega)
        · refine zs_icmp_geF (pc := 25) t342_25 rfl rfl (by omega) ?_
          refine zs_aload_n (pc := 28) t342_28 rfl ?_
          have w28 : (zI w4M 336 6).toInt = (zI w4M 336 6).toInt := (congrArg Int32.toInt rfl).trans rfl
          have w29 : (zI w4M 336 5).toInt = (zI M 336 5).toInt := (congrArg Int32.toInt ((w4F 336 5 rfl).trans ((zIoj (by decide)).trans ((zIoj (by decide)).trans ((zIoj (by decide)).trans rfl))))).trans rfl
          have w30 : (zI w4M 336 7).toInt = (zI w4M 336 7).toInt := (congrArg Int32.toInt rfl).trans rfl
          have w31 : (zI w4M 336 6).toInt = (zI w4M 336 6).toInt := (congrArg Int32.toInt rfl).trans rfl
          refine zs_invV (pc := 29) (k := 336) (as' := []) (st := []) t342_29 mf343 rfl rfl (Or.inl ⟨by decide, (zk1 (w4s.k fk_zMm_336))⟩) ⟨by decide, by decide, Nat.le_of_ble_eq_true rfl, Nat.le_of_ble_eq_true rfl⟩ (K343 w4s w4I (by omega) (by omega) ?_) (fun _ _ q => q)
          intro w32M w32v w32s w32I w32F w32J w32t0 w32a w32b
          have w33 := ib336_6 w32I
          have w34 := ib336_7 w32I
          show zGo X l 5 0 0 342 32 [(0, .ref 336)] [.int w32v] w32M _
          by_cases w35 : w32v.toInt ≠ 0
          · refine zs_if_neT (pc := 32) t342_32 rfl (by omega) ?_
            refine zGo.locals (ls' := [(0, .ref 336)]) (by simp) ?_
            have w36 : (zI w32M 336 6).toInt = (zI w32M 336 6).toInt := (congrArg Int32.toInt rfl).trans rfl
            have w37 : (zI w32M 336 7).toInt = (zI w32M 336 7).toInt := (congrArg Int32.toInt rfl).trans rfl
            exact w4ih (w4m - 1) (by omega) w32M w32s w32I (((zFr.refl).trans (w4F.mono rfl)).trans (w32F.mono rfl)) (w32J.trans w4J) (by omega)
          · refine zs_if_neF (pc := 32) t342_32 rfl (by omega) ?_
            refine zs_aload_n (pc := 35) t342_35 rfl ?_
            refine zs_aload_n (pc := 36) t342_36 rfl ?_
            refine zs_get (pc := 37) t342_37 (by decide) (zk1 (w32s.k fk_zMm_336)) (zfvi rfl ((w32F 336 5 rfl).trans ((w4F 336 5 rfl).trans ((zIoj (by decide)).trans ((zIoj (by decide)).trans ((zIoj (by decide)).trans rfl)))))) ?_
            have w38 : zIv mLo mHi (zsI w32M 336 6 (zI M 336 5)) := zIv.put w32I (show 0 ≤ (zI M 336 5).toInt ∧ (zI M 336 5).toInt ≤ 500 from ⟨by omega, by omega⟩)
            refine zs_putI (pc := 40) t342_40 (zk1 (w32s.k fk_zMm_336)) rfl ?_
            refine zs_goto (pc := 43) t342_43 ?_
            refine zGo.locals (ls' := [(0, .ref 336)]) (by simp) ?_
            have w39 : (zI (zsI w32M 336 6 (zI M 336 5)) 336 6).toInt = (zI M 336 5).toInt := (congrArg Int32.toInt zIs).trans rfl
            have w40 : (zI (zsI w32M 336 6 (zI M 336 5)) 336 7).toInt = (zI w32M 336 7).toInt := (congrArg Int32.toInt ((zIoj (by decide)).trans rfl)).trans rfl
            exact w4ih (w4m - 1) (by omega) (zsI w32M 336 6 (zI M 336 5)) w32s w38 ((((zFr.refl).trans (w4F.mono rfl)).trans (w32F.mono rfl)).put rfl) (w32J.trans w4J) (by omega)
  refine zGo.locals (ls' := [(0, .ref 336)]) (by simp) ?_
  have w41 : (zI (zsI (zsI (zsI M 336 6 (0 : Int32)) 336 7 (-1 : Int32)) 336 47 (0 : Int32)) 336 6).toInt = 0 := (congrArg Int32.toInt ((zIoj (by decide)).trans ((zIoj (by decide)).trans zIs))).trans li0
  have w42 : (zI (zsI (zsI (zsI M 336 6 (0 : Int32)) 336 7 (-1 : Int32)) 336 47 (0 : Int32)) 336 7).toInt = (-1) := (congrArg Int32.toInt ((zIoj (by decide)).trans zIs)).trans lin1
  exact w4L ((501 - (zI (zsI (zsI (zsI M 336 6 (0 : Int32)) 336 7 (-1 : Int32)) 336 47 (0 : Int32)) 336 6).toInt - 501 * (min (zI (zsI (zsI (zsI M 336 6 (0 : Int32)) 336 7 (-1 : Int32)) 336 47 (0 : Int32)) 336 7).toInt 0) : Int).toNat) (zsI (zsI (zsI M 336 6 (0 : Int32)) 336 7 (-1 : Int32)) 336 47 (0 : Int32)) hs w3 zFr.refl rfl (by omega)
