theorem K287 {X : zX} {l : Launch} {M : zM} {Q : Option Value → zM → Prop} (hs : zSk zMm M) (hI : zIv mLo mHi M) (hQ : ∀ M', zSk zMm M' → zIv mLo mHi M' → zFr [(343, 343, none), (344, 344, none), (336, 336, some 39), (359, 359, none)] M M' → zJ M' 351 = zJ M 351 → Q none M') : zCall X l 4 0 0 287 [.ref 336] M Q := by
  refine zs_in (by decide) mf287 (Nat.le_of_ble_eq_true rfl) ?_
  show zGo X l 4 0 0 287 0 [(0, .ref 336)] [] M _
  refine zs_iconst (pc := 0) t287_0 (v := 0) (by decide) ?_
  refine zs_istore_n (pc := 1) t287_1 (ls' := [(1, .int (0 : Int32)), (0, .ref 336)]) (zml mf287 (by decide)) rfl ?_
  have w1L : ∀ (m : Nat) (w1x1 : Int32) (w1M : zM), (0 ≤ w1x1.toInt ∧ w1x1.toInt ≤ 60) → zSk zMm w1M → zIv mLo mHi w1M → zFr [(343, 343, none)] M w1M → zJ w1M 351 = zJ M 351 → 60 - w1x1.toInt ≤ (m : Int) → zGo X l 4 0 0 287 2 [(0, .ref 336), (1, .int w1x1)] [] w1M Q := by
    intro m
    induction m using Nat.strongRecOn with
    | ind w1m w1ih =>
      intro w1x1 w1M w1b1 w1s w1I w1F w1J w1q
      refine zs_iload_n (pc := 2) t287_2 rfl ?_
      refine zs_aload_n (pc := 3) t287_3 rfl ?_
      refine zs_get (pc := 4) t287_4 (by decide) (zk1 (w1s.k fk_zMm_336)) (w1s.p rfl fv_zMm_336_0) ?_
      refine zs_iconst (pc := 7) t287_7 (v := 1) (by decide) ?_
      have w2 := ibA1 hI
      refine zs_iald (pc := 8) t287_8 (j := 1) (by decide) (zk1 (w1s.k fk_zMm_337)) li1 (zk2 (w1s.k fk_zMm_337) (by decide)) ((w1F 337 1 rfl).trans rfl) ?_
      by_cases w3 : (zI M 337 1).toInt ≤ w1x1.toInt
      · refine zs_icmp_geT (pc := 9) t287_9 rfl rfl (by omega) ?_
        refine zs_aload_n (pc := 30) t287_30 rfl ?_
        refine zs_iconst (pc := 31) t287_31 (v := 0) (by decide) ?_
        have w4 : zIv mLo mHi (zsI w1M 336 39 (0 : Int32)) := zIv.put w1I (show 0 ≤ (0 : Int32).toInt ∧ (0 : Int32).toInt ≤ 20000 from ⟨by decide, by decide⟩)
        refine zs_putI (pc := 32) t287_32 (zk1 (w1s.k fk_zMm_336)) rfl ?_
        refine zs_aload_n (pc := 35) t287_35 rfl ?_
        refine zs_get (pc := 36) t287_36 (by decide) (zk1 (w1s.k fk_zMm_336)) (w1s.p rfl fv_zMm_336_0) ?_
        refine zs_iconst (pc := 39) t287_39 (v := 5) (by decide) ?_
        have w5 := ibA5 hI
        refine zs_iald (pc := 40) t287_40 (j := 5) (by decide) (zk1 (w1s.k fk_zMm_337)) li5 (zk2 (w1s.k fk_zMm_337) (by decide)) ((zIo (by decide)).trans ((w1F 337 5 rfl).trans rfl)) ?_
        obtain ⟨w6v, w6e⟩ : ∃ v, -(zI M 337 5) = v := ⟨_, rfl⟩
        have w6 : w6v.toInt = -(zI M 337 5).toInt := by rw [← w6e]; exact zneg rfl (by omega)
        refine zs_ineg (pc := 41) t287_41 (c := w6v) w6e ?_
        refine zs_istore_n (pc := 42) t287_42 (ls' := [(1, .int w6v), (0, .ref 336)]) (zml mf287 (by decide)) rfl ?_
        have w7L : ∀ (m : Nat) (w7x1 : Int32) (w7M : zM), ((-3) ≤ w7x1.toInt ∧ w7x1.toInt ≤ 4) → zSk zMm w7M → zIv mLo mHi w7M → zFr [(344, 344, none), (336, 336, some 39), (359, 359, none)] (zsI w1M 336 39 (0 : Int32)) w7M → zJ w7M 351 = zJ (zsI w1M 336 39 (0 : Int32)) 351 → ((zI w7M 336 39).toInt ≤ 2460 * (w7x1.toInt + 3)) → 4 - w7x1.toInt ≤ (m : Int) → zGo X l 4 0 0 287 43 [(0, .ref 336), (1, .int w7x1)] [] w7M Q := by
          intro m
          induction m using Nat.strongRecOn with
          | ind w7m w7ih =>
            intro w7x1 w7M w7b1 w7s w7I w7F w7J w7r0 w7q
            have w8 := ib336_39 w7I
            refine zs_iload_n (pc := 43) t287_43 rfl ?_
            refine zs_aload_n (pc := 44) t287_44 rfl ?_
            refine zs_get (pc := 45) t287_45 (by decide) (zk1 (w7s.k fk_zMm_336)) (w7s.p rfl fv_zMm_336_0) ?_
            refine zs_iconst (pc := 48) t287_48 (v := 5) (by decide) ?_
            refine zs_iald (pc := 49) t287_49 (j := 5) (by decide) (zk1 (w7s.k fk_zMm_337)) li5 (zk2 (w7s.k fk_zMm_337) (by decide)) ((w7F 337 5 rfl).trans ((zIo (by decide)).trans ((w1F 337 5 rfl).trans rfl))) ?_
            by_cases w9 : (zI M 337 5).toInt < w7x1.toInt
            · refine zs_icmp_gtT (pc := 50) t287_50 rfl rfl (by omega) ?_
              exact zs_vret (pc := 182) t287_182 mr287 (hQ _ w7s w7I ((((zFr.refl).trans (w1F.mono rfl)).put rfl).trans (w7F.mono rfl)) (w7J.trans w1J))
            · refine zs_icmp_gtF (pc := 50) t287_50 rfl rfl (by omega) ?_
              refine zs_aload_n (pc := 53) t287_53 rfl ?_
              refine zs_get (pc := 54) t287_54 (by decide) (zk1 (w7s.k fk_zMm_336)) (w7s.p rfl fv_zMm_336_0) ?_
              refine zs_bipush (pc := 57) t287_57 (v := 6) (by decide) ?_
              have w10 := ibA6 hI
              refine zs_iald (pc := 59) t287_59 (j := 6) (by decide) (zk1 (w7s.k fk_zMm_337)) li6 (zk2 (w7s.k fk_zMm_337) (by decide)) ((w7F 337 6 rfl).trans ((zIo (by decide)).trans ((w1F 337 6 rfl).trans rfl))) ?_
              obtain ⟨w11v, w11e⟩ : ∃ v, -(zI M 337 6) = v := ⟨_, rfl⟩
              have w11 : w11v.toInt = -(zI M 337 6).toInt := by rw [← w11e]; exact zneg rfl (by omega)
              refine zs_ineg (pc := 60) t287_60 (c := w11v) w11e ?_
              refine zs_istore_n (pc := 61) t287_61 (ls' := [(2, .int w11v), (0, .ref 336), (1, .int w7x1)]) (zml mf287 (by decide)) rfl ?_
              have w12L : ∀ (m : Nat) (w12x2 : Int32) (w12M : zM), ((-20) ≤ w12x2.toInt ∧ w12x2.toInt ≤ 21) → zSk zMm w12M → zIv mLo mHi w12M → zFr [(344, 344, none), (336, 336, some 39), (359, 359, none)] w7M w12M → zJ w12M 351 = zJ w7M 351 → ((zI w12M 336 39).toInt ≤ 2460 * (w7x1.toInt + 3) + 60 * (w12x2.toInt + 20)) → 21 - w12x2.toInt ≤ (m : Int) → zGo X l 4 0 0 287 62 [(0, .ref 336), (1, .int w7x1), (2, .int w12x2)] [] w12M Q := by
                intro m
                induction m using Nat.strongRecOn with
                | ind w12m w12ih =>
                  intro w12x2 w12M w12b2 w12s w12I w12F w12J w12r0 w12q
                  have w13 := ib336_39 w12I
                  refine zs_iload_n (pc := 62) t287_62 rfl ?_
                  refine zs_aload_n (pc := 63) t287_63 rfl ?_
                  refine zs_get (pc := 64) t287_64 (by decide) (zk1 (w12s.k fk_zMm_336)) (w12s.p rfl fv_zMm_336_0) ?_
                  refine zs_bipush (pc := 67) t287_67 (v := 6) (by decide) ?_
                  refine zs_iald (pc := 69) t287_69 (j := 6) (by decide) (zk1 (w12s.k fk_zMm_337)) li6 (zk2 (w12s.k fk_zMm_337) (by decide)) ((w12F 337 6 rfl).trans ((w7F 337 6 rfl).trans ((zIo (by decide)).trans ((w1F 337 6 rfl).trans rfl)))) ?_
                  by_cases w14 : (zI M 337 6).toInt < w12x2.toInt
                  · refine zs_icmp_gtT (pc := 70) t287_70 rfl rfl (by omega) ?_
                    obtain ⟨w15v, w15e, w15⟩ := ziadd (a := w7x1) (b := Int32.ofInt 1) rfl (show (Int32.ofInt 1).toInt = 1 by decide) (by omega) (by omega)
                    refine zs_iinc (pc := 176) t287_176 (ls' := [(1, .int w15v), (0, .ref 336), (2, .int w12x2)]) (zml mf287 (by decide)) rfl (c := w15v) w15e rfl ?_
                    refine zs_goto (pc := 179) t287_179 ?_
                    refine zGo.locals (ls' := [(0, .ref 336), (1, .int w15v)]) (by simp) ?_
                    have w16 := w15
                    have w17 : (zI w12M 336 39).toInt = (zI w12M 336 39).toInt := (congrArg Int32.toInt rfl).trans rfl
                    exact w7ih (w7m - 1) (by omega) w15v w12M ⟨by omega, by omega⟩ w12s w12I (((zFr.refl).trans (w7F.mono rfl)).trans (w12F.mono rfl)) (w12J.trans w7J) (by omega) (by omega)
                  · refine zs_icmp_gtF (pc := 70) t287_70 rfl rfl (by omega) ?_
                    refine zs_aload_n (pc := 73) t287_73 rfl ?_
                    refine zs_iload_n (pc := 74) t287_74 rfl ?_
                    refine zs_iload_n (pc := 75) t287_75 rfl ?_
                    refine zs_invV (pc := 76) (k := 336) (as' := [.int w12x2, .int w7x1]) (st := []) t287_76 mf275 rfl rfl (Or.inl ⟨by decide, (zk1 (w12s.k fk_zMm_336))⟩) ⟨by decide, by decide, Nat.le_of_ble_eq_true rfl, Nat.le_of_ble_eq_true rfl⟩ (K275 w12s w12I ?_) (fun _ _ q => q)
                    intro w18M w18s w18I w18F w18J w18x0
                    show zGo X l 4 0 0 287 79 [(0, .ref 336), (1, .int w7x1), (2, .int w12x2)] [] w18M _
                    refine zs_iconst (pc := 79) t287_79 (v := 0) (by decide) ?_
                    refine zs_istore_n (pc := 80) t287_80 (ls' := [(3, .int (0 : Int32)), (0, .ref 336), (1, .int w7x1), (2, .int w12x2)]) (zml mf287 (by decide)) rfl ?_
                    have w19L : ∀ (m : Nat) (w19x3 : Int32) (w19M : zM), (0 ≤ w19x3.toInt ∧ w19x3.toInt ≤ 60) → zSk zMm w19M → zIv mLo mHi w19M → zFr [(336, 336, some 39), (359, 359, none)] w18M w19M → zJ w19M 351 = zJ w18M 351 → ((zI w19M 336 39).toInt ≤ 2460 * (w7x1.toInt + 3) + 60 * (w12x2.toInt + 20) + w19x3.toInt) → 60 - w19x3.toInt ≤ (m : Int) → zGo X l 4 0 0 287 81 [(0, .ref 336), (1, .int w7x1), (2, .int w12x2), (3, .int w19x3)] [] w19M Q := by
                      intro m
                      induction m using Nat.strongRecOn with
                      | ind w19m w19ih =>
                        intro w19x3 w19M w19b3 w19s w19I w19F w19J w19r0 w19q
                        have w20 := ib336_39 w19I
                        refine zs_iload_n (pc := 81) t287_81 rfl ?_
                        refine zs_aload_n (pc := 82) t287_82 rfl ?_
                        refine zs_get (pc := 83) t287_83 (by decide) (zk1 (w19s.k fk_zMm_336)) (w19s.p rfl fv_zMm_336_0) ?_
                        refine zs_iconst (pc := 86) t287_86 (v := 1) (by decide) ?_
                        refine zs_iald (pc := 87) t287_87 (j := 1) (by decide) (zk1 (w19s.k fk_zMm_337)) li1 (zk2 (w19s.k fk_zMm_337) (by decide)) ((w19F 337 1 rfl).trans ((w18F 337 1 rfl).trans ((w12F 337 1 rfl).trans ((w7F 337 1 rfl).trans ((zIo (by decide)).trans ((w1F 337 1 rfl).trans rfl)))))) ?_
                        by_cases w21 : (zI M 337 1).toInt ≤ w19x3.toInt
                        · refine zs_icmp_geT (pc := 88) t287_88 rfl rfl (by omega) ?_
                          obtain ⟨w22v, w22e, w22⟩ := ziadd (a := w12x2) (b := Int32.ofInt 1) rfl (show (Int32.ofInt 1).toInt = 1 by decide) (by omega) (by omega)
                          refine zs_iinc (pc := 170) t287_170 (ls' := [(2, .int w22v), (0, .ref 336), (1, .int w7x1), (3, .int w19x3)]) (zml mf287 (by decide)) rfl (c := w22v) w22e rfl ?_
                          refine zs_goto (pc := 173) t287_173 ?_
                          refine zGo.locals (ls' := [(0, .ref 336), (1, .int w7x1), (2, .int w22v)]) (by simp) ?_
                          have w23 := w22
                          have w24 : (zI w19M 336 39).toInt = (zI w19M 336 39).toInt := (congrArg Int32.toInt rfl).trans rfl
                          exact w12ih (w12m - 1) (by omega) w22v w19M ⟨by omega, by omega⟩ w19s w19I ((((zFr.refl).trans (w12F.mono rfl)).trans (w18F.mono rfl)).trans (w19F.mono rfl)) (w19J.trans (w18J.trans w12J)) (by omega) (by omega)
                        · refine zs_icmp_geF (pc := 88) t287_88 rfl rfl (by omega) ?_
                          refine zs_aload_n (pc := 91) t287_91 rfl ?_
                          refine zs_get (pc := 92) t287_92 (by decide) (zk1 (w19s.k fk_zMm_336)) (w19s.p rfl fv_zMm_336_16) ?_
                          refine zs_iload_n (pc := 95) t287_95 rfl ?_
                          obtain ⟨w25n, w25⟩ : ∃ n : Nat, w19x3.toInt = (n : Int) := ⟨(w19x3.toInt).toNat, by omega⟩
                          have w26 := ib343 w1I w25n
                          refine zs_bald (pc := 96) t287_96 (j := w25n) (Or.inr (zk1 (w19s.k fk_zMm_343))) (show w19x3.toInt = ((w25n : Nat) : Int) by omega) (zk2 (w19s.k fk_zMm_343) (by omega)) ((w19F 343 w25n rfl).trans ((w18F 343 w25n rfl).trans ((w12F 343 w25n rfl).trans ((w7F 343 w25n rfl).trans ((zIo (by decide)).trans rfl))))) ?_
                          by_cases w27 : (zI w1M 343 w25n).toInt = 0
                          · refine zs_if_eqT (pc := 97) t287_97 rfl (by omega) ?_
                            obtain ⟨w28v, w28e, w28⟩ := ziadd (a := w19x3) (b := Int32.ofInt 1) rfl (show (Int32.ofInt 1).toInt = 1 by decide) (by omega) (by omega)
                            refine zs_iinc (pc := 164) t287_164 (ls' := [(3, .int w28v), (0, .ref 336), (1, .int w7x1), (2, .int w12x2)]) (zml mf287 (by decide)) rfl (c := w28v) w28e rfl ?_
                            refine zs_goto (pc := 167) t287_167 ?_
                            refine zGo.locals (ls' := [(0, .ref 336), (1, .int w7x1), (2, .int w12x2), (3, .int w28v)]) (by simp) ?_
                            have w29 := w28
                            have w30 : (zI w19M 336 39).toInt = (zI w19M 336 39).toInt := (congrArg Int32.toInt rfl).trans rfl
                            exact w19ih (w19m - 1) (by omega) w28v w19M ⟨by omega, by omega⟩ w19s w19I ((zFr.refl).trans (w19F.mono rfl)) w19J (by omega) (by omega)
                          · refine zs_if_eqF (pc := 97) t287_97 rfl (by omega) ?_
                            refine zs_aload_n (pc := 100) t287_100 rfl ?_
                            refine zs_iload_n (pc := 101) t287_101 rfl ?_
                            refine zs_invV (pc := 102) (k := 336) (as' := [.int w19x3]) (st := []) t287_102 mf276 rfl rfl (Or.inl ⟨by decide, (zk1 (w19s.k fk_zMm_336))⟩) ⟨by decide, by decide, Nat.le_of_ble_eq_true rfl, Nat.le_of_ble_eq_true rfl⟩ (K276 w19s w19I ⟨by omega, by omega⟩ ?_) (fun _ _ q => q)
                            intro w31v  w31a w31b
                            show zGo X l 4 0 0 287 105 [(0, .ref 336), (1, .int w7x1), (2, .int w12x2), (3, .int w19x3)] [.int w31v] w19M _
                            by_cases w32 : w31v.toInt = 0
                            · refine zs_if_eqT (pc := 105) t287_105 rfl (by omega) ?_
                              obtain ⟨w33v, w33e, w33⟩ := ziadd (a := w19x3) (b := Int32.ofInt 1) rfl (show (Int32.ofInt 1).toInt = 1 by decide) (by omega) (by omega)
                              refine zs_iinc (pc := 164) t287_164 (ls' := [(3, .int w33v), (0, .ref 336), (1, .int w7x1), (2, .int w12x2)]) (zml mf287 (by decide)) rfl (c := w33v) w33e rfl ?_
                              refine zs_goto (pc := 167) t287_167 ?_
                              refine zGo.locals (ls' := [(0, .ref 336), (1, .int w7x1), (2, .int w12x2), (3, .int w33v)]) (by simp) ?_
                              have w34 := w33
                              have w35 : (zI w19M 336 39).toInt = (zI w19M 336 39).toInt := (congrArg Int32.toInt rfl).trans rfl
                              exact w19ih (w19m - 1) (by omega) w33v w19M ⟨by omega, by omega⟩ w19s w19I ((zFr.refl).trans (w19F.mono rfl)) w19J (by omega) (by omega)
                            · refine zs_if_eqF (pc := 105) t287_105 rfl (by omega) ?_
                              refine zs_aload_n (pc := 108) t287_108 rfl ?_
                              refine zs_iload_n (pc := 109) t287_109 rfl ?_
                              refine zs_iload_n (pc := 110) t287_110 rfl ?_
                              refine zs_aload_n (pc := 111) t287_111 rfl ?_
                              refine zs_get (pc := 112) t287_112 (by decide) (zk1 (w19s.k fk_zMm_336)) (w19s.p rfl fv_zMm_336_17) ?_
                              refine zs_iload_n (pc := 115) t287_115 rfl ?_
                              have w36 := zrg (zI w18M 344 w25n)
                              refine zs_iald (pc := 116) t287_116 (j := w25n) (by decide) (zk1 (w19s.k fk_zMm_344)) (show w19x3.toInt = ((w25n : Nat) : Int) by omega) (zk2 (w19s.k fk_zMm_344) (by omega)) ((w19F 344 w25n rfl).trans rfl) ?_
                              refine zs_invV (pc := 117) (k := 336) (as' := [.int w7x1, .int w12x2, .int (zI w18M 344 w25n)]) (st := []) t287_117 mf288 rfl rfl (Or.inl ⟨by decide, (zk1 (w19s.k fk_zMm_336))⟩) ⟨by decide, by decide, Nat.le_of_ble_eq_true rfl, Nat.le_of_ble_eq_true rfl⟩ (K288 w19s w19I ?_) (fun _ _ q => q)
                              intro w37v  w37a w37b
                              show zGo X l 4 0 0 287 120 [(0, .ref 336), (1, .int w7x1), (2, .int w12x2), (3, .int w19x3)] [.int w37v] w19M _
                              by_cases w38 : w37v.toInt = 0
                              · refine zs_if_eqT (pc := 120) t287_120 rfl (by omega) ?_
                                refine zs_aload_n (pc := 126) t287_126 rfl ?_
                                refine zs_aload_n (pc := 127) t287_127 rfl ?_
                                refine zs_get (pc := 128) t287_128 (by decide) (zk1 (w19s.k fk_zMm_336)) (w19s.p rfl fv_zMm_336_17) ?_
                                refine zs_iload_n (pc := 131) t287_131 rfl ?_
                                refine zs_iald (pc := 132) t287_132 (j := w25n) (by decide) (zk1 (w19s.k fk_zMm_344)) (show w19x3.toInt = ((w25n : Nat) : Int) by omega) (zk2 (w19s.k fk_zMm_344) (by omega)) ((w19F 344 w25n rfl).trans rfl) ?_
                                refine zs_invV (pc := 133) (k := 336) (as' := [.int (zI w18M 344 w25n)]) (st := []) t287_133 mf277 rfl rfl (Or.inl ⟨by decide, (zk1 (w19s.k fk_zMm_336))⟩) ⟨by decide, by decide, Nat.le_of_ble_eq_true rfl, Nat.le_of_ble_eq_true rfl⟩ (K277 w19s w19I ?_) (fun _ _ q => q)
                                intro w39v w39x0
                                have w39g := zrg w39v
                                show zGo X l 4 0 0 287 136 [(0, .ref 336), (1, .int w7x1), (2, .int w12x2), (3, .int w19x3)] [.int w39v] w19M _
                                refine zs_istore (pc := 136) t287_136 (ls' := [(4, .int w39v), (0, .ref 336), (1, .int w7x1), (2, .int w12x2), (3, .int w19x3)]) (zml mf287 (by decide)) rfl ?_
                                refine zs_iload (pc := 138) t287_138 rfl ?_
                                refine zs_aload_n (pc := 140) t287_140 rfl ?_
                                refine zs_get (pc := 141) t287_141 (by decide) (zk1 (w19s.k fk_zMm_336)) (w19s.p rfl fv_zMm_336_0) ?_
                                refine zs_bipush (pc := 144) t287_144 (v := 8) (by decide) ?_
                                have w40 := ibA8 hI
                                refine zs_iald (pc := 146) t287_146 (j := 8) (by decide) (zk1 (w19s.k fk_zMm_337)) li8 (zk2 (w19s.k fk_zMm_337) (by decide)) ((w19F 337 8 rfl).trans ((w18F 337 8 rfl).trans ((w12F 337 8 rfl).trans ((w7F 337 8 rfl).trans ((zIo (by decide)).trans ((w1F 337 8 rfl).trans rfl)))))) ?_
                                by_cases w41 : w39v.toInt < (zI M 337 8).toInt
                                · refine zs_icmp_ltT (pc := 147) t287_147 rfl rfl (by omega) ?_
                                  obtain ⟨w42v, w42e, w42⟩ := ziadd (a := w19x3) (b := Int32.ofInt 1) rfl (show (Int32.ofInt 1).toInt = 1 by decide) (by omega) (by omega)
                                  refine zs_iinc (pc := 164) t287_164 (ls' := [(3, .int w42v), (4, .int w39v), (0, .ref 336), (1, .int w7x1), (2, .int w12x2)]) (zml mf287 (by decide)) rfl (c := w42v) w42e rfl ?_
                                  refine zs_goto (pc := 167) t287_167 ?_
                                  refine zGo.locals (ls' := [(0, .ref 336), (1, .int w7x1), (2, .int w12x2), (3, .int w42v)]) (by simp) ?_
                                  have w43 := w42
                                  have w44 : (zI w19M 336 39).toInt = (zI w19M 336 39).toInt := (congrArg Int32.toInt rfl).trans rfl
                                  exact w19ih (w19m - 1) (by omega) w42v w19M ⟨by omega, by omega⟩ w19s w19I ((zFr.refl).trans (w19F.mono rfl)) w19J (by omega) (by omega)
                                · refine zs_icmp_ltF (pc := 147) t287_147 rfl rfl (by omega) ?_
                                  refine zs_aload_n (pc := 150) t287_150 rfl ?_
                                  refine zs_iload_n (pc := 151) t287_151 rfl ?_
                                  refine zs_iload_n (pc := 152) t287_152 rfl ?_
                                  refine zs_aload_n (pc := 153) t287_153 rfl ?_
                                  refine zs_get (pc := 154) t287_154 (by decide) (zk1 (w19s.k fk_zMm_336)) (w19s.p rfl fv_zMm_336_17) ?_
                                  refine zs_iload_n (pc := 157) t287_157 rfl ?_
                                  refine zs_iald (pc := 158) t287_158 (j := w25n) (by decide) (zk1 (w19s.k fk_zMm_344)) (show w19x3.toInt = ((w25n : Nat) : Int) by omega) (zk2 (w19s.k fk_zMm_344) (by omega)) ((w19F 344 w25n rfl).trans rfl) ?_
                                  refine zs_iload (pc := 159) t287_159 rfl ?_
                                  have w45 : (zI w19M 336 39).toInt = (zI w19M 336 39).toInt := (congrArg Int32.toInt rfl).trans rfl
                                  have w46 : (zI w19M 336 39).toInt = (zI w19M 336 39).toInt := (congrArg Int32.toInt rfl).trans rfl
                                  refine zs_invV (pc := 161) (k := 336) (as' := [.int w7x1, .int w12x2, .int (zI w18M 344 w25n), .int w39v]) (st := []) t287_161 mf289 rfl rfl (Or.inl ⟨by decide, (zk1 (w19s.k fk_zMm_336))⟩) ⟨by decide, by decide, Nat.le_of_ble_eq_true rfl, Nat.le_of_ble_eq_true rfl⟩ (K289 w19s w19I (by omega) ?_) (fun _ _ q => q)
                                  intro w47M w47s w47I w47F w47J w47t0
                                  have w48 := ib336_39 w47I
                                  show zGo X l 4 0 0 287 164 [(4, .int w39v), (0, .ref 336), (1, .int w7x1), (2, .int w12x2), (3, .int w19x3)] [] w47M _
                                  obtain ⟨w49v, w49e, w49⟩ := ziadd (a := w19x3) (b := Int32.ofInt 1) rfl (show (Int32.ofInt 1).toInt = 1 by decide) (by omega) (by omega)
                                  refine zs_iinc (pc := 164) t287_164 (ls' := [(3, .int w49v), (4, .int w39v), (0, .ref 336), (1, .int w7x1), (2, .int w12x2)]) (zml mf287 (by decide)) rfl (c := w49v) w49e rfl ?_
                                  refine zs_goto (pc := 167) t287_167 ?_
                                  refine zGo.locals (ls' := [(0, .ref 336), (1, .int w7x1), (2, .int w12x2), (3, .int w49v)]) (by simp) ?_
                                  have w50 := w49
                                  have w51 : (zI w47M 336 39).toInt = (zI w47M 336 39).toInt := (congrArg Int32.toInt rfl).trans rfl
                                  exact w19ih (w19m - 1) (by omega) w49v w47M ⟨by omega, by omega⟩ w47s w47I (((zFr.refl).trans (w19F.mono rfl)).trans (w47F.mono rfl)) (w47J.trans w19J) (by omega) (by omega)
                              · refine zs_if_eqF (pc := 120) t287_120 rfl (by omega) ?_
                                refine zs_goto (pc := 123) t287_123 ?_
                                obtain ⟨w52v, w52e, w52⟩ := ziadd (a := w19x3) (b := Int32.ofInt 1) rfl (show (Int32.ofInt 1).toInt = 1 by decide) (by omega) (by omega)
                                refine zs_iinc (pc := 164) t287_164 (ls' := [(3, .int w52v), (0, .ref 336), (1, .int w7x1), (2, .int w12x2)]) (zml mf287 (by decide)) rfl (c := w52v) w52e rfl ?_
                                refine zs_goto (pc := 167) t287_167 ?_
                                refine zGo.locals (ls' := [(0, .ref 336), (1, .int w7x1), (2, .int w12x2), (3, .int w52v)]) (by simp) ?_
                                have w53 := w52
                                have w54 : (zI w19M 336 39).toInt = (zI w19M 336 39).toInt := (congrArg Int32.toInt rfl).trans rfl
                                exact w19ih (w19m - 1) (by omega) w52v w19M ⟨by omega, by omega⟩ w19s w19I ((zFr.refl).trans (w19F.mono rfl)) w19J (by omega) (by omega)
                    refine zGo.locals (ls' := [(0, .ref 336), (1, .int w7x1), (2, .int w12x2), (3, .int (0 : Int32))]) (by simp) ?_
                    have w55 := li0
                    have w56 : (zI w18M 336 39).toInt = (zI w12M 336 39).toInt := (congrArg Int32.toInt ((w18F 336 39 rfl).trans rfl)).trans rfl
                    exact w19L ((60 - 0 : Int).toNat) (0 : Int32) w18M ⟨by decide, by decide⟩ w18s w18I zFr.refl rfl (by omega) (by omega)
              refine zGo.locals (ls' := [(0, .ref 336), (1, .int w7x1), (2, .int w11v)]) (by simp) ?_
              have w57 := w11
              have w58 : (zI w7M 336 39).toInt = (zI w7M 336 39).toInt := (congrArg Int32.toInt rfl).trans rfl
              exact w12L ((21 - (-(zI M 337 6).toInt) : Int).toNat) w11v w7M ⟨by omega, by omega⟩ w7s w7I zFr.refl rfl (by omega) (by omega)
        refine zGo.locals (ls' := [(0, .ref 336), (1, .int w6v)]) (by simp) ?_
        have w59 := w6
        have w60 : (zI (zsI w1M 336 39 (0 : Int32)) 336 39).toInt = 0 := (congrArg Int32.toInt zIs).trans li0
        exact w7L ((4 - (-(zI M 337 5).toInt) : Int).toNat) w6v (zsI w1M 336 39 (0 : Int32)) ⟨by omega, by omega⟩ w1s w4 zFr.refl rfl (by omega) (by omega)
      · refine zs_icmp_geF (pc := 9) t287_9 rfl rfl (by omega) ?_
        refine zs_aload_n (pc := 12) t287_12 rfl ?_
        refine zs_get (pc := 13) t287_13 (by decide) (zk1 (w1s.k fk_zMm_336)) (w1s.p rfl fv_zMm_336_16) ?_
        refine zs_iload_n (pc := 16) t287_16 rfl ?_
        refine zs_aload_n (pc := 17) t287_17 rfl ?_
        refine zs_iload_n (pc := 18) t287_18 rfl ?_
        refine zs_iconst (pc := 19) t287_19 (v := -1) (by decide) ?_
        refine zs_invV (pc := 20) (k := 336) (as' := [.int w1x1, .int (-1 : Int32)]) (st := [.int w1x1, .ref 343]) t287_20 mf271 rfl rfl (Or.inl ⟨by decide, (zk1 (w1s.k fk_zMm_336))⟩) ⟨by decide, by decide, Nat.le_of_ble_eq_true rfl, Nat.le_of_ble_eq_true rfl⟩ (K271 w1s w1I ⟨by omega, by omega⟩ ?_) (fun _ _ q => q)
        intro w61v  w61a w61b
        show zGo X l 4 0 0 287 23 [(0, .ref 336), (1, .int w1x1)] [.int w61v, .int w1x1, .ref 343] w1M _
        obtain ⟨w62n, w62⟩ : ∃ n : Nat, w1x1.toInt = (n : Int) := ⟨(w1x1.toInt).toNat, by omega⟩
        have w63e : vp_nar .boolean w61v = w61v := zb01 (by omega)
        have w64 : zIv mLo mHi (zsI w1M 343 w62n w61v) := zIv.put w1I (show 0 ≤ w61v.toInt ∧ w61v.toInt ≤ 1 from ⟨by omega, by omega⟩)
        refine zs_bastZ (pc := 23) t287_23 (j := w62n) (by decide) (zk1 (w1s.k fk_zMm_343)) (show w1x1.toInt = ((w62n : Nat) : Int) by omega) (zk2 (w1s.k fk_zMm_343) (by omega)) w63e ?_
        obtain ⟨w65v, w65e, w65⟩ := ziadd (a := w1x1) (b := Int32.ofInt 1) rfl (show (Int32.ofInt 1).toInt = 1 by decide) (by omega) (by omega)
        refine zs_iinc (pc := 24) t287_24 (ls' := [(1, .int w65v), (0, .ref 336)]) (zml mf287 (by decide)) rfl (c := w65v) w65e rfl ?_
        refine zs_goto (pc := 27) t287_27 ?_
        refine zGo.locals (ls' := [(0, .ref 336), (1, .int w65v)]) (by simp) ?_
        have w66 := w65
        exact w1ih (w1m - 1) (by omega) w65v (zsI w1M 343 w62n w61v) ⟨by omega, by omega⟩ w1s w64 (((zFr.refl).trans (w1F.mono rfl)).put rfl) w1J (by omega)
  refine zGo.locals (ls' := [(0, .ref 336), (1, .int (0 : Int32))]) (by simp) ?_
  have w67 := li0
  exact w1L ((60 - 0 : Int).toNat) (0 : Int32) M ⟨by decide, by decide⟩ hs hI zFr.refl rfl (by omega)
