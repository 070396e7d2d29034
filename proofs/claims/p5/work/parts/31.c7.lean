theorem K287 {X : zX} {l : Launch} {M : zM} {Q : Option Value → zM → Prop} (hs : zSk zMm M) (hI : zIv mLo mHi M) (hQ : ∀ M', zSk zMm M' → zIv mLo mHi M' → zFr [(343, 343, none), (344, 344, none), (336, 336, some 39), (359, 359, none)] M M' → zJ M' 351 = zJ M 351 → Q none M') : zCall X l 4 0 0 287 [.ref 336] M Q := by
  refine zs_in (by decide) mf287 (Nat.le_of_ble_eq_true rfl) ?_
  show zGo X l 4 0 0 287 0 [(0, .ref 336)] [] M _
  refine zs_iconst (pc := 0) t287_0 (v := 0) (by decide) ?_
  refine zs_istore_n (pc := 1) t287_1 (ls' := [(1, .int (0 : Int32)), (0, .ref 336)]) (zml mf287 (by decide)) rfl ?_
  have w1L : ∀ (m : Nat) (w1x1 : Int32) (w1M : zM), (0 ≤ w1x1.toInt ∧ w1x1.toInt ≤ 60) → zSk zMm w1M → zIv mLo mHi w1M → zFr [(343, 343, none)] M w1M → zJ w1M 351 = zJ M 351 → 60 - w1x1.toInt ≤ (m : Int) → zGo X l 4 0 0 287 2 [(0, .ref 336), (1, .int w1x1)] [] w1M Q := by
    intro m
    induction m using Nat.strongRecOn with
    | ind w1m w1ih =>
      intro w1x1 w1M w1b1 w1s w1I w1F w1J w1q
      refine zs_iload_n (pc := 2) t287_2 rfl ?_
      refine zs_aload_n (pc := 3) t287_3 rfl ?_
      refine zs_get (pc := 4) t287_4 (by decide) (zk1 (w1s.k fk_zMm_336)) (w1s.p rfl fv_zMm_336_0) ?_
      refine zs_iconst (pc := 7) t287_7 (v := 1) (by decide) ?_
      have w2 := ibA1 hI
      refine zs_iald (pc := 8) t287_8 (j := 1) (by decide) (zk1 (w1s.k fk_zMm_337)) li1 (zk2 (w1s.k fk_zMm_337) (by decide)) ((w1F 337 1 rfl).trans rfl) ?_
      by_cases w3 : (zI M 337 1).toInt ≤ w1x1.toInt
      · refine zs_icmp_geT (pc := 9) t287_9 rfl rfl (by omega) ?_
        refine zs_aload_n (pc := 30) t287_30 rfl ?_
        refine zs_iconst (pc := 31) t287_31 (v := 0) (by decide) ?_
        have w4 : zIv mLo mHi (zsI w1M 336 39 (0 : Int32)) := zIv.put w1I (show 0 ≤ (0 : Int32).toInt ∧ (0 : Int32).toInt ≤ 20000 from ⟨by decide, by decide⟩)
        refine zs_putI (pc := 32) t287_32 (zk1 (w1s.k fk_zMm_336)) rfl ?_
        refine zs_aload_n (pc := 35) t287_35 rfl ?_
        refine zs_get (pc := 36) t287_36 (by decide) (zk1 (w1s.k fk_zMm_336)) (w1s.p rfl fv_zMm_336_0) ?_
        refine zs_iconst (pc := 39) t287_39 (v := 5) (by decide) ?_
        have w5 := ibA5 hI
        refine zs_iald (pc := 40) t287_40 (j := 5) (by decide) (zk1 (w1s.k fk_zMm_337)) li5 (zk2 (w1s.k fk_zMm_337) (by decide)) ((zIo (by decide)).trans ((w1F 337 5 rfl).trans rfl)) ?_
        obtain ⟨w6v, w6e⟩ : ∃ v, -(zI M 337 5) = v := ⟨_, rfl⟩
        have w6 : w6v.toInt = -(zI M 337 5).toInt := by rw [← w6e]; exact zneg rfl (by omega)
        refine zs_ineg (pc := 41) t287_41 (c := w6v) w6e ?_
        refine zs_istore_n (pc := 42) t287_42 (ls' := [(1, .int w6v), (0, .ref 336)]) (zml mf287 (by decide)) rfl ?_
        have w7L : ∀ (m : Nat) (w7x1 : Int32) (w7M : zM), ((-3) ≤ w7x1.toInt ∧ w7x1.toInt ≤ 4) → zSk zMm w7M → zIv mLo mHi w7M → zFr [(344, 344, none), (336, 336, some 39), (359, 359, none)] (zsI w1M 336 39 (0 : Int32)) w7M → zJ w7M 351 = zJ (zsI w1M 336 39 (0 : Int32)) 351 → ((zI w7M 336 39).toInt ≤ 2460 * (w7x1.toInt + 3)) → 4 - w7x1.toInt ≤ (m : Int) → zGo X l 4 0 0 287 43 [(0, .ref 336), (1, .int w7x1)] [] w7M Q := by
          intro m
          induction m using Nat.strongRecOn with
          | ind w7m w7ih =>
            intro w7x1 w7M w7b1 w7s w7I w7F w7J w7r0 w7q
            have w8 := ib336_39 w7I
            refine zs_iload_n (pc := 43) t287_43 rfl ?_
            refine zs_aload_n (pc := 44) t287_44 rfl ?_
            refine zs_get (pc := 45) t287_45 (by decide) (zk1 (w7s.k fk_zMm_336)) (w7s.p rfl fv_zMm_336_0) ?_
            refine zs_iconst (pc := 48) t287_48 (v := 5) (by decide) ?_
            refine zs_iald (pc := 49) t287_49 (j := 5) (by decide) (zk1 (w7s.k fk_zMm_337)) li5 (zk2 (w7s.k fk_zMm_337) (by decide)) ((w7F 337 5 rfl).trans ((zIo (by decide)).trans ((w1F 337 5 rfl).trans rfl))) ?_
            by_cases w9 : (zI M 337 5).toInt < w7x1.toInt
            · refine zs_icmp_gtT (pc := 50) t287_50 rfl rfl (by omega) ?_
              exact zs_vret (pc := 182) t287_182 mr287 (hQ _ w7s w7I ((((zFr.refl).trans (w1F.mono rfl)).put rfl).trans (w7F.mono rfl)) (w7J.trans w1J))
            · refine zs_icmp_gtF (pc := 50) t287_50 rfl rfl (by omega) ?_
              refine zs_aload_n (pc := 53) t287_53 rfl ?_
              refine zs_get (pc := 54) t287_54 (by decide) (zk1 (w7s.k fk_zMm_336)) (w7s.p rfl fv_zMm_336_0) ?_
              refine zs_bipush (pc := 57) t287_57 (v := 6) (by decide) ?_
              have w10 := ibA6 hI
              refine zs_iald (pc := 59) t287_59 (j := 6) (by decide) (zk1 (w7s.k fk_zMm_337)) li6 (zk2 (w7s.k fk_zMm_337) (by decide)) ((w7F 337 6 rfl).trans ((zIo (by decide)).trans ((w1F 337 6 rfl).trans rfl))) ?_
              obtain ⟨w11v, w11e⟩ : ∃ v, -(zI M 337 6) = v := ⟨_, rfl⟩
              have w11 : w11v.toInt = -(zI M 337 6).toInt := by rw [← w11e]; exact zneg rfl (by omega)
              refine zs_ineg (pc := 60) t287_60 (c := w11v) w11e ?_
              refine zs_istore_n (pc := 61) t287_61 (ls' := [(2, .int w11v), (0, .ref 336), (1, .int w7x1)]) (zml mf287 (by decide)) rfl ?_
              have w12L : ∀ (m : Nat) (w12x2 : Int32) (w12M : zM), ((-20) ≤ w12x2.toInt ∧ w12x2.toInt ≤ 21) → zSk zMm w12M → zIv mLo mHi w12M → zFr [(344, 344, none), (336, 336, some 39), (359, 359, none)] w7M w12M → zJ w12M 351 = zJ w7M 351 → ((zI w12M 336 39).toInt ≤ 2460 * (w7x1.toInt + 3) + 60 * (w12x2.toInt + 20)) → 21 - w12x2.toInt ≤ (m : Int) → zGo X l 4 0 0 287 62 [(0, .ref 336), (1, .int w7x1), (2, .int w12x2)] [] w12M Q := by
                intro m
                induction m using Nat.strongRecOn with
                | ind w12m w12ih =>
                  intro w12x2 w12M w12b2 w12s w12I w12F w12J w12r0 w12q
                  have w13 := ib336_39 w12I
                  refine zs_iload_n (pc := 62) t287_62 rfl ?_
                  refine zs_aload_n (pc := 63) t287_63 rfl ?_
                  refine zs_get (pc := 64) t287_64 (by decide) (zk1 (w12s.k fk_zMm_336)) (w12s.p rfl fv_zMm_336_0) ?_
                  refine zs_bipush (pc := 67) t287_67 (v := 6) (by decide) ?_
                  refine zs_iald (pc := 69) t287_69 (j := 6) (by decide) (zk1 (w12s.k fk_zMm_337)) li6 (zk2 (w12s.k fk_zMm_337) (by decide)) ((w12F 337 6 rfl).trans ((w7F 337 6 rfl).trans ((zIo (by decide)).trans ((w1F 337 6 rfl).trans rfl)))) ?_
                  by_cases w14 : (zI M 337 6).toInt < w12x2.toInt
                  · refine zs_icmp_gtT (pc := 70) t287_70 rfl rfl (by omega) ?_
                    obtain ⟨w15v, w15e, w15⟩ := ziadd (a := w7x1) (b := Int32.ofInt 1) rfl (show (Int32.ofInt 1).toInt = 1 by decide) (by omega) (by omega)
                    refine zs_iinc (pc := 176) t287_176 (ls' := [(1, .int w15v), (0, .ref 336), (2, .int w12x2)]) (zml mf287 (by decide)) rfl (c := w15v) w15e rfl ?_
                    refine zs_goto (pc := 179) t287_179 ?_
                    refine zGo.locals (ls' := [(0, .ref 336), (1, .int w15v)]) (by simp) ?_
                    have w16 := w15
                    have w17 : (zI w12M 336 39).toInt = (zI w12M 336 39).toInt := (congrArg Int32.toInt rfl).trans rfl
                    exact w7ih (w7m - 1) (by omega) w15v w12M ⟨by omega, by omega⟩ w12s w12I (((zFr.refl).trans (w7F.mono rfl)).trans (w12F.mono rfl)) (w12J.trans w7J) (by omega) (by omega)
                  · refine zs_icmp_gtF (pc := 70) t287_70 rfl rfl (by omega) ?_
                    refine zs_aload_n (pc := 73) t287_73 rfl ?_
                    refine zs_iload_n (pc := 74) t287_74 rfl ?_
                    refine zs_iload_n (pc := 75) t287_75 rfl ?_
                    refine zs_invV (pc := 76) (k := 336) (as' := [.int w12x2, .int w7x1]) (st := []) t287_76 mf275 rfl rfl (Or.inl ⟨by decide, (zk1 (w12s.k fk_zMm_336))⟩) ⟨by decide, by decide, Nat.le_of_ble_eq_true rfl, Nat.le_of_ble_eq_true rfl⟩ (K275 w12s w12I ?_) (fun _ _ q => q)
                    intro w18M w18s w18I w18F w18J w18x0
                    show zGo X l 4 0 0 287 79 [(0, .ref 336), (1, .int w7x1), (2, .int w12x2)] [] w18M _
                    refine zs_iconst (pc := 79) t287_79 (v := 0) (by decide) ?_
                    refine zs_istore_n (pc := 80) t287_80 (ls' := [(3, .int (0 : Int32)), (0, .ref 336), (1, .int w7x1), (2, .int w12x2)]) (zml mf287 (by decide)) rfl ?_
                    have w19L : ∀ (m : Nat) (w19x3 : Int32) (w19M : zM), (0 ≤ w19x3.toInt ∧ w19x3.toInt ≤ 60) → zSk zMm w19M → zIv mLo mHi w19M → zFr [(336, 336, some 39), (359, 359, none)] w18M w19M → zJ w19M 351 = zJ w18M 351 → ((zI w19M 336 39).toInt ≤ 2460 * (w7x1.toInt + 3) + 60 * (w12x2.toInt + 20) + w19x3.toInt) → 60 - w19x3.toInt ≤ (m : Int) → zGo X l 4 0 0 287 81 [(0, .ref 336), (1, .int w7x1), (2, .int w12x2), (3, .int w19x3)] [] w19M Q := by
                      intro m
                      induction m using Nat.strongRecOn with
                      | ind w19m w19ih =>
                        intro w19x3 w19M w19b3 w19s w19I w19F w19J w19r0 w19q
                        have w20 := ib336_39 w19I
                        refine zs_iload_n (pc := 81) t287_81 rfl ?_
                        refine zs_aload_n (pc := 82) t287_82 rfl ?_
                        refine zs_get (pc := 83) t287_83 (by decide) (zk1 (w19s.k fk_zMm_336)) (w19s.p rfl fv_zMm_336_0) ?_
                        refine zs_iconst (pc := 86) t287_86 (v := 1) (by decide) ?_
                        refine zs_iald (pc := 87) t287_87 (j := 1) (by decide) (zk1 (w19s.k fk_zMm_337)) li1 (zk2 (w19s.k fk_zMm_337) (by decide)) ((w19F 337 1 rfl).trans ((w18F 337 1 rfl).trans ((w12F 337 1 rfl).trans ((w7F 337 1 rfl).trans ((zIo (by decide)).trans ((w1F 337 1 rfl).trans rfl)))))) ?_
                        by_cases w21 : (zI M 337 1).toInt ≤ w19x3.toInt
                        · refine zs_icmp_geT (pc := 88) t287_88 rfl rfl (by omega) ?_
                          obtain ⟨w22v, w22e, w22⟩ := ziadd (a := w12x2) (b := Int32.ofInt 1) rfl (show (Int32.ofInt 1).toInt = 1 by decide) (by omega) (by omega)
                          refine zs_iinc (pc := 170) t287_170 (ls' := [(2, .int w22v), (0, .ref 336), (1, .int w7x1), (3, .int w19x3)]) (zml mf287 (by decide)) rfl (c := w22v) w22e rfl ?_
                          refine zs_goto (pc := 173) t287_173 ?_
                          refine zGo.locals (ls' := [(0, .ref 336), (1, .int w7x1), (2, .int w22v)]) (by simp) ?_
                          have w23 := w22
                          have w24 : (zI w19M 336 39).toInt = (zI w19M 336 39).toInt := (congrArg Int32.toInt rfl).trans rfl
                          exact w12ih (w12m - 1) (by omega) w22v w19M ⟨by omega, by omega⟩ w19s w19I ((((zFr.refl).trans (w12F.mono rfl)).trans (w18F.mono rfl)).trans (w19F.mono rfl)) (w19J.trans (w18J.trans w12J)) (by omega) (by omega)
                        · refine zs_icmp_geF (pc := 88) t287_88 rfl rfl (by omega) ?_
                          refine zs_aload_n (pc := 91) t287_91 rfl ?_
                          refine zs_get (pc := 92) t287_92 (by decide) (zk1 (w19s.k fk_zMm_336)) (w19s.p rfl fv_zMm_336_16) ?_
                          refine zs_iload_n (pc := 95) t287_95 rfl ?_
                          obtain ⟨w25n, w25⟩ : ∃ n : Nat, w19x3.toInt = (n : Int) := ⟨(w19x3.toInt).toNat, by omega⟩
                          have w26 := ib343 w1I w25n
                          refine zs_bald (pc := 96) t287_96 (j := w25n) (Or.inr (zk1 (w19s.k fk_zMm_343))) (show w19x3.toInt = ((w25n : Nat) : Int) by omega) (zk2 (w19s.k fk_zMm_343) (by omega)) ((w19F 343 w25n rfl).trans ((w18F 343 w25n rfl).trans ((w12F 343 w25n rfl).trans ((w7F 343 w25n rfl).trans ((zIo (by decide)).trans rfl))))) ?_
                          by_cases w27 : (zI w1M 343 w25n).toInt = 0
                          · refine zs_if_eqT (pc := 97) t287_97 rfl (by omega) ?_
                            obtain ⟨w28v, w28e, w28⟩ := ziadd (a := w19x3) (b := Int32.ofInt 1) rfl (show (Int32.ofInt 1).toInt = 1 by decide) (by omega) (by omega)
                            refine zs_iinc (pc := 164) t287_164 (ls' := [(3, .int w28v), (0, .ref 336), (1, .int w7x1), (2, .int w12x2)]) (zml mf287 (by decide)) rfl (c := w28v) w28e rfl ?_
                            refine zs_goto (pc := 167) t287_167 ?_
                            refine zGo.locals (ls' := [(0, .ref 336), (1, .int w7x1), (2, .int w12x2), (3, .int w28v)]) (by simp) ?_
                            have w29 := w28
                            have w30 : (zI w19M 336 39).toInt = (zI w19M 336 39).toInt := (congrArg Int32.toInt rfl).trans rfl
                            exact w19ih (w19m - 1) (by omega) w28v w19M ⟨by omega, by omega⟩ w19s w19I ((zFr.refl).trans (w19F.mono rfl)) w19J (by omega) (by omega)
                          · refine zs_if_eqF (pc := 97) t287_97 rfl (by omega) ?_
                            refine zs_aload_n (pc := 100) t287_100 rfl ?_
                            refine zs_iload_n (pc := 101) t287_101 rfl ?_
                            refine zs_invV (pc := 102) (k := 336) (as' := [.int w19x3]) (st := []) t287_102 mf276 rfl rfl (Or.inl ⟨by decide, (zk1 (w19s.k fk_zMm_336))⟩) ⟨by decide, by decide, Nat.le_of_ble_eq_true rfl, Nat.le_of_ble_eq_true rfl⟩ (K276 w19s w19I ⟨by omega, by omega⟩ ?_) (fun _ _ q => q)
                            intro w31v  w31a w31b
                            show zGo X l 4 0 0 287 105 [(0, .ref 336), (1, .int w7x1), (2, .int w12x2), (3, .int w19x3)] [.int w31v] w19M _
                            by_cases w32 : w31v.toInt = 0
                            · refine zs_if_eqT (pc := 105) t287_105 rfl (by omega) ?_
                              obtain ⟨w33v, w33e, w33⟩ := ziadd (a := w19x3) (b := Int32.ofInt 1) rfl (show (Int32.ofInt 1).toInt = 1 by decide) (by omega) (by omega)
                              refine zs_iinc (pc := 164) t287_164 (ls' := [(3, .int w33v), (0, .ref 336), (1, .int w7x1), (2, .int w12x2)]) (zml mf287 (by decide)) rfl (c := w33v) w33e rfl ?_
                              refine zs_goto (pc := 167) t287_167 ?_
                              refine zGo.locals (ls' := [(0, .ref 336), (1, .int w7x1), (2, .int w12x2), (3, .int w33v)]) (by simp) ?_
                              have w34 := w33
                              have w35 : (zI w19M 336 39).toInt = (zI w19M 336 39).toInt := (congrArg Int32.toInt rfl).trans rfl
                              exact w19ih (w19m - 1) (by omega) w33v w19M ⟨by omega, by omega⟩ w19s w19I ((zFr.refl).trans (w19F.mono rfl)) w19J (by omega) (by omega)
                            · refine zs_if_eqF (pc := 105) t287_105 rfl (by omega) ?_
                              refine zs_aload_n (pc := 108) t287_108 rfl ?_
                              refine zs_iload_n (pc := 109) t287_109 rfl ?_
                              refine zs_iload_n (pc := 110) t287_110 rfl ?_
                              refine zs_aload_n (pc := 111) t287_111 rfl ?_
                              refine zs_get (pc := 112) t287_112 (by decide) (zk1 (w19s.k fk_zMm_336)) (w19s.p rfl fv_zMm_336_17) ?_
                              refine zs_iload_n (pc := 115) t287_115 rfl ?_
                              have w36 := zrg (zI w18M 344 w25n)
                              refine zs_iald (pc := 116) t287_116 (j := w25n) (by decide) (zk1 (w19s.k fk_zMm_344)) (show w19x3.toInt = ((w25n : Nat) : Int) by omega) (zk2 (w19s.k fk_zMm_344) (by omega)) ((w19F 344 w25n rfl).trans rfl) ?_
                              refine zs_invV (pc := 117) (k := 336) (as' := [.int w7x1, .int w12x2, .int (zI w18M 344 w25n)]) (st := []) t287_117 mf288 rfl rfl (Or.inl ⟨by decide, (zk1 (w19s.k fk_zMm_336))⟩) ⟨by decide, by decide, Nat.le_of_ble_eq_true rfl, Nat.le_of_ble_eq_true rfl⟩ (K288 w19s w19I ?_) (fun _ _ q => q)
                              intro w37v  w37a w37b
                              show zGo X l 4 0 0 287 120 [(0, .ref 336), (1, .int w7x1), (2, .int w12x2), (3, .int w19x3)] [.int w37v] w19M _
                              by_cases w38 : w37v.toInt = 0
                              · refine zs_if_eqT (pc := 120) t287_120 rfl (by omega) ?_
                                refine zs_aload_n (pc := 126) t287_126 rfl ?_
                                refine zs_aload_n (pc := 127) t287_127 rfl ?_
                                refine zs_get (pc := 128) t287_128 (by decide) (zk1 (w19s.k fk_zMm_336)) (w19s.p rfl fv_zMm_336_17) ?_
                                refine zs_iload_n (pc := 131) t287_131 rfl ?_
                                refine zs_iald (pc := 132) t287_132 (j := w25n) (by decide) (zk1 (w19s.k fk_zMm_344)) (show w19x3.toInt = ((w25n : Nat) : Int) by omega) (zk2 (w19s.k fk_zMm_344) (by omega)) ((w19F 344 w25n rfl).trans rfl) ?_
                                refine zs_invV (pc := 133) (k := 336) (as' := [.int (zI w18M 344 w25n)]) (st := []) t287_133 mf277 rfl rfl (Or.inl ⟨by decide, (zk1 (w19s.k fk_zMm_336))⟩) ⟨by decide, by decide, Nat.le_of_ble_eq_true rfl, Nat.le_of_ble_eq_true rfl⟩ (K277 w19s w19I ?_) (fun _ _ q => q)
                                intro w39v w39x0
                                have w39g := zrg w39v
                                show zGo X l 4 0 0 287 136 [(0, .ref 336), (1, .int w7x1), (2, .int w12x2), (3, .int w19x3)] [.int w39v] w19M _
                                refine zs_istore (pc := 136) t287_136 (ls' := [(4, .int w39v), (0, .ref 336), (1, .int w7x1), (2, .int w12x2), (3, .int w19x3)]) (zml mf287 (by decide)) rfl ?_
                                refine zs_iload (pc := 138) t287_138 rfl ?_
                                refine zs_aload_n (pc := 140) t287_140 rfl ?_
                                refine zs_get (pc := 141) t287_141 (by decide) (zk1 (w19s.k fk_zMm_336)) (w19s.p rfl fv_zMm_336_0) ?_
                                refine zs_bipush (pc := 144) t287_144 (v := 8) (by decide) ?_
                                have w40 := ibA8 hI
                                refine zs_iald (pc := 146) t287_146 (j := 8) (by decide) (zk1 (w19s.k fk_zMm_337)) li8 (zk2 (w19s.k fk_zMm_337) (by decide)) ((w19F 337 8 rfl).trans ((w18F 337 8 rfl).trans ((w12F 337 8 rfl).trans ((w7F 337 8 rfl).trans ((zIo (by decide)).trans ((w1F 337 8 rfl).trans rfl)))))) ?_
                                by_cases w41 : w39v.toInt < (zI M 337 8).toInt
                                · refine zs_icmp_ltT (pc := 147) t287_147 rfl rfl (by omega) ?_
                                  obtain ⟨w42v, w42e, w42⟩ := ziadd (a := w19x3) (b := Int32.ofInt 1) rfl (show (Int32.ofInt 1).toInt = 1 by decide) (by omega) (by omega)
                                  refine zs_iinc (pc := 164) t287_164 (ls' := [(3, .int w42v), (4, .int w39v), (0, .ref 336), (1, .int w7x1), (2, .int w12x2)]) (zml mf287 (by decide)) rfl (c := w42v) w42e rfl ?_
                                  refine zs_goto (pc := 167) t287_167 ?_
                                  refine zGo.locals (ls' := [(0, .ref 336), (1, .int w7x1), (2, .int w12x2), (3, .int w42v)]) (by simp) ?_
                                  have w43 := w42
                                  have w44 : (zI w19M 336 39).toInt = (zI w19M 336 39).toInt := (congrArg Int32.toInt rfl).trans rfl
                                  exact w19ih (w19m - 1) (by omega) w42v w19M ⟨by omega, by omega⟩ w19s w19I ((zFr.refl).trans (w19F.mono rfl)) w19J (by omega) (by omega)
                                · refine zs_icmp_ltF (pc := 147) t287_147 rfl rfl (by omega) ?_
                                  refine zs_aload_n (pc := 150) t287_150 rfl ?_
                                  refine zs_iload_n (pc := 151) t287_151 rfl ?_
                                  refine zs_iload_n (pc := 152) t287_152 rfl ?_
                                  refine zs_aload_n (pc := 153) t287_153 rfl ?_
                                  refine zs_get (pc := 154) t287_154 (by decide) (zk1 (w19s.k fk_zMm_336)) (w19s.p rfl fv_zMm_336_17) ?_
                                  refine zs_iload_n (pc := 157) t287_157 rfl ?_
                                  refine zs_iald (pc := 158) t287_158 (j := w25n) (by decide) (zk1 (w19s.k fk_zMm_344)) (show w19x3.toInt = ((w25n : Nat) : Int) by omega) (zk2 (w19s.k fk_zMm_344) (by omega)) ((w19F 344 w25n rfl).trans rfl) ?_
                                  refine zs_iload (pc := 159) t287_159 rfl ?_
                                  have w45 : (zI w19M 336 39).toInt = (zI w19M 336 39).toInt := (congrArg Int32.toInt rfl).trans rfl
                                  have w46 : (zI w19M 336 39).toInt = (zI w19M 336 39).toInt := (congrArg Int32.toInt rfl).trans rfl
                                  refine zs_invV (pc := 161) (k := 336) (as' := [.int w7x1, .int w12x2, .int (zI w18M 344 w25n), .int w39v]) (st := []) t287_161 mf289 rfl rfl (Or.inl ⟨by decide, (zk1 (w19s.k fk_zMm_336))⟩) ⟨by decide, by decide, Nat.le_of_ble_eq_true rfl, Nat.le_of_ble_eq_true rfl⟩ (K289 w19s w19I (by omega) ?_) (fun _ _ q => q)
                                  intro w47M w47s w47I w47F w47J w47t0
                                  have w48 := ib336_39 w47I
                                  show zGo X l 4 0 0 287 164 [(4, .int w39v), (0, .ref 336), (1, .int w7x1), (2, .int w12x2), (3, .int w19x3)] [] w47M _
                                  obtain ⟨w49v, w49e, w49⟩ := ziadd (a := w19x3) (b := Int32.ofInt 1) rfl (show (Int32.ofInt 1).toInt = 1 by decide) (by omega) (by omega)
                                  refine zs_iinc (pc := 164) t287_164 (ls' := [(3, .int w49v), (4, .int w39v), (0, .ref 336), (1, .int w7x1), (2, .int w12x2)]) (zml mf287 (by decide)) rfl (c := w49v) w49e rfl ?_
                                  refine zs_goto (pc := 167) t287_167 ?_
                                  refine zGo.locals (ls' := [(0, .ref 336), (1, .int w7x1), (2, .int w12x2), (3, .int w49v)]) (by simp) ?_
                                  have w50 := w49
                                  have w51 : (zI w47M 336 39).toInt = (zI w47M 336 39).toInt := (congrArg Int32.toInt rfl).trans rfl
                                  exact w19ih (w19m - 1) (by omega) w49v w47M ⟨by omega, by omega⟩ w47s w47I (((zFr.refl).trans (w19F.mono rfl)).trans (w47F.mono rfl)) (w47J.trans w19J) (by omega) (by omega)
                              · refine zs_if_eqF (pc := 120) t287_120 rfl (by omega) ?_
                                refine zs_goto (pc := 123) t287_123 ?_
                                obtain ⟨w52v, w52e, w52⟩ := ziadd (a := w19x3) (b := Int32.ofInt 1) rfl (show (Int32.ofInt 1).toInt = 1 by decide) (by omega) (by omega)
                                refine zs_iinc (pc := 164) t287_164 (ls' := [(3, .int w52v), (0, .ref 336), (1, .int w7x1), (2, .int w12x2)]) (zml mf287 (by decide)) rfl (c := w52v) w52e rfl ?_
                                refine zs_goto (pc := 167) t287_167 ?_
                                refine zGo.locals (ls' := [(0, .ref 336), (1, .int w7x1), (2, .int w12x2), (3, .int w52v)]) (by simp) ?_
                                have w53 := w52
                                have w54 : (zI w19M 336 39).toInt = (zI w19M 336 39).toInt := (congrArg Int32.toInt rfl).trans rfl
                                exact w19ih (w19m - 1) (by omega) w52v w19M ⟨by omega, by omega⟩ w19s w19I ((zFr.refl).trans (w19F.mono rfl)) w19J (by omega) (by omega)
                    refine zGo.locals (ls' := [(0, .ref 336), (1, .int w7x1), (2, .int w12x2), (3, .int (0 : Int32))]) (by simp) ?_
                    have w55 := li0
                    have w56 : (zI w18M 336 39).toInt = (zI w12M 336 39).toInt := (congrArg Int32.toInt ((w18F 336 39 rfl).trans rfl)).trans rfl
                    exact w19L ((60 - 0 : Int).toNat) (0 : Int32) w18M ⟨by decide, by decide⟩ w18s w18I zFr.refl rfl (by omega) (by omega)
              refine zGo.locals (ls' := [(0, .ref 336), (1, .int w7x1), (2, .int w11v)]) (by simp) ?_
              have w57 := w11
              have w58 : (zI w7M 336 39).toInt = (zI w7M 336 39).toInt := (congrArg Int32.toInt rfl).trans rfl
              exact w12L ((21 - (-(zI M 337 6).toInt) : Int).toNat) w11v w7M ⟨by omega, by omega⟩ w7s w7I zFr.refl rfl (by omega) (by omega)
        refine zGo.locals (ls' := [(0, .ref 336), (1, .int w6v)]) (by simp) ?_
        have w59 := w6
        have w60 : (zI (zsI w1M 336 39 (0 : Int32)) 336 39).toInt = 0 := (congrArg Int32.toInt zIs).trans li0
        exact w7L ((4 - (-(zI M 337 5).toInt) : Int).toNat) w6v (zsI w1M 336 39 (0 : Int32)) ⟨by omega, by omega⟩ w1s w4 zFr.refl rfl (by omega) (by omega)
      · refine zs_icmp_geF (pc := 9) t287_9 rfl rfl (by omega) ?_
        refine zs_aload_n (pc := 12) t287_12 rfl ?_
        refine zs_get (pc := 13) t287_13 (by decide) (zk1 (w1s.k fk_zMm_336)) (w1s.p rfl fv_zMm_336_16) ?_
        refine zs_iload_n (pc := 16) t287_16 rfl ?_
        refine zs_aload_n (pc := 17) t287_17 rfl ?_
        refine zs_iload_n (pc := 18) t287_18 rfl ?_
        refine zs_iconst (pc := 19) t287_19 (v := -1) (by decide) ?_
        refine zs_invV (pc := 20) (k := 336) (as' := [.int w1x1, .int (-1 : Int32)]) (st := [.int w1x1, .ref 343]) t287_20 mf271 rfl rfl (Or.inl ⟨by decide, (zk1 (w1s.k fk_zMm_336))⟩) ⟨by decide, by decide, Nat.le_of_ble_eq_true rfl, Nat.le_of_ble_eq_true rfl⟩ (K271 w1s w1I ⟨by omega, by omega⟩ ?_) (fun _ _ q => q)
        intro w61v  w61a w61b
        show zGo X l 4 0 0 287 23 [(0, .ref 336), (1, .int w1x1)] [.int w61v, .int w1x1, .ref 343] w1M _
        obtain ⟨w62n, w62⟩ : ∃ n : Nat, w1x1.toInt = (n : Int) := ⟨(w1x1.toInt).toNat, by omega⟩
        have w63e : vp_nar .boolean w61v = w61v := zb01 (by omega)
        have w64 : zIv mLo mHi (zsI w1M 343 w62n w61v) := zIv.put w1I (show 0 ≤ w61v.toInt ∧ w61v.toInt ≤ 1 from ⟨by omega, by omega⟩)
        refine zs_bastZ (pc := 23) t287_23 (j := w62n) (by decide) (zk1 (w1s.k fk_zMm_343)) (show w1x1.toInt = ((w62n : Nat) : Int) by omega) (zk2 (w1s.k fk_zMm_343) (by omega)) w63e ?_
        obtain ⟨w65v, w65e, w65⟩ := ziadd (a := w1x1) (b := Int32.ofInt 1) rfl (show (Int32.ofInt 1).toInt = 1 by decide) (by omega) (by omega)
        refine zs_iinc (pc := 24) t287_24 (ls' := [(1, .int w65v), (0, .ref 336)]) (zml mf287 (by decide)) rfl (c := w65v) w65e rfl ?_
        refine zs_goto (pc := 27) t287_27 ?_
        refine zGo.locals (ls' := [(0, .ref 336), (1, .int w65v)]) (by simp) ?_
        have w66 := w65
        exact w1ih (w1m - 1) (by omega) w65v (zsI w1M 343 w62n w61v) ⟨by omega, by omega⟩ w1s w64 (((zFr.refl).trans (w1F.mono rfl)).put rfl) w1J (by omega)
  refine zGo.locals (ls' := [(0, .ref 336), (1, .int (0 : Int32))]) (by simp) ?_
  have w67 := li0
  exact w1L ((60 - 0 : Int).toNat) (0 : Int32) M ⟨by decide, by decide⟩ hs hI zFr.refl rfl (by omega)
theorem K268 {X : zX} {l : Launch} {M : zM} {Q : Option Value → zM → Prop} (hs : zSk zMm M) (hI : zIv mLo mHi M) (pR : zPR M) (pF : zPF M) (hQ : ∀ M', zSk zMm M' → zIv mLo mHi M' → zFr [(344, 344, none), (349, 349, none), (350, 350, none), (343, 343, none), (345, 345, none), (346, 346, none), (347, 347, none), (348, 348, none), (336, 336, some 22), (336, 336, some 18), (336, 336, some 19), (336, 336, some 20), (336, 336, some 21), (351, 354, none), (358, 358, none), (336, 336, some 37), (356, 356, none), (355, 355, none), (343, 343, none), (344, 344, none), (336, 336, some 39), (359, 359, none), (336, 336, some 3)] M M' → zPF M' → zPD M' → zPV M' → Q none M') : zCall X l 6 0 0 268 [.ref 336] M Q := by
  refine zs_in (by decide) mf268 (Nat.le_of_ble_eq_true rfl) ?_
  show zGo X l 6 0 0 268 0 [(0, .ref 336)] [] M _
  refine zs_aload_n (pc := 0) t268_0 rfl ?_
  have w1 := ib336_3 hI
  refine zs_get (pc := 1) t268_1 (by decide) (zk1 (hs.k fk_zMm_336)) (zfvi rfl rfl) ?_
  by_cases w2 : (zI M 336 3).toInt = 0
  · refine zs_if_eqT (pc := 4) t268_4 rfl (by omega) ?_
    refine zs_aload_n (pc := 8) t268_8 rfl ?_
    refine zs_aload_n (pc := 9) t268_9 rfl ?_
    refine zs_get (pc := 10) t268_10 (by decide) (zk1 (hs.k fk_zMm_336)) (hs.p rfl fv_zMm_336_0) ?_
    refine zs_bipush (pc := 13) t268_13 (v := 8) (by decide) ?_
    have w3 := ibA8 hI
    refine zs_iald (pc := 15) t268_15 (j := 8) (by decide) (zk1 (hs.k fk_zMm_337)) li8 (zk2 (hs.k fk_zMm_337) (by decide)) rfl ?_
    refine zs_iconst (pc := 16) t268_16 (v := -1) (by decide) ?_
    refine zs_invV (pc := 17) (k := 336) (as' := [.int (zI M 337 8), .int (-1 : Int32)]) (st := []) t268_17 mf269 rfl rfl (Or.inl ⟨by decide, (zk1 (hs.k fk_zMm_336))⟩) ⟨by decide, by decide, Nat.le_of_ble_eq_true rfl, Nat.le_of_ble_eq_true rfl⟩ (K269 hs hI pR ⟨by omega, by omega⟩ ?_) (fun _ _ q => q)
    intro w4M w4s w4I w4F w4J w4PT
    show zGo X l 6 0 0 268 20 [(0, .ref 336)] [] w4M _
    refine zs_aload_n (pc := 20) t268_20 rfl ?_
    refine zs_invV (pc := 21) (k := 336) (as' := []) (st := []) t268_21 mf282 rfl rfl (Or.inl ⟨by decide, (zk1 (w4s.k fk_zMm_336))⟩) ⟨by decide, by decide, Nat.le_of_ble_eq_true rfl, Nat.le_of_ble_eq_true rfl⟩ (K282 w4s w4I (zPR.fr pR (w4F.eq rfl)) w4PT ?_) (fun _ _ q => q)
    intro w5M w5s w5I w5F w5PD
    show zGo X l 6 0 0 268 24 [(0, .ref 336)] [] w5M _
    refine zs_aload_n (pc := 24) t268_24 rfl ?_
    refine zs_invV (pc := 25) (k := 336) (as' := []) (st := []) t268_25 mf284 rfl rfl (Or.inl ⟨by decide, (zk1 (w5s.k fk_zMm_336))⟩) ⟨by decide, by decide, Nat.le_of_ble_eq_true rfl, Nat.le_of_ble_eq_true rfl⟩ (K284 w5s w5I w5PD ?_) (fun _ _ q => q)
    intro w6M w6s w6I w6F w6J w6PV
    show zGo X l 6 0 0 268 28 [(0, .ref 336)] [] w6M _
    refine zs_aload_n (pc := 28) t268_28 rfl ?_
    refine zs_invV (pc := 29) (k := 336) (as' := []) (st := []) t268_29 mf287 rfl rfl (Or.inl ⟨by decide, (zk1 (w6s.k fk_zMm_336))⟩) ⟨by decide, by decide, Nat.le_of_ble_eq_true rfl, Nat.le_of_ble_eq_true rfl⟩ (K287 w6s w6I ?_) (fun _ _ q => q)
    intro w7M w7s w7I w7F w7J
    show zGo X l 6 0 0 268 32 [(0, .ref 336)] [] w7M _
    refine zs_aload_n (pc := 32) t268_32 rfl ?_
    refine zs_iconst (pc := 33) t268_33 (v := 1) (by decide) ?_
    have w8 : zIv mLo mHi (zsI w7M 336 3 (1 : Int32)) := zIv.put w7I (show 0 ≤ (1 : Int32).toInt ∧ (1 : Int32).toInt ≤ 1 from ⟨by decide, by decide⟩)
    have w9 : zPF (zsI w7M 336 3 (1 : Int32)) := zPF.on (zPD.fr (M' := (zsI w7M 336 3 (1 : Int32))) (zPD.fr (zPD.fr w5PD (w6F.eq rfl) w6J) (w7F.eq rfl) w7J) (zEq.put rfl) rfl) (zPV.fr (M' := (zsI w7M 336 3 (1 : Int32))) (zPV.fr w6PV (w7F.eq rfl)) (zEq.put rfl))
    refine zs_putI (pc := 34) t268_34 (zk1 (w7s.k fk_zMm_336)) (by decide) ?_
    exact zs_vret (pc := 37) t268_37 mr268 (hQ _ w7s w8 ((((((zFr.refl).trans (w4F.mono rfl)).trans (w5F.mono rfl)).trans (w6F.mono rfl)).trans (w7F.mono rfl)).put rfl) w9 (zPD.fr (M' := (zsI w7M 336 3 (1 : Int32))) (zPD.fr (zPD.fr w5PD (w6F.eq rfl) w6J) (w7F.eq rfl) w7J) (zEq.put rfl) rfl) (zPV.fr (M' := (zsI w7M 336 3 (1 : Int32))) (zPV.fr w6PV (w7F.eq rfl)) (zEq.put rfl)))
  · refine zs_if_eqF (pc := 4) t268_4 rfl (by omega) ?_
    exact zs_vret (pc := 7) t268_7 mr268 (hQ _ hs hI (zFr.refl) pF (pF (by omega)).1 (pF (by omega)).2)
theorem K235 {X : zX} {l : Launch} {M : zM} {Q : Option Value → zM → Prop} (hs : zSk zMm M) (hI : zIv mLo mHi M) (pR : zPR M) (pC : zPC M) (pF : zPF M) (hQ : ∀ (M' : zM) (v : Int32), zSk zMm M' → zIv mLo mHi M' → zFr [(336, 363, none)] M M' → zPR M' → zPC M' → zPF M' → Q (some (.int v)) M') : zCall X l 6 0 0 235 [.ref 336] M Q := by
  refine zs_in (by decide) mf235 (Nat.le_of_ble_eq_true rfl) ?_
  show zGo X l 6 0 0 235 0 [(0, .ref 336)] [] M _
  refine zs_aload_n (pc := 0) t235_0 rfl ?_
  refine zs_iconst (pc := 1) t235_1 (v := 0) (by decide) ?_
  refine zs_bipush (pc := 2) t235_2 (v := 11) (by decide) ?_
  have w1k : zRk (zrow M 0) := (zRk0 hI pR pC)
  refine zs_invV (pc := 4) (k := 336) (as' := [.int (0 : Int32), .int (11 : Int32)]) (st := []) t235_4 mf226 rfl rfl (Or.inl ⟨by decide, (zk1 (hs.k fk_zMm_336))⟩) ⟨by decide, by decide, Nat.le_of_ble_eq_true rfl, Nat.le_of_ble_eq_true rfl⟩ (K226 (na := 0) (nb := 11) hs hI (by decide) (by decide) (by omega) (by omega) (by omega) w1k ?_) (fun _ _ q => q)
  intro w1M w1s w1I w1F w1J w1c
  have w1R : zPR w1M := zPR.cp pR hI w1k w1c (w1F.eq rfl)
  have w1C : zPC w1M := zPC.cp pC hI pR w1k w1c
  have w1A : zPA w1M := zPA.cp w1k w1c (Or.inl rfl)
  have w2 := ibA0 hI
  have w1r0 : zI w1M 337 0 = (zI M 337 0) := (w1c.1 0 (Or.inl (by omega))).trans rfl
  have w3 := ibA1 hI
  have w1r1 : zI w1M 337 1 = (zI M 337 1) := (w1c.1 1 (Or.inl (by omega))).trans rfl
  have w4 := ibA2 hI
  have w1r2 : zI w1M 337 2 = (zI M 337 2) := (w1c.1 2 (Or.inl (by omega))).trans rfl
  show zGo X l 6 0 0 235 7 [(0, .ref 336)] [] w1M _
  refine zs_aload_n (pc := 7) t235_7 rfl ?_
  refine zs_invV (pc := 8) (k := 336) (as' := []) (st := []) t235_8 mf236 rfl rfl (Or.inl ⟨by decide, (zk1 (w1s.k fk_zMm_336))⟩) ⟨by decide, by decide, Nat.le_of_ble_eq_true rfl, Nat.le_of_ble_eq_true rfl⟩ (zs_in (by decide) mf236 (Nat.le_of_ble_eq_true rfl) ?_) (fun _ _ q => q)
  show zGo X l 0 0 0 236 0 [(0, .ref 336)] [] w1M _
  refine zs_aload_n (pc := 0) t236_0 rfl ?_
  refine zs_iconst (pc := 1) t236_1 (v := 0) (by decide) ?_
  have w5 : zIv mLo mHi (zsI w1M 336 6 (0 : Int32)) := zIv.put w1I (show 0 ≤ (0 : Int32).toInt ∧ (0 : Int32).toInt ≤ 500 from ⟨by decide, by decide⟩)
  refine zs_putI (pc := 2) t236_2 (zk1 (w1s.k fk_zMm_336)) rfl ?_
  refine zs_aload_n (pc := 5) t236_5 rfl ?_
  refine zs_iconst (pc := 6) t236_6 (v := -1) (by decide) ?_
  have w6 : zIv mLo mHi (zsI (zsI w1M 336 6 (0 : Int32)) 336 7 (-1 : Int32)) := zIv.put w5 (show (-1) ≤ (-1 : Int32).toInt ∧ (-1 : Int32).toInt ≤ 500 from ⟨by decide, by decide⟩)
  refine zs_putI (pc := 7) t236_7 (zk1 (w1s.k fk_zMm_336)) rfl ?_
  refine zs_vret (pc := 10) t236_10 mr236 ?_
  show zGo X l 6 0 0 235 11 [(0, .ref 336)] [] (zsI (zsI w1M 336 6 (0 : Int32)) 336 7 (-1 : Int32)) _
  refine zs_iconst (pc := 11) t235_11 (v := 0) (by decide) ?_
  refine zs_istore_n (pc := 12) t235_12 (ls' := [(1, .int (0 : Int32)), (0, .ref 336)]) (zml mf235 (by decide)) rfl ?_
  have w7L : ∀ (m : Nat) (w7x1 : Int32) (w7M : zM), zSk zMm w7M → zIv mLo mHi w7M → zFr [(336, 336, some 6), (336, 336, some 7), (336, 336, some 8), (337, 337, none)] (zsI (zsI w1M 336 6 (0 : Int32)) 336 7 (-1 : Int32)) w7M → zJ w7M 351 = zJ (zsI (zsI w1M 336 6 (0 : Int32)) 336 7 (-1 : Int32)) 351 → zUp (zsI (zsI w1M 336 6 (0 : Int32)) 336 7 (-1 : Int32)) w7M → zPR w7M → zPC w7M → 501 - (zI w7M 336 6).toInt - 501 * (min (zI w7M 336 7).toInt 0) ≤ (m : Int) → zGo X l 6 0 0 235 13 [(0, .ref 336), (1, .int w7x1)] [] w7M Q := by
    intro m
    induction m using Nat.strongRecOn with
    | ind w7m w7ih =>
      intro w7x1 w7M w7s w7I w7F w7J w7U w7PR w7PC w7q
      have w7g1 := zrg w7x1
      have w8 := ib336_6 w7I
      have w9 := ib336_7 w7I
      refine zs_aload_n (pc := 13) t235_13 rfl ?_
      refine zs_get (pc := 14) t235_14 (by decide) (zk1 (w7s.k fk_zMm_336)) (zfvi rfl rfl) ?_
      refine zs_iconst (pc := 17) t235_17 (v := -1) (by decide) ?_
      by_cases w10 : (zI w7M 336 7).toInt ≠ (-1)
      · refine zs_icmp_neT (pc := 18) t235_18 rfl lin1 (by omega) ?_
        refine zs_aload_n (pc := 45) t235_45 rfl ?_
        refine zs_invV (pc := 46) (k := 336) (as' := []) (st := []) t235_46 mf253 rfl rfl (Or.inl ⟨by decide, (zk1 (w7s.k fk_zMm_336))⟩) ⟨by decide, by decide, Nat.le_of_ble_eq_true rfl, Nat.le_of_ble_eq_true rfl⟩ (zs_in (by decide) mf253 (Nat.le_of_ble_eq_true rfl) ?_) (fun _ _ q => q)
        show zGo X l 0 0 0 253 0 [(0, .ref 336)] [] w7M _
        refine zs_aload_n (pc := 0) t253_0 rfl ?_
        refine zs_iconst (pc := 1) t253_1 (v := 0) (by decide) ?_
        have w11 : zIv mLo mHi (zsI w7M 336 5 (0 : Int32)) := zIv.put w7I (show 0 ≤ (0 : Int32).toInt ∧ (0 : Int32).toInt ≤ 500 from ⟨by decide, by decide⟩)
        refine zs_putI (pc := 2) t253_2 (zk1 (w7s.k fk_zMm_336)) rfl ?_
        refine zs_aload_n (pc := 5) t253_5 rfl ?_
        refine zs_get (pc := 6) t253_6 (by decide) (zk1 (w7s.k fk_zMm_336)) (zfvi rfl ((zIoj (by decide)).trans rfl)) ?_
        refine zs_iconst (pc := 9) t253_9 (v := -1) (by decide) ?_
        refine zs_icmp_neT (pc := 10) t253_10 rfl lin1 (by omega) ?_
        refine zs_iconst (pc := 17) t253_17 (v := 0) (by decide) ?_
        refine zs_iret (pc := 18) t253_18 mr253 (by decide) ?_
        show zGo X l 6 0 0 235 49 [(0, .ref 336), (1, .int w7x1)] [.int (0 : Int32)] (zsI w7M 336 5 (0 : Int32)) _
        refine zs_if_eqT (pc := 49) t235_49 li0 (by decide) ?_
        refine zs_aload_n (pc := 60) t235_60 rfl ?_
        refine zs_bipush (pc := 61) t235_61 (v := 11) (by decide) ?_
        refine zs_iconst (pc := 63) t235_63 (v := 0) (by decide) ?_
        have w12k : zRk (zrow (zsI w7M 336 5 (0 : Int32)) 11) := (zPA.fr (M' := (zsI w7M 336 5 (0 : Int32))) (zPA.up (zPA.fr (M' := (zsI (zsI w1M 336 6 (0 : Int32)) 336 7 (-1 : Int32))) (zPA.fr (M' := (zsI w1M 336 6 (0 : Int32))) w1A (zEq.put rfl)) (zEq.put rfl)) w7U) (zEq.put rfl))
        refine zs_invV (pc := 64) (k := 336) (as' := [.int (11 : Int32), .int (0 : Int32)]) (st := []) t235_64 mf226 rfl rfl (Or.inl ⟨by decide, (zk1 (w7s.k fk_zMm_336))⟩) ⟨by decide, by decide, Nat.le_of_ble_eq_true rfl, Nat.le_of_ble_eq_true rfl⟩ (K226 (na := 11) (nb := 0) w7s w11 (by decide) (by decide) (by omega) (by omega) (by omega) w12k ?_) (fun _ _ q => q)
        intro w12M w12s w12I w12F w12J w12c
        have w12R : zPR w12M := zPR.cp (zPR.fr (M' := (zsI w7M 336 5 (0 : Int32))) w7PR (zEq.put rfl)) w11 w12k w12c (w12F.eq rfl)
        have w12C : zPC w12M := zPC.cp (zPC.fr (M' := (zsI w7M 336 5 (0 : Int32))) w7PC (zEq.put rfl)) w11 (zPR.fr (M' := (zsI w7M 336 5 (0 : Int32))) w7PR (zEq.put rfl)) w12k w12c
        have w12A : zPA w12M := zPA.cp w12k w12c (Or.inr (zPA.fr (M' := (zsI w7M 336 5 (0 : Int32))) (zPA.up (zPA.fr (M' := (zsI (zsI w1M 336 6 (0 : Int32)) 336 7 (-1 : Int32))) (zPA.fr (M' := (zsI w1M 336 6 (0 : Int32))) w1A (zEq.put rfl)) (zEq.put rfl)) w7U) (zEq.put rfl)))
        show zGo X l 6 0 0 235 67 [(0, .ref 336), (1, .int w7x1)] [] w12M _
        refine zs_iconst (pc := 67) t235_67 (v := -1) (by decide) ?_
        exact zs_iret (pc := 68) t235_68 mr235 (by decide) (hQ _ _ w12s w12I (((((((zFr.refl).trans (w1F.mono rfl)).put rfl).put rfl).trans (w7F.mono rfl)).put rfl).trans (w12F.mono rfl)) w12R w12C (zPF.fr (zPF.fr (M' := (zsI w7M 336 5 (0 : Int32))) (zPF.fr (zPF.fr (M' := (zsI (zsI w1M 336 6 (0 : Int32)) 336 7 (-1 : Int32))) (zPF.fr (M' := (zsI w1M 336 6 (0 : Int32))) (zPF.fr pF (w1F.eq rfl) w1J) (zEq.put rfl) rfl) (zEq.put rfl) rfl) (w7F.eq rfl) w7J) (zEq.put rfl) rfl) (w12F.eq rfl) w12J))
      · refine zs_icmp_neF (pc := 18) t235_18 rfl lin1 (by omega) ?_
        refine zs_aload_n (pc := 21) t235_21 rfl ?_
        refine zs_get (pc := 22) t235_22 (by decide) (zk1 (w7s.k fk_zMm_336)) (zfvi rfl rfl) ?_
        refine zs_aload_n (pc := 25) t235_25 rfl ?_
        have w13 := ib336_5 hI
        refine zs_get (pc := 26) t235_26 (by decide) (zk1 (w7s.k fk_zMm_336)) (zfvi rfl ((w7F 336 5 rfl).trans ((zIoj (by decide)).trans ((zIoj (by decide)).trans ((w1F 336 5 rfl).trans rfl))))) ?_
        by_cases w14 : (zI M 336 5).toInt ≤ (zI w7M 336 6).toInt
        · refine zs_icmp_geT (pc := 29) t235_29 rfl rfl (by omega) ?_
          refine zs_aload_n (pc := 45) t235_45 rfl ?_
          refine zs_invV (pc := 46) (k := 336) (as' := []) (st := []) t235_46 mf253 rfl rfl (Or.inl ⟨by decide, (zk1 (w7s.k fk_zMm_336))⟩) ⟨by decide, by decide, Nat.le_of_ble_eq_true rfl, Nat.le_of_ble_eq_true rfl⟩ (zs_in (by decide) mf253 (Nat.le_of_ble_eq_true rfl) ?_) (fun _ _ q => q)
          show zGo X l 0 0 0 253 0 [(0, .ref 336)] [] w7M _
          refine zs_aload_n (pc := 0) t253_0 rfl ?_
          refine zs_iconst (pc := 1) t253_1 (v := 0) (by decide) ?_
          have w15 : zIv mLo mHi (zsI w7M 336 5 (0 : Int32)) := zIv.put w7I (show 0 ≤ (0 : Int32).toInt ∧ (0 : Int32).toInt ≤ 500 from ⟨by decide, by decide⟩)
          refine zs_putI (pc := 2) t253_2 (zk1 (w7s.k fk_zMm_336)) rfl ?_
          refine zs_aload_n (pc := 5) t253_5 rfl ?_
          refine zs_get (pc := 6) t253_6 (by decide) (zk1 (w7s.k fk_zMm_336)) (zfvi rfl ((zIoj (by decide)).trans rfl)) ?_
          refine zs_iconst (pc := 9) t253_9 (v := -1) (by decide) ?_
          refine zs_icmp_neF (pc := 10) t253_10 rfl lin1 (by omega) ?_
          refine zs_iconst (pc := 13) t253_13 (v := 1) (by decide) ?_
          refine zs_goto (pc := 14) t253_14 ?_
          refine zs_iret (pc := 18) t253_18 mr253 (by decide) ?_
          show zGo X l 6 0 0 235 49 [(0, .ref 336), (1, .int w7x1)] [.int (1 : Int32)] (zsI w7M 336 5 (0 : Int32)) _
          refine zs_if_eqF (pc := 49) t235_49 li1 (by decide) ?_
          refine zs_aload_n (pc := 52) t235_52 rfl ?_
          refine zs_bipush (pc := 53) t235_53 (v := 11) (by decide) ?_
          have w16 := ibA1 w7I
          have w17 : (zI (zsI w7M 336 5 (0 : Int32)) 337 1).toInt = (zI w7M 337 1).toInt := (congrArg Int32.toInt ((zIo (by decide)).trans rfl)).trans rfl
          have w18 := ibA0 w7I
          have w19 : (zI (zsI w7M 336 5 (0 : Int32)) 337 0).toInt = (zI w7M 337 0).toInt := (congrArg Int32.toInt ((zIo (by decide)).trans rfl)).trans rfl
          have w20 := ibA2 w7I
          have w21 : (zI (zsI w7M 336 5 (0 : Int32)) 337 2).toInt = (zI w7M 337 2).toInt := (congrArg Int32.toInt ((zIo (by decide)).trans rfl)).trans rfl
          refine zs_invV (pc := 55) (k := 336) (as' := [.int (11 : Int32)]) (st := []) t235_55 mf230 rfl rfl (Or.inl ⟨by decide, (zk1 (w7s.k fk_zMm_336))⟩) ⟨by decide, by decide, Nat.le_of_ble_eq_true rfl, Nat.le_of_ble_eq_true rfl⟩ (K230_11 w7s w15 (zPR.fr (M' := (zsI w7M 336 5 (0 : Int32))) w7PR (zEq.put rfl)) (zPC.fr (M' := (zsI w7M 336 5 (0 : Int32))) w7PC (zEq.put rfl)) (zPA.fr (M' := (zsI w7M 336 5 (0 : Int32))) (zPA.up (zPA.fr (M' := (zsI (zsI w1M 336 6 (0 : Int32)) 336 7 (-1 : Int32))) (zPA.fr (M' := (zsI w1M 336 6 (0 : Int32))) w1A (zEq.put rfl)) (zEq.put rfl)) w7U) (zEq.put rfl)) ?_) (fun _ _ q => q)
          intro w22M w22s w22I w22F w22J w22PR w22PC w22PF w22t0 w22t1 w22t2
          have w23 := ibA1 w22I
          have w24 := ibA0 w22I
          have w25 := ibA2 w22I
          show zGo X l 6 0 0 235 58 [(0, .ref 336), (1, .int w7x1)] [] w22M _
          refine zs_iload_n (pc := 58) t235_58 rfl ?_
          exact zs_iret (pc := 59) t235_59 mr235 rfl (hQ _ _ w22s w22I (((((((zFr.refl).trans (w1F.mono rfl)).put rfl).put rfl).trans (w7F.mono rfl)).put rfl).trans (w22F.mono rfl)) w22PR w22PC w22PF)
        · refine zs_icmp_geF (pc := 29) t235_29 rfl rfl (by omega) ?_
          refine zs_aload_n (pc := 32) t235_32 rfl ?_
          have w26 : (zI w7M 336 6).toInt = (zI w7M 336 6).toInt := (congrArg Int32.toInt rfl).trans rfl
          have w27 : (zI w7M 336 5).toInt = (zI M 336 5).toInt := (congrArg Int32.toInt ((w7F 336 5 rfl).trans ((zIoj (by decide)).trans ((zIoj (by decide)).trans ((w1F 336 5 rfl).trans rfl))))).trans rfl
          have w28 : (zI w7M 336 7).toInt = (zI w7M 336 7).toInt := (congrArg Int32.toInt rfl).trans rfl
          have w29 : (zI w7M 336 6).toInt = (zI w7M 336 6).toInt := (congrArg Int32.toInt rfl).trans rfl
          refine zs_invV (pc := 33) (k := 336) (as' := []) (st := []) t235_33 mf237 rfl rfl (Or.inl ⟨by decide, (zk1 (w7s.k fk_zMm_336))⟩) ⟨by decide, by decide, Nat.le_of_ble_eq_true rfl, Nat.le_of_ble_eq_true rfl⟩ (K237 w7s w7I w7PR w7PC (by omega) (by omega) ?_) (fun _ _ q => q)
          intro w30M w30v w30s w30I w30F w30J w30U w30PR w30PC w30t0 w30a w30b
          have w31 := ib336_6 w30I
          have w32 := ib336_7 w30I
          show zGo X l 6 0 0 235 36 [(0, .ref 336), (1, .int w7x1)] [.int w30v] w30M _
          by_cases w33 : w30v.toInt = 0
          · refine zs_if_eqT (pc := 36) t235_36 rfl (by omega) ?_
            refine zGo.locals (ls' := [(0, .ref 336), (1, .int w7x1)]) (by simp) ?_
            have w34 : (zI w30M 336 6).toInt = (zI w30M 336 6).toInt := (congrArg Int32.toInt rfl).trans rfl
            have w35 : (zI w30M 336 7).toInt = (zI w30M 336 7).toInt := (congrArg Int32.toInt rfl).trans rfl
            exact w7ih (w7m - 1) (by omega) w7x1 w30M w30s w30I (((zFr.refl).trans (w7F.mono rfl)).trans (w30F.mono rfl)) (w30J.trans w7J) (((zUp.refl).trans w7U).trans w30U) w30PR w30PC (by omega)
          · refine zs_if_eqF (pc := 36) t235_36 rfl (by omega) ?_
            obtain ⟨w36v, w36e⟩ : ∃ v, w7x1 + Int32.ofInt 1 = v := ⟨_, rfl⟩
            have w36 := zrg w36v
            refine zs_iinc (pc := 39) t235_39 (ls' := [(1, .int w36v), (0, .ref 336)]) (zml mf235 (by decide)) rfl (c := w36v) w36e rfl ?_
            refine zs_goto (pc := 42) t235_42 ?_
            refine zGo.locals (ls' := [(0, .ref 336), (1, .int w36v)]) (by simp) ?_
            have w37 : (zI w30M 336 6).toInt = (zI w30M 336 6).toInt := (congrArg Int32.toInt rfl).trans rfl
            have w38 : (zI w30M 336 7).toInt = (zI w30M 336 7).toInt := (congrArg Int32.toInt rfl).trans rfl
            exact w7ih (w7m - 1) (by omega) w36v w30M w30s w30I (((zFr.refl).trans (w7F.mono rfl)).trans (w30F.mono rfl)) (w30J.trans w7J) (((zUp.refl).trans w7U).trans w30U) w30PR w30PC (by omega)
  refine zGo.locals (ls' := [(0, .ref 336), (1, .int (0 : Int32))]) (by simp) ?_
  have w39 := li0
  have w40 : (zI (zsI (zsI w1M 336 6 (0 : Int32)) 336 7 (-1 : Int32)) 336 6).toInt = 0 := (congrArg Int32.toInt ((zIoj (by decide)).trans zIs)).trans li0
  have w41 : (zI (zsI (zsI w1M 336 6 (0 : Int32)) 336 7 (-1 : Int32)) 336 7).toInt = (-1) := (congrArg Int32.toInt zIs).trans lin1
  exact w7L ((501 - (zI (zsI (zsI w1M 336 6 (0 : Int32)) 336 7 (-1 : Int32)) 336 6).toInt - 501 * (min (zI (zsI (zsI w1M 336 6 (0 : Int32)) 336 7 (-1 : Int32)) 336 7).toInt 0) : Int).toNat) (0 : Int32) (zsI (zsI w1M 336 6 (0 : Int32)) 336 7 (-1 : Int32)) w1s w6 zFr.refl rfl zUp.refl (zPR.fr (M' := (zsI (zsI w1M 336 6 (0 : Int32)) 336 7 (-1 : Int32))) (zPR.fr (M' := (zsI w1M 336 6 (0 : Int32))) w1R (zEq.put rfl)) (zEq.put rfl)) (zPC.fr (M' := (zsI (zsI w1M 336 6 (0 : Int32)) 336 7 (-1 : Int32))) (zPC.fr (M' := (zsI w1M 336 6 (0 : Int32))) w1C (zEq.put rfl)) (zEq.put rfl)) (by omega)
theorem K231 {X : zX} {l : Launch} {M : zM} {Q : Option Value → zM → Prop} {a b c d e : Int32} (hs : zSk zMm M) (hI : zIv mLo mHi M) (pR : zPR M) (pC : zPC M) (pF : zPF M) (hQ : ∀ (M' : zM) (v : Int32), zSk zMm M' → zIv mLo mHi M' → zFr [(336, 363, none)] M M' → zPR M' → zPC M' → zPF M' → Q (some (.int v)) M') : zCall X l 1 0 0 231 [.ref 336, .int a, .int b, .int c, .int d, .int e] M Q := by
  have ga := zrg a
  have gb := zrg b
  have gc := zrg c
  have gd := zrg d
  have ge := zrg e
  refine zs_in (by decide) mf231 (Nat.le_of_ble_eq_true rfl) ?_
  show zGo X l 1 0 0 231 0 [(0, .ref 336), (1, .int a), (2, .int b), (3, .int c), (4, .int d), (5, .int e)] [] M _
  refine zs_aload_n (pc := 0) t231_0 rfl ?_
  have w1 := ib336_5 hI
  refine zs_get (pc := 1) t231_1 (by decide) (zk1 (hs.k fk_zMm_336)) (zfvi rfl rfl) ?_
  refine zs_bipush (pc := 4) t231_4 (v := 20) (by decide) ?_
  obtain ⟨w2v, w2e, w2⟩ := ziadd (a := (zI M 336 5)) (b := (20 : Int32)) rfl li20 (by omega) (by omega)
  refine zs_iadd (pc := 6) t231_6 (c := w2v) w2e ?_
  refine zs_sipush (pc := 7) t231_7 (v := 500) (by decide) ?_
  by_cases w3 : ((zI M 336 5).toInt + 20) ≤ 500
  · refine zs_icmp_leT (pc := 10) t231_10 w2 li500 (by omega) ?_
    refine zs_aload_n (pc := 15) t231_15 rfl ?_
    refine zs_iload_n (pc := 16) t231_16 rfl ?_
    have w4 : (zI M 336 5).toInt = (zI M 336 5).toInt := (congrArg Int32.toInt rfl).trans rfl
    have w5 : (zI M 336 5).toInt = (zI M 336 5).toInt := (congrArg Int32.toInt rfl).trans rfl
    refine zs_invV (pc := 17) (k := 336) (as' := [.int a]) (st := []) t231_17 mf232 rfl rfl (Or.inl ⟨by decide, (zk1 (hs.k fk_zMm_336))⟩) ⟨by decide, by decide, Nat.le_of_ble_eq_true rfl, Nat.le_of_ble_eq_true rfl⟩ (K232 hs hI (by omega) ?_) (fun _ _ q => q)
    intro w6M w6s w6I w6F w6J w6t0
    have w7 := ib336_5 w6I
    show zGo X l 1 0 0 231 20 [(0, .ref 336), (1, .int a), (2, .int b), (3, .int c), (4, .int d), (5, .int e)] [] w6M _
    refine zs_aload_n (pc := 20) t231_20 rfl ?_
    refine zs_iload_n (pc := 21) t231_21 rfl ?_
    have w8 : (zI w6M 336 5).toInt = (zI w6M 336 5).toInt := (congrArg Int32.toInt rfl).trans rfl
    have w9 : (zI w6M 336 5).toInt = (zI w6M 336 5).toInt := (congrArg Int32.toInt rfl).trans rfl
    refine zs_invV (pc := 22) (k := 336) (as' := [.int b]) (st := []) t231_22 mf232 rfl rfl (Or.inl ⟨by decide, (zk1 (w6s.k fk_zMm_336))⟩) ⟨by decide, by decide, Nat.le_of_ble_eq_true rfl, Nat.le_of_ble_eq_true rfl⟩ (K232 w6s w6I (by omega) ?_) (fun _ _ q => q)
    intro w10M w10s w10I w10F w10J w10t0
    have w11 := ib336_5 w10I
    show zGo X l 1 0 0 231 25 [(0, .ref 336), (1, .int a), (2, .int b), (3, .int c), (4, .int d), (5, .int e)] [] w10M _
    refine zs_aload_n (pc := 25) t231_25 rfl ?_
    refine zs_iload_n (pc := 26) t231_26 rfl ?_
    have w12 : (zI w10M 336 5).toInt = (zI w10M 336 5).toInt := (congrArg Int32.toInt rfl).trans rfl
    have w13 : (zI w10M 336 5).toInt = (zI w10M 336 5).toInt := (congrArg Int32.toInt rfl).trans rfl
    refine zs_invV (pc := 27) (k := 336) (as' := [.int c]) (st := []) t231_27 mf232 rfl rfl (Or.inl ⟨by decide, (zk1 (w10s.k fk_zMm_336))⟩) ⟨by decide, by decide, Nat.le_of_ble_eq_true rfl, Nat.le_of_ble_eq_true rfl⟩ (K232 w10s w10I (by omega) ?_) (fun _ _ q => q)
    intro w14M w14s w14I w14F w14J w14t0
    have w15 := ib336_5 w14I
    show zGo X l 1 0 0 231 30 [(0, .ref 336), (1, .int a), (2, .int b), (3, .int c), (4, .int d), (5, .int e)] [] w14M _
    refine zs_aload_n (pc := 30) t231_30 rfl ?_
    refine zs_iload (pc := 31) t231_31 rfl ?_
    have w16 : (zI w14M 336 5).toInt = (zI w14M 336 5).toInt := (congrArg Int32.toInt rfl).trans rfl
    have w17 : (zI w14M 336 5).toInt = (zI w14M 336 5).toInt := (congrArg Int32.toInt rfl).trans rfl
    refine zs_invV (pc := 33) (k := 336) (as' := [.int d]) (st := []) t231_33 mf232 rfl rfl (Or.inl ⟨by decide, (zk1 (w14s.k fk_zMm_336))⟩) ⟨by decide, by decide, Nat.le_of_ble_eq_true rfl, Nat.le_of_ble_eq_true rfl⟩ (K232 w14s w14I (by omega) ?_) (fun _ _ q => q)
    intro w18M w18s w18I w18F w18J w18t0
    have w19 := ib336_5 w18I
    show zGo X l 1 0 0 231 36 [(0, .ref 336), (1, .int a), (2, .int b), (3, .int c), (4, .int d), (5, .int e)] [] w18M _
    refine zs_aload_n (pc := 36) t231_36 rfl ?_
    refine zs_iload (pc := 37) t231_37 rfl ?_
    have w20 : (zI w18M 336 5).toInt = (zI w18M 336 5).toInt := (congrArg Int32.toInt rfl).trans rfl
    have w21 : (zI w18M 336 5).toInt = (zI w18M 336 5).toInt := (congrArg Int32.toInt rfl).trans rfl
    refine zs_invV (pc := 39) (k := 336) (as' := [.int e]) (st := []) t231_39 mf232 rfl rfl (Or.inl ⟨by decide, (zk1 (w18s.k fk_zMm_336))⟩) ⟨by decide, by decide, Nat.le_of_ble_eq_true rfl, Nat.le_of_ble_eq_true rfl⟩ (K232 w18s w18I (by omega) ?_) (fun _ _ q => q)
    intro w22M w22s w22I w22F w22J w22t0
    have w23 := ib336_5 w22I
    show zGo X l 1 0 0 231 42 [(0, .ref 336), (1, .int a), (2, .int b), (3, .int c), (4, .int d), (5, .int e)] [] w22M _
    refine zs_aload_n (pc := 42) t231_42 rfl ?_
    refine zs_get (pc := 43) t231_43 (by decide) (zk1 (w22s.k fk_zMm_336)) (zfvi rfl rfl) ?_
    exact zs_iret (pc := 46) t231_46 mr231 rfl (hQ _ _ w22s w22I ((((((zFr.refl).trans (w6F.mono rfl)).trans (w10F.mono rfl)).trans (w14F.mono rfl)).trans (w18F.mono rfl)).trans (w22F.mono rfl)) (zPR.fr (zPR.fr (zPR.fr (zPR.fr (zPR.fr pR (w6F.eq rfl)) (w10F.eq rfl)) (w14F.eq rfl)) (w18F.eq rfl)) (w22F.eq rfl)) (zPC.fr (zPC.fr (zPC.fr (zPC.fr (zPC.fr pC (w6F.eq rfl)) (w10F.eq rfl)) (w14F.eq rfl)) (w18F.eq rfl)) (w22F.eq rfl)) (zPF.fr (zPF.fr (zPF.fr (zPF.fr (zPF.fr pF (w6F.eq rfl) w6J) (w10F.eq rfl) w10J) (w14F.eq rfl) w14J) (w18F.eq rfl) w18J) (w22F.eq rfl) w22J))
  · refine zs_icmp_leF (pc := 10) t231_10 w2 li500 (by omega) ?_
    refine zs_iconst (pc := 13) t231_13 (v := -1) (by decide) ?_
    exact zs_iret (pc := 14) t231_14 mr231 (by decide) (hQ _ _ hs hI (zFr.refl) pR pC pF)
theorem K233 {X : zX} {l : Launch} {M : zM} {Q : Option Value → zM → Prop} {a : Int32} (hs : zSk zMm M) (hI : zIv mLo mHi M) (pR : zPR M) (pC : zPC M) (pF : zPF M) (hQ : ∀ (M' : zM) (v : Int32), zSk zMm M' → zIv mLo mHi M' → zFr [(336, 363, none)] M M' → zPR M' → zPC M' → zPF M' → Q (some (.int v)) M') : zCall X l 1 0 0 233 [.ref 336, .int a] M Q := by
  have ga := zrg a
  refine zs_in (by decide) mf233 (Nat.le_of_ble_eq_true rfl) ?_
  show zGo X l 1 0 0 233 0 [(0, .ref 336), (1, .int a)] [] M _
  refine zs_iload_n (pc := 0) t233_0 rfl ?_
  refine zs_i2l (pc := 1) t233_1 rfl ?_
  refine zs_lconst (pc := 2) t233_2 (v := 0) (by decide) ?_
  refine zs_aload_n (pc := 3) t233_3 rfl ?_
  have w1 := ib336_5 hI
  refine zs_get (pc := 4) t233_4 (by decide) (zk1 (hs.k fk_zMm_336)) (zfvi rfl rfl) ?_
  refine zs_i2l (pc := 7) t233_7 rfl ?_
  by_cases w2 : 0 ≤ a.toInt ∧ a.toInt ≤ (zI M 336 5).toInt
  · refine zs_invS (pc := 8) (as := [.long a.toInt64, .long (0 : Int64), .long (zI M 336 5).toInt64]) (st := []) t233_8 (by decide) mf228 rfl rfl ⟨by decide, by decide, Nat.le_of_ble_eq_true rfl, Nat.le_of_ble_eq_true rfl⟩ (K228T (zi2l rfl) ll0 (zi2l rfl) (by omega) ?_) (fun _ _ q => q)
    show zGo X l 1 0 0 233 11 [(0, .ref 336), (1, .int a)] [.int (1 : Int32)] M _
    refine zs_if_neT (pc := 11) t233_11 li1 (by decide) ?_
    refine zs_aload_n (pc := 16) t233_16 rfl ?_
    refine zs_iload_n (pc := 17) t233_17 rfl ?_
    have w3 : zIv mLo mHi (zsI M 336 5 a) := zIv.put hI (show 0 ≤ a.toInt ∧ a.toInt ≤ 500 from ⟨by omega, by omega⟩)
    refine zs_putI (pc := 18) t233_18 (zk1 (hs.k fk_zMm_336)) rfl ?_
    refine zs_iload_n (pc := 21) t233_21 rfl ?_
    exact zs_iret (pc := 22) t233_22 mr233 rfl (hQ _ _ hs w3 ((zFr.refl).put rfl) (zPR.fr (M' := (zsI M 336 5 a)) pR (zEq.put rfl)) (zPC.fr (M' := (zsI M 336 5 a)) pC (zEq.put rfl)) (zPF.fr (M' := (zsI M 336 5 a)) pF (zEq.put rfl) rfl))
  · refine zs_invS (pc := 8) (as := [.long a.toInt64, .long (0 : Int64), .long (zI M 336 5).toInt64]) (st := []) t233_8 (by decide) mf228 rfl rfl ⟨by decide, by decide, Nat.le_of_ble_eq_true rfl, Nat.le_of_ble_eq_true rfl⟩ (K228F (zi2l rfl) ll0 (zi2l rfl) (by omega) ?_) (fun _ _ q => q)
    show zGo X l 1 0 0 233 11 [(0, .ref 336), (1, .int a)] [.int (0 : Int32)] M _
    refine zs_if_neF (pc := 11) t233_11 li0 (by decide) ?_
    refine zs_iconst (pc := 14) t233_14 (v := -1) (by decide) ?_
    exact zs_iret (pc := 15) t233_15 mr233 (by decide) (hQ _ _ hs hI (zFr.refl) pR pC pF)
theorem K225 {X : zX} {l : Launch} {M : zM} {Q : Option Value → zM → Prop} (hs : zSk zMm M) (hI : zIv mLo mHi M) (pR : zPR M) (pC : zPC M) (pF : zPF M) (hQ : ∀ (M' : zM) (v : Int32), zSk zMm M' → zIv mLo mHi M' → zFr [(336, 363, none)] M M' → zPR M' → zPC M' → zPF M' → Q (some (.int v)) M') : zCall X l 1 0 0 225 [.ref 336] M Q := by
  refine zs_in (by decide) mf225 (Nat.le_of_ble_eq_true rfl) ?_
  show zGo X l 1 0 0 225 0 [(0, .ref 336)] [] M _
  refine zs_aload_n (pc := 0) t225_0 rfl ?_
  have w1 := ib336_1 hI
  refine zs_get (pc := 1) t225_1 (by decide) (zk1 (hs.k fk_zMm_336)) (zfvi rfl rfl) ?_
  by_cases w2 : (zI M 336 1).toInt ≠ 0
  · refine zs_if_neT (pc := 4) t225_4 rfl (by omega) ?_
    refine zs_aload_n (pc := 9) t225_9 rfl ?_
    refine zs_dup (pc := 10) t225_10 rfl ?_
    refine zs_get (pc := 11) t225_11 (by decide) (zk1 (hs.k fk_zMm_336)) (zfvi rfl rfl) ?_
    refine zs_iconst (pc := 14) t225_14 (v := 1) (by decide) ?_
    obtain ⟨w3v, w3e, w3⟩ := zisub (a := (zI M 336 1)) (b := (1 : Int32)) rfl li1 (by omega) (by omega)
    refine zs_isub (pc := 15) t225_15 (c := w3v) w3e ?_
    have w4 : zIv mLo mHi (zsI M 336 1 w3v) := zIv.put hI (show 0 ≤ w3v.toInt ∧ w3v.toInt ≤ 8 from ⟨by omega, by omega⟩)
    have w5 : (zI M 336 1).toInt = (zI M 336 1).toInt := (congrArg Int32.toInt rfl).trans rfl
    have w6 : w3v.toInt = ((zI M 336 1).toInt - 1) := w3
    have w7 : zPR (zsI M 336 1 w3v) := zPR.less pR (by omega)
    refine zs_putI (pc := 16) t225_16 (zk1 (hs.k fk_zMm_336)) rfl ?_
    refine zs_aload_n (pc := 19) t225_19 rfl ?_
    refine zs_iconst (pc := 20) t225_20 (v := 3) (by decide) ?_
    refine zs_aload_n (pc := 21) t225_21 rfl ?_
    refine zs_get (pc := 22) t225_22 (by decide) (zk1 (hs.k fk_zMm_336)) (zfvi rfl zIs) ?_
    obtain ⟨w8v, w8e, w8⟩ := ziadd (a := (3 : Int32)) (b := w3v) li3 w3 (by omega) (by omega)
    refine zs_iadd (pc := 25) t225_25 (c := w8v) w8e ?_
    refine zs_iconst (pc := 26) t225_26 (v := 0) (by decide) ?_
    obtain ⟨w9n, w9⟩ : ∃ n : Nat, (zI M 336 1).toInt = (n : Int) := ⟨((zI M 336 1).toInt).toNat, by omega⟩
    have w10 : (zI M 336 1).toInt = (zI M 336 1).toInt := (congrArg Int32.toInt rfl).trans rfl
    have w11k : zRk (zrow (zsI M 336 1 w3v) (2 + w9n)) := (by rw [zrowN (by decide), show (2 + w9n) = 3 + (w9n - 1) by omega]; exact pR.2.2 (w9n - 1) (by omega))
    refine zs_invV (pc := 27) (k := 336) (as' := [.int w8v, .int (0 : Int32)]) (st := []) t225_27 mf226 rfl rfl (Or.inl ⟨by decide, (zk1 (hs.k fk_zMm_336))⟩) ⟨by decide, by decide, Nat.le_of_ble_eq_true rfl, Nat.le_of_ble_eq_true rfl⟩ (K226 (na := (2 + w9n)) (nb := 0) hs w4 (by omega) (by decide) (by omega) (by omega) (by omega) w11k ?_) (fun _ _ q => q)
    intro w11M w11s w11I w11F w11J w11c
    have w11R : zPR w11M := zPR.cp w7 w4 w11k w11c (w11F.eq rfl)
    have w11C : zPC w11M := zPC.cp (zPC.fr (M' := (zsI M 336 1 w3v)) pC (zEq.put rfl)) w4 w7 w11k w11c
    show zGo X l 1 0 0 225 30 [(0, .ref 336)] [] w11M _
    refine zs_aload_n (pc := 30) t225_30 rfl ?_
    refine zs_iconst (pc := 31) t225_31 (v := 0) (by decide) ?_
    have w12 : zIv mLo mHi (zsI w11M 336 3 (0 : Int32)) := zIv.put w11I (show 0 ≤ (0 : Int32).toInt ∧ (0 : Int32).toInt ≤ 1 from ⟨by decide, by decide⟩)
    have w13 : zPF (zsI w11M 336 3 (0 : Int32)) := zPF.off
    refine zs_putI (pc := 32) t225_32 (zk1 (w11s.k fk_zMm_336)) (by decide) ?_
    refine zs_aload_n (pc := 35) t225_35 rfl ?_
    refine zs_get (pc := 36) t225_36 (by decide) (zk1 (w11s.k fk_zMm_336)) (zfvi rfl ((zIoj (by decide)).trans ((w11F 336 1 rfl).trans zIs))) ?_
    exact zs_iret (pc := 39) t225_39 mr225 rfl (hQ _ _ w11s w12 ((((zFr.refl).put rfl).trans (w11F.mono rfl)).put rfl) (zPR.fr (M' := (zsI w11M 336 3 (0 : Int32))) w11R (zEq.put rfl)) (zPC.fr (M' := (zsI w11M 336 3 (0 : Int32))) w11C (zEq.put rfl)) w13)
  · refine zs_if_neF (pc := 4) t225_4 rfl (by omega) ?_
    refine zs_iconst (pc := 7) t225_7 (v := -1) (by decide) ?_
    exact zs_iret (pc := 8) t225_8 mr225 (by decide) (hQ _ _ hs hI (zFr.refl) pR pC pF)
theorem K227 {X : zX} {l : Launch} {M : zM} {Q : Option Value → zM → Prop} {a : Int32} (hs : zSk zMm M) (hI : zIv mLo mHi M) (pR : zPR M) (pC : zPC M) (pF : zPF M) (hQ : ∀ (M' : zM) (v : Int32), zSk zMm M' → zIv mLo mHi M' → zFr [(336, 363, none)] M M' → zPR M' → zPC M' → zPF M' → 0 ≤ v.toInt → v.toInt ≤ 1 → Q (some (.int v)) M') : zCall X l 1 0 0 227 [.ref 336, .int a] M Q := by
  have ga := zrg a
  refine zs_in (by decide) mf227 (Nat.le_of_ble_eq_true rfl) ?_
  show zGo X l 1 0 0 227 0 [(0, .ref 336), (1, .int a)] [] M _
  refine zs_iload_n (pc := 0) t227_0 rfl ?_
  refine zs_i2l (pc := 1) t227_1 rfl ?_
  refine zs_lconst (pc := 2) t227_2 (v := 0) (by decide) ?_
  refine zs_lconst (pc := 3) t227_3 (v := 1) (by decide) ?_
  by_cases w1 : 0 ≤ a.toInt ∧ a.toInt ≤ 1
  · refine zs_invS (pc := 4) (as := [.long a.toInt64, .long (0 : Int64), .long (1 : Int64)]) (st := []) t227_4 (by decide) mf228 rfl rfl ⟨by decide, by decide, Nat.le_of_ble_eq_true rfl, Nat.le_of_ble_eq_true rfl⟩ (K228T (zi2l rfl) ll0 ll1 (by omega) ?_) (fun _ _ q => q)
    show zGo X l 1 0 0 227 7 [(0, .ref 336), (1, .int a)] [.int (1 : Int32)] M _
    refine zs_if_neT (pc := 7) t227_7 li1 (by decide) ?_
    refine zs_aload_n (pc := 12) t227_12 rfl ?_
    refine zs_iconst (pc := 13) t227_13 (v := 0) (by decide) ?_
    refine zs_iconst (pc := 14) t227_14 (v := 1) (by decide) ?_
    refine zs_iload_n (pc := 15) t227_15 rfl ?_
    obtain ⟨w2v, w2e, w2⟩ := ziadd (a := (1 : Int32)) (b := a) li1 rfl (by omega) (by omega)
    refine zs_iadd (pc := 16) t227_16 (c := w2v) w2e ?_
    obtain ⟨w3n, w3⟩ : ∃ n : Nat, a.toInt = (n : Int) := ⟨(a.toInt).toNat, by omega⟩
    have w4k : zRk (zrow M 0) := (zRk0 hI pR pC)
    refine zs_invV (pc := 17) (k := 336) (as' := [.int (0 : Int32), .int w2v]) (st := []) t227_17 mf226 rfl rfl (Or.inl ⟨by decide, (zk1 (hs.k fk_zMm_336))⟩) ⟨by decide, by decide, Nat.le_of_ble_eq_true rfl, Nat.le_of_ble_eq_true rfl⟩ (K226 (na := 0) (nb := (1 + w3n)) hs hI (by decide) (by omega) (by omega) (by omega) (by omega) w4k ?_) (fun _ _ q => q)
    intro w4M w4s w4I w4F w4J w4c
    have w4R : zPR w4M := zPR.cp pR hI w4k w4c (w4F.eq rfl)
    have w4C : zPC w4M := zPC.cp pC hI pR w4k w4c
    have w5 := ibA0 hI
    have w4r0 : zI w4M 337 0 = (zI M 337 0) := (w4c.1 0 (Or.inl (by omega))).trans rfl
    have w6 := ibA1 hI
    have w4r1 : zI w4M 337 1 = (zI M 337 1) := (w4c.1 1 (Or.inl (by omega))).trans rfl
    have w7 := ibA2 hI
    have w4r2 : zI w4M 337 2 = (zI M 337 2) := (w4c.1 2 (Or.inl (by omega))).trans rfl
    show zGo X l 1 0 0 227 20 [(0, .ref 336), (1, .int a)] [] w4M _
    refine zs_aload_n (pc := 20) t227_20 rfl ?_
    refine zs_get (pc := 21) t227_21 (by decide) (zk1 (w4s.k fk_zMm_336)) (w4s.p rfl fv_zMm_336_2) ?_
    refine zs_iload_n (pc := 24) t227_24 rfl ?_
    refine zs_iconst (pc := 25) t227_25 (v := 1) (by decide) ?_
    have w8e : vp_nar .boolean (1 : Int32) = (1 : Int32) := by decide
    have w9 : zIv mLo mHi (zsI w4M 338 w3n (1 : Int32)) := zIv.put w4I (show 0 ≤ (1 : Int32).toInt ∧ (1 : Int32).toInt ≤ 1 from ⟨by decide, by decide⟩)
    have w10 : zPR (zsI w4M 338 w3n (1 : Int32)) := zPR.keep (n := w3n) w4R (zCp.k w4c w4k (Or.inl (by omega)))
    refine zs_bastZ (pc := 26) t227_26 (j := w3n) (by decide) (zk1 (w4s.k fk_zMm_338)) (show a.toInt = ((w3n : Nat) : Int) by omega) (zk2 (w4s.k fk_zMm_338) (by omega)) w8e ?_
    refine zs_iconst (pc := 27) t227_27 (v := 1) (by decide) ?_
    exact zs_iret (pc := 28) t227_28 mr227 (by decide) (hQ _ _ w4s w9 (((zFr.refl).trans (w4F.mono rfl)).put rfl) w10 (zPC.fr (M' := (zsI w4M 338 w3n (1 : Int32))) w4C (zEq.put rfl)) (zPF.fr (M' := (zsI w4M 338 w3n (1 : Int32))) (zPF.fr pF (w4F.eq rfl) w4J) (zEq.put rfl) rfl) (by decide) (by decide))
  · refine zs_invS (pc := 4) (as := [.long a.toInt64, .long (0 : Int64), .long (1 : Int64)]) (st := []) t227_4 (by decide) mf228 rfl rfl ⟨by decide, by decide, Nat.le_of_ble_eq_true rfl, Nat.le_of_ble_eq_true rfl⟩ (K228F (zi2l rfl) ll0 ll1 (by omega) ?_) (fun _ _ q => q)
    show zGo X l 1 0 0 227 7 [(0, .ref 336), (1, .int a)] [.int (0 : Int32)] M _
    refine zs_if_neF (pc := 7) t227_7 li0 (by decide) ?_
    refine zs_iconst (pc := 10) t227_10 (v := 0) (by decide) ?_
    exact zs_iret (pc := 11) t227_11 mr227 (by decide) (hQ _ _ hs hI (zFr.refl) pR pC pF (by decide) (by decide))
theorem K229 {X : zX} {l : Launch} {M : zM} {Q : Option Value → zM → Prop} {a : Int32} (hs : zSk zMm M) (hI : zIv mLo mHi M) (pR : zPR M) (pC : zPC M) (pF : zPF M) (hQ : ∀ (M' : zM) (v : Int32), zSk zMm M' → zIv mLo mHi M' → zFr [(336, 363, none)] M M' → zPR M' → zPC M' → zPF M' → 0 ≤ v.toInt → v.toInt ≤ 1 → Q (some (.int v)) M') : zCall X l 2 0 0 229 [.ref 336, .int a] M Q := by
  have ga := zrg a
  refine zs_in (by decide) mf229 (Nat.le_of_ble_eq_true rfl) ?_
  show zGo X l 2 0 0 229 0 [(0, .ref 336), (1, .int a)] [] M _
  refine zs_iload_n (pc := 0) t229_0 rfl ?_
  refine zs_i2l (pc := 1) t229_1 rfl ?_
  refine zs_lconst (pc := 2) t229_2 (v := 0) (by decide) ?_
  refine zs_lconst (pc := 3) t229_3 (v := 1) (by decide) ?_
  by_cases w1 : 0 ≤ a.toInt ∧ a.toInt ≤ 1
  · refine zs_invS (pc := 4) (as := [.long a.toInt64, .long (0 : Int64), .long (1 : Int64)]) (st := []) t229_4 (by decide) mf228 rfl rfl ⟨by decide, by decide, Nat.le_of_ble_eq_true rfl, Nat.le_of_ble_eq_true rfl⟩ (K228T (zi2l rfl) ll0 ll1 (by omega) ?_) (fun _ _ q => q)
    show zGo X l 2 0 0 229 7 [(0, .ref 336), (1, .int a)] [.int (1 : Int32)] M _
    refine zs_if_eqF (pc := 7) t229_7 li1 (by decide) ?_
    refine zs_aload_n (pc := 10) t229_10 rfl ?_
    refine zs_get (pc := 11) t229_11 (by decide) (zk1 (hs.k fk_zMm_336)) (hs.p rfl fv_zMm_336_2) ?_
    refine zs_iload_n (pc := 14) t229_14 rfl ?_
    obtain ⟨w2n, w2⟩ : ∃ n : Nat, a.toInt = (n : Int) := ⟨(a.toInt).toNat, by omega⟩
    have w3 := ib338 hI w2n
    refine zs_bald (pc := 15) t229_15 (j := w2n) (Or.inr (zk1 (hs.k fk_zMm_338))) (show a.toInt = ((w2n : Nat) : Int) by omega) (zk2 (hs.k fk_zMm_338) (by omega)) rfl ?_
    by_cases w4 : (zI M 338 w2n).toInt ≠ 0
    · refine zs_if_neT (pc := 16) t229_16 rfl (by omega) ?_
      refine zs_aload_n (pc := 21) t229_21 rfl ?_
      refine zs_iconst (pc := 22) t229_22 (v := 0) (by decide) ?_
      have w5 := ibA1 hI
      have w6 : (zI M 337 1).toInt = (zI M 337 1).toInt := (congrArg Int32.toInt rfl).trans rfl
      have w7 := ibA0 hI
      have w8 : (zI M 337 0).toInt = (zI M 337 0).toInt := (congrArg Int32.toInt rfl).trans rfl
      have w9 := ibA2 hI
      have w10 : (zI M 337 2).toInt = (zI M 337 2).toInt := (congrArg Int32.toInt rfl).trans rfl
      refine zs_invV (pc := 23) (k := 336) (as' := [.int (0 : Int32)]) (st := []) t229_23 mf230 rfl rfl (Or.inl ⟨by decide, (zk1 (hs.k fk_zMm_336))⟩) ⟨by decide, by decide, Nat.le_of_ble_eq_true rfl, Nat.le_of_ble_eq_true rfl⟩ (K230_0 hs hI pR pC ?_) (fun _ _ q => q)
      intro w11M w11s w11I w11F w11J w11PR w11PC w11PF w11t0 w11t1 w11t2
      have w12 := ibA1 w11I
      have w13 := ibA0 w11I
      have w14 := ibA2 w11I
      show zGo X l 2 0 0 229 26 [(0, .ref 336), (1, .int a)] [] w11M _
      refine zs_aload_n (pc := 26) t229_26 rfl ?_
      refine zs_iconst (pc := 27) t229_27 (v := 1) (by decide) ?_
      refine zs_iload_n (pc := 28) t229_28 rfl ?_
      obtain ⟨w15v, w15e, w15⟩ := ziadd (a := (1 : Int32)) (b := a) li1 rfl (by omega) (by omega)
      refine zs_iadd (pc := 29) t229_29 (c := w15v) w15e ?_
      refine zs_iconst (pc := 30) t229_30 (v := 0) (by decide) ?_
      have w16 : (zI w11M 338 w2n).toInt = (zI M 338 w2n).toInt := (congrArg Int32.toInt ((w11F 338 w2n rfl).trans rfl)).trans rfl
      have w17k : zRk (zrow w11M (1 + w2n)) := (w11PR.2.1 w2n (by omega) (by omega))
      refine zs_invV (pc := 31) (k := 336) (as' := [.int w15v, .int (0 : Int32)]) (st := []) t229_31 mf226 rfl rfl (Or.inl ⟨by decide, (zk1 (w11s.k fk_zMm_336))⟩) ⟨by decide, by decide, Nat.le_of_ble_eq_true rfl, Nat.le_of_ble_eq_true rfl⟩ (K226 (na := (1 + w2n)) (nb := 0) w11s w11I (by omega) (by decide) (by omega) (by omega) (by omega) w17k ?_) (fun _ _ q => q)
      intro w17M w17s w17I w17F w17J w17c
      have w17R : zPR w17M := zPR.cp w11PR w11I w17k w17c (w17F.eq rfl)
      have w17C : zPC w17M := zPC.cp w11PC w11I w11PR w17k w17c
      show zGo X l 2 0 0 229 34 [(0, .ref 336), (1, .int a)] [] w17M _
      refine zs_iconst (pc := 34) t229_34 (v := 1) (by decide) ?_
      exact zs_iret (pc := 35) t229_35 mr229 (by decide) (hQ _ _ w17s w17I (((zFr.refl).trans (w11F.mono rfl)).trans (w17F.mono rfl)) w17R w17C (zPF.fr w11PF (w17F.eq rfl) w17J) (by decide) (by decide))
    · refine zs_if_neF (pc := 16) t229_16 rfl (by omega) ?_
      refine zs_iconst (pc := 19) t229_19 (v := 0) (by decide) ?_
      exact zs_iret (pc := 20) t229_20 mr229 (by decide) (hQ _ _ hs hI (zFr.refl) pR pC pF (by decide) (by decide))
  · refine zs_invS (pc := 4) (as := [.long a.toInt64, .long (0 : Int64), .long (1 : Int64)]) (st := []) t229_4 (by decide) mf228 rfl rfl ⟨by decide, by decide, Nat.le_of_ble_eq_true rfl, Nat.le_of_ble_eq_true rfl⟩ (K228F (zi2l rfl) ll0 ll1 (by omega) ?_) (fun _ _ q => q)
    show zGo X l 2 0 0 229 7 [(0, .ref 336), (1, .int a)] [.int (0 : Int32)] M _
    refine zs_if_eqT (pc := 7) t229_7 li0 (by decide) ?_
    refine zs_iconst (pc := 19) t229_19 (v := 0) (by decide) ?_
    exact zs_iret (pc := 20) t229_20 mr229 (by decide) (hQ _ _ hs hI (zFr.refl) pR pC pF (by decide) (by decide))
theorem K331 {X : zX} {l : Launch} {M : zM} {Q : Option Value → zM → Prop} {a b c : Int32} (hs : zSk zMm M) (hI : zIv mLo mHi M) (pR : zPR M) (pC : zPC M) (pF : zPF M) (hQ : ∀ (M' : zM) (v : Int32), zSk zMm M' → zIv mLo mHi M' → zFr [(336, 363, none)] M M' → zPR M' → zPC M' → zPF M' → Q (some (.int v)) M') : zCall X l 2 0 0 331 [.ref 336, .int a, .int b, .int c] M Q := by
  have ga := zrg a
  have gb := zrg b
  have gc := zrg c
  refine zs_in (by decide) mf331 (Nat.le_of_ble_eq_true rfl) ?_
  show zGo X l 2 0 0 331 0 [(0, .ref 336), (1, .int a), (2, .int b), (3, .int c)] [] M _
  refine zs_aload_n (pc := 0) t331_0 rfl ?_
  refine zs_iload_n (pc := 1) t331_1 rfl ?_
  refine zs_invV (pc := 2) (k := 336) (as' := [.int a]) (st := []) t331_2 mf306 rfl rfl (Or.inl ⟨by decide, (zk1 (hs.k fk_zMm_336))⟩) ⟨by decide, by decide, Nat.le_of_ble_eq_true rfl, Nat.le_of_ble_eq_true rfl⟩ (zs_in (by decide) mf306 (Nat.le_of_ble_eq_true rfl) ?_) (fun _ _ q => q)
  show zGo X l 1 0 0 306 0 [(0, .ref 336), (1, .int a)] [] M _
  refine zs_iload_n (pc := 0) t306_0 rfl ?_
  refine zs_i2l (pc := 1) t306_1 rfl ?_
  refine zs_lconst (pc := 2) t306_2 (v := 0) (by decide) ?_
  refine zs_aload_n (pc := 3) t306_3 rfl ?_
  refine zs_get (pc := 4) t306_4 (by decide) (zk1 (hs.k fk_zMm_336)) (hs.p rfl fv_zMm_336_0) ?_
  refine zs_iconst (pc := 7) t306_7 (v := 0) (by decide) ?_
  have w1 := ibA0 hI
  refine zs_iald (pc := 8) t306_8 (j := 0) (by decide) (zk1 (hs.k fk_zMm_337)) li0 (zk2 (hs.k fk_zMm_337) (by decide)) rfl ?_
  refine zs_iconst (pc := 9) t306_9 (v := 1) (by decide) ?_
  obtain ⟨w2v, w2e, w2⟩ := zisub (a := (zI M 337 0)) (b := (1 : Int32)) rfl li1 (by omega) (by omega)
  refine zs_isub (pc := 10) t306_10 (c := w2v) w2e ?_
  refine zs_i2l (pc := 11) t306_11 rfl ?_
  by_cases w3 : 0 ≤ a.toInt ∧ a.toInt ≤ ((zI M 337 0).toInt - 1)
  · refine zs_invS (pc := 12) (as := [.long a.toInt64, .long (0 : Int64), .long w2v.toInt64]) (st := []) t306_12 (by decide) mf228 rfl rfl ⟨by decide, by decide, Nat.le_of_ble_eq_true rfl, Nat.le_of_ble_eq_true rfl⟩ (K228T (zi2l rfl) ll0 (zi2l w2) (by omega) ?_) (fun _ _ q => q)
    show zGo X l 1 0 0 306 15 [(0, .ref 336), (1, .int a)] [.int (1 : Int32)] M _
    refine zs_iret (pc := 15) t306_15 mr306 (by decide) ?_
    show zGo X l 2 0 0 331 5 [(0, .ref 336), (1, .int a), (2, .int b), (3, .int c)] [.int (1 : Int32)] M _
    refine zs_if_eqF (pc := 5) t331_5 li1 (by decide) ?_
    refine zs_iload_n (pc := 8) t331_8 rfl ?_
    refine zs_i2l (pc := 9) t331_9 rfl ?_
    refine zs_ldc2_w (pc := 10) t331_10 (v := -9999) (by decide) ?_
    refine zs_ldc2_w (pc := 13) t331_13 (v := 9999) (by decide) ?_
    by_cases w4 : (-9999) ≤ b.toInt ∧ b.toInt ≤ 9999
    · refine zs_invS (pc := 16) (as := [.long b.toInt64, .long (-9999 : Int64), .long (9999 : Int64)]) (st := []) t331_16 (by decide) mf228 rfl rfl ⟨by decide, by decide, Nat.le_of_ble_eq_true rfl, Nat.le_of_ble_eq_true rfl⟩ (K228T (zi2l rfl) lln9999 ll9999 (by omega) ?_) (fun _ _ q => q)
      show zGo X l 2 0 0 331 19 [(0, .ref 336), (1, .int a), (2, .int b), (3, .int c)] [.int (1 : Int32)] M _
      refine zs_if_eqF (pc := 19) t331_19 li1 (by decide) ?_
      refine zs_iload_n (pc := 22) t331_22 rfl ?_
      refine zs_i2l (pc := 23) t331_23 rfl ?_
      refine zs_lconst (pc := 24) t331_24 (v := 0) (by decide) ?_
      refine zs_ldc2_w (pc := 25) t331_25 (v := 999) (by decide) ?_
      by_cases w5 : 0 ≤ c.toInt ∧ c.toInt ≤ 999
      · refine zs_invS (pc := 28) (as := [.long c.toInt64, .long (0 : Int64), .long (999 : Int64)]) (st := []) t331_28 (by decide) mf228 rfl rfl ⟨by decide, by decide, Nat.le_of_ble_eq_true rfl, Nat.le_of_ble_eq_true rfl⟩ (K228T (zi2l rfl) ll0 ll999 (by omega) ?_) (fun _ _ q => q)
        show zGo X l 2 0 0 331 31 [(0, .ref 336), (1, .int a), (2, .int b), (3, .int c)] [.int (1 : Int32)] M _
        refine zs_if_eqF (pc := 31) t331_31 li1 (by decide) ?_
        refine zs_aload_n (pc := 34) t331_34 rfl ?_
        refine zs_get (pc := 35) t331_35 (by decide) (zk1 (hs.k fk_zMm_336)) (hs.p rfl fv_zMm_336_0) ?_
        refine zs_iconst (pc := 38) t331_38 (v := 1) (by decide) ?_
        have w6 := ibA1 hI
        refine zs_iald (pc := 39) t331_39 (j := 1) (by decide) (zk1 (hs.k fk_zMm_337)) li1 (zk2 (hs.k fk_zMm_337) (by decide)) rfl ?_
        refine zs_bipush (pc := 40) t331_40 (v := 60) (by decide) ?_
        by_cases w7 : (zI M 337 1).toInt ≠ 60
        · refine zs_icmp_neT (pc := 42) t331_42 rfl li60 (by omega) ?_
          refine zs_aload_n (pc := 47) t331_47 rfl ?_
          refine zs_iconst (pc := 48) t331_48 (v := 0) (by decide) ?_
          have w8 : (zI M 337 1).toInt = (zI M 337 1).toInt := (congrArg Int32.toInt rfl).trans rfl
          have w9 : (zI M 337 0).toInt = (zI M 337 0).toInt := (congrArg Int32.toInt rfl).trans rfl
          have w10 := ibA2 hI
          have w11 : (zI M 337 2).toInt = (zI M 337 2).toInt := (congrArg Int32.toInt rfl).trans rfl
          refine zs_invV (pc := 49) (k := 336) (as' := [.int (0 : Int32)]) (st := []) t331_49 mf230 rfl rfl (Or.inl ⟨by decide, (zk1 (hs.k fk_zMm_336))⟩) ⟨by decide, by decide, Nat.le_of_ble_eq_true rfl, Nat.le_of_ble_eq_true rfl⟩ (K230_0 hs hI pR pC ?_) (fun _ _ q => q)
          intro w12M w12s w12I w12F w12J w12PR w12PC w12PF w12t0 w12t1 w12t2
          have w13 := ibA1 w12I
          have w14 := ibA0 w12I
          have w15 := ibA2 w12I
          show zGo X l 2 0 0 331 52 [(0, .ref 336), (1, .int a), (2, .int b), (3, .int c)] [] w12M _
          refine zs_aload_n (pc := 52) t331_52 rfl ?_
          refine zs_iload_n (pc := 53) t331_53 rfl ?_
          refine zs_iload_n (pc := 54) t331_54 rfl ?_
          refine zs_iload_n (pc := 55) t331_55 rfl ?_
          refine zs_bipush (pc := 56) t331_56 (v := -2) (by decide) ?_
          have w16 : (-2 : Int32).toInt = (-2) := lin2
          have w17 : (zI w12M 337 1).toInt = (zI w12M 337 1).toInt := (congrArg Int32.toInt rfl).trans rfl
          have w18 : (zI w12M 337 0).toInt = (zI w12M 337 0).toInt := (congrArg Int32.toInt rfl).trans rfl
          have w19 : (zI w12M 337 1).toInt = (zI w12M 337 1).toInt := (congrArg Int32.toInt rfl).trans rfl
          have w20 : (zI w12M 337 0).toInt = (zI w12M 337 0).toInt := (congrArg Int32.toInt rfl).trans rfl
          have w21 : (zI w12M 337 2).toInt = (zI w12M 337 2).toInt := (congrArg Int32.toInt rfl).trans rfl
          refine zs_invV (pc := 58) (k := 336) (as' := [.int a, .int b, .int c, .int (-2 : Int32)]) (st := []) t331_58 mf252 rfl rfl (Or.inl ⟨by decide, (zk1 (w12s.k fk_zMm_336))⟩) ⟨by decide, by decide, Nat.le_of_ble_eq_true rfl, Nat.le_of_ble_eq_true rfl⟩ (K252 w12s w12I w12PR w12PC ⟨by omega, by omega⟩ (by omega) (by omega) ?_) (fun _ _ q => q)
          intro w22M w22s w22I w22F w22J w22U w22PR w22PC w22t0 w22t1 w22t2
          have w23 := ibA1 w22I
          have w24 := ibA0 w22I
          have w25 := ibA2 w22I
          show zGo X l 2 0 0 331 61 [(0, .ref 336), (1, .int a), (2, .int b), (3, .int c)] [] w22M _
          refine zs_aload_n (pc := 61) t331_61 rfl ?_
          refine zs_get (pc := 62) t331_62 (by decide) (zk1 (w22s.k fk_zMm_336)) (w22s.p rfl fv_zMm_336_0) ?_
          refine zs_iconst (pc := 65) t331_65 (v := 1) (by decide) ?_
          refine zs_iald (pc := 66) t331_66 (j := 1) (by decide) (zk1 (w22s.k fk_zMm_337)) li1 (zk2 (w22s.k fk_zMm_337) (by decide)) rfl ?_
          refine zs_iconst (pc := 67) t331_67 (v := 1) (by decide) ?_
          obtain ⟨w26v, w26e, w26⟩ := zisub (a := (zI w22M 337 1)) (b := (1 : Int32)) rfl li1 (by omega) (by omega)
          refine zs_isub (pc := 68) t331_68 (c := w26v) w26e ?_
          exact zs_iret (pc := 69) t331_69 mr331 rfl (hQ _ _ w22s w22I (((zFr.refl).trans (w12F.mono rfl)).trans (w22F.mono rfl)) w22PR w22PC (zPF.fr w12PF (w22F.eq rfl) w22J))
        · refine zs_icmp_neF (pc := 42) t331_42 rfl li60 (by omega) ?_
          refine zs_iconst (pc := 45) t331_45 (v := -1) (by decide) ?_
          exact zs_iret (pc := 46) t331_46 mr331 (by decide) (hQ _ _ hs hI (zFr.refl) pR pC pF)
      · refine zs_invS (pc := 28) (as := [.long c.toInt64, .long (0 : Int64), .long (999 : Int64)]) (st := []) t331_28 (by decide) mf228 rfl rfl ⟨by decide, by decide, Nat.le_of_ble_eq_true rfl, Nat.le_of_ble_eq_true rfl⟩ (K228F (zi2l rfl) ll0 ll999 (by omega) ?_) (fun _ _ q => q)
        show zGo X l 2 0 0 331 31 [(0, .ref 336), (1, .int a), (2, .int b), (3, .int c)] [.int (0 : Int32)] M _
        refine zs_if_eqT (pc := 31) t331_31 li0 (by decide) ?_
        refine zs_iconst (pc := 45) t331_45 (v := -1) (by decide) ?_
        exact zs_iret (pc := 46) t331_46 mr331 (by decide) (hQ _ _ hs hI (zFr.refl) pR pC pF)
    · refine zs_invS (pc := 16) (as := [.long b.toInt64, .long (-9999 : Int64), .long (9999 : Int64)]) (st := []) t331_16 (by decide) mf228 rfl rfl ⟨by decide, by decide, Nat.le_of_ble_eq_true rfl, Nat.le_of_ble_eq_true rfl⟩ (K228F (zi2l rfl) lln9999 ll9999 (by omega) ?_) (fun _ _ q => q)
      show zGo X l 2 0 0 331 19 [(0, .ref 336), (1, .int a), (2, .int b), (3, .int c)] [.int (0 : Int32)] M _
      refine zs_if_eqT (pc := 19) t331_19 li0 (by decide) ?_
      refine zs_iconst (pc := 45) t331_45 (v := -1) (by decide) ?_
      exact zs_iret (pc := 46) t331_46 mr331 (by decide) (hQ _ _ hs hI (zFr.refl) pR pC pF)
  · refine zs_invS (pc := 12) (as := [.long a.toInt64, .long (0 : Int64), .long w2v.toInt64]) (st := []) t306_12 (by decide) mf228 rfl rfl ⟨by decide, by decide, Nat.le_of_ble_eq_true rfl, Nat.le_of_ble_eq_true rfl⟩ (K228F (zi2l rfl) ll0 (zi2l w2) (by omega) ?_) (fun _ _ q => q)
    show zGo X l 1 0 0 306 15 [(0, .ref 336), (1, .int a)] [.int (0 : Int32)] M _
    refine zs_iret (pc := 15) t306_15 mr306 (by decide) ?_
    show zGo X l 2 0 0 331 5 [(0, .ref 336), (1, .int a), (2, .int b), (3, .int c)] [.int (0 : Int32)] M _
    refine zs_if_eqT (pc := 5) t331_5 li0 (by decide) ?_
    refine zs_iconst (pc := 45) t331_45 (v := -1) (by decide) ?_
    exact zs_iret (pc := 46) t331_46 mr331 (by decide) (hQ _ _ hs hI (zFr.refl) pR pC pF)
theorem K332 {X : zX} {l : Launch} {M : zM} {Q : Option Value → zM → Prop} {a : Int32} (hs : zSk zMm M) (hI : zIv mLo mHi M) (pR : zPR M) (pC : zPC M) (pF : zPF M) (hQ : ∀ (M' : zM) (v : Int32), zSk zMm M' → zIv mLo mHi M' → zFr [(336, 363, none)] M M' → zPR M' → zPC M' → zPF M' → Q (some (.int v)) M') : zCall X l 3 0 0 332 [.ref 336, .int a] M Q := by
  have ga := zrg a
  refine zs_in (by decide) mf332 (Nat.le_of_ble_eq_true rfl) ?_
  show zGo X l 3 0 0 332 0 [(0, .ref 336), (1, .int a)] [] M _
  refine zs_aload_n (pc := 0) t332_0 rfl ?_
  refine zs_iload_n (pc := 1) t332_1 rfl ?_
  refine zs_invV (pc := 2) (k := 336) (as' := [.int a]) (st := []) t332_2 mf308 rfl rfl (Or.inl ⟨by decide, (zk1 (hs.k fk_zMm_336))⟩) ⟨by decide, by decide, Nat.le_of_ble_eq_true rfl, Nat.le_of_ble_eq_true rfl⟩ (zs_in (by decide) mf308 (Nat.le_of_ble_eq_true rfl) ?_) (fun _ _ q => q)
  show zGo X l 1 0 0 308 0 [(0, .ref 336), (1, .int a)] [] M _
  refine zs_iload_n (pc := 0) t308_0 rfl ?_
  refine zs_i2l (pc := 1) t308_1 rfl ?_
  refine zs_lconst (pc := 2) t308_2 (v := 0) (by decide) ?_
  refine zs_aload_n (pc := 3) t308_3 rfl ?_
  refine zs_get (pc := 4) t308_4 (by decide) (zk1 (hs.k fk_zMm_336)) (hs.p rfl fv_zMm_336_0) ?_
  refine zs_iconst (pc := 7) t308_7 (v := 1) (by decide) ?_
  have w1 := ibA1 hI
  refine zs_iald (pc := 8) t308_8 (j := 1) (by decide) (zk1 (hs.k fk_zMm_337)) li1 (zk2 (hs.k fk_zMm_337) (by decide)) rfl ?_
  refine zs_iconst (pc := 9) t308_9 (v := 1) (by decide) ?_
  obtain ⟨w2v, w2e, w2⟩ := zisub (a := (zI M 337 1)) (b := (1 : Int32)) rfl li1 (by omega) (by omega)
  refine zs_isub (pc := 10) t308_10 (c := w2v) w2e ?_
  refine zs_i2l (pc := 11) t308_11 rfl ?_
  by_cases w3 : 0 ≤ a.toInt ∧ a.toInt ≤ ((zI M 337 1).toInt - 1)
  · refine zs_invS (pc := 12) (as := [.long a.toInt64, .long (0 : Int64), .long w2v.toInt64]) (st := []) t308_12 (by decide) mf228 rfl rfl ⟨by decide, by decide, Nat.le_of_ble_eq_true rfl, Nat.le_of_ble_eq_true rfl⟩ (K228T (zi2l rfl) ll0 (zi2l w2) (by omega) ?_) (fun _ _ q => q)
    show zGo X l 1 0 0 308 15 [(0, .ref 336), (1, .int a)] [.int (1 : Int32)] M _
    refine zs_iret (pc := 15) t308_15 mr308 (by decide) ?_
    show zGo X l 3 0 0 332 5 [(0, .ref 336), (1, .int a)] [.int (1 : Int32)] M _
    refine zs_if_eqF (pc := 5) t332_5 li1 (by decide) ?_
    refine zs_aload_n (pc := 8) t332_8 rfl ?_
    refine zs_iload_n (pc := 9) t332_9 rfl ?_
    refine zs_iconst (pc := 10) t332_10 (v := 2) (by decide) ?_
    refine zs_invV (pc := 11) (k := 336) (as' := [.int a, .int (2 : Int32)]) (st := []) t332_11 mf272 rfl rfl (Or.inl ⟨by decide, (zk1 (hs.k fk_zMm_336))⟩) ⟨by decide, by decide, Nat.le_of_ble_eq_true rfl, Nat.le_of_ble_eq_true rfl⟩ (zs_in (by decide) mf272 (Nat.le_of_ble_eq_true rfl) ?_) (fun _ _ q => q)
    show zGo X l 0 0 0 272 0 [(0, .ref 336), (1, .int a), (2, .int (2 : Int32))] [] M _
    refine zs_aload_n (pc := 0) t272_0 rfl ?_
    refine zs_get (pc := 1) t272_1 (by decide) (zk1 (hs.k fk_zMm_336)) (hs.p rfl fv_zMm_336_0) ?_
    refine zs_bipush (pc := 4) t272_4 (v := 30) (by decide) ?_
    refine zs_iconst (pc := 6) t272_6 (v := 4) (by decide) ?_
    refine zs_iload_n (pc := 7) t272_7 rfl ?_
    obtain ⟨w4v, w4⟩ : ∃ v, (4 : Int32) * a = v := ⟨_, rfl⟩
    have w4g : w4v.toInt = 4 * a.toInt := by rw [← w4]; exact zmulc li4 rfl (by omega) (by omega)
    refine zs_imul (pc := 8) t272_8 (c := w4v) w4 ?_
    obtain ⟨w5v, w5e, w5⟩ := ziadd (a := (30 : Int32)) (b := w4v) li30 w4g (by omega) (by omega)
    refine zs_iadd (pc := 9) t272_9 (c := w5v) w5e ?_
    refine zs_iload_n (pc := 10) t272_10 rfl ?_
    obtain ⟨w6v, w6e, w6⟩ := ziadd (a := w5v) (b := (2 : Int32)) w5 li2 (by omega) (by omega)
    refine zs_iadd (pc := 11) t272_11 (c := w6v) w6e ?_
    obtain ⟨w7n, w7⟩ : ∃ n : Nat, a.toInt = (n : Int) := ⟨(a.toInt).toNat, by omega⟩
    have w8 := zrg (zI M 337 (32 + 4 * w7n))
    refine zs_iald (pc := 12) t272_12 (j := (32 + 4 * w7n)) (by decide) (zk1 (hs.k fk_zMm_337)) (show w6v.toInt = (((32 + 4 * w7n) : Nat) : Int) by omega) (zk2 (hs.k fk_zMm_337) (by omega)) rfl ?_
    refine zs_iret (pc := 13) t272_13 mr272 rfl ?_
    show zGo X l 3 0 0 332 14 [(0, .ref 336), (1, .int a)] [.int (zI M 337 (32 + 4 * w7n))] M _
    refine zs_iconst (pc := 14) t332_14 (v := -1) (by decide) ?_
    by_cases w9 : (zI M 337 (32 + 4 * w7n)).toInt ≠ (-1)
    · refine zs_icmp_neT (pc := 15) t332_15 rfl lin1 (by omega) ?_
      refine zs_aload_n (pc := 20) t332_20 rfl ?_
      refine zs_iconst (pc := 21) t332_21 (v := 0) (by decide) ?_
      have w10 : (zI M 337 1).toInt = (zI M 337 1).toInt := (congrArg Int32.toInt rfl).trans rfl
      have w11 := ibA0 hI
      have w12 : (zI M 337 0).toInt = (zI M 337 0).toInt := (congrArg Int32.toInt rfl).trans rfl
      have w13 := ibA2 hI
      have w14 : (zI M 337 2).toInt = (zI M 337 2).toInt := (congrArg Int32.toInt rfl).trans rfl
      refine zs_invV (pc := 22) (k := 336) (as' := [.int (0 : Int32)]) (st := []) t332_22 mf230 rfl rfl (Or.inl ⟨by decide, (zk1 (hs.k fk_zMm_336))⟩) ⟨by decide, by decide, Nat.le_of_ble_eq_true rfl, Nat.le_of_ble_eq_true rfl⟩ (K230_0 hs hI pR pC ?_) (fun _ _ q => q)
      intro w15M w15s w15I w15F w15J w15PR w15PC w15PF w15t0 w15t1 w15t2
      have w16 := ibA1 w15I
      have w17 := ibA0 w15I
      have w18 := ibA2 w15I
      show zGo X l 3 0 0 332 25 [(0, .ref 336), (1, .int a)] [] w15M _
      refine zs_aload_n (pc := 25) t332_25 rfl ?_
      refine zs_get (pc := 26) t332_26 (by decide) (zk1 (w15s.k fk_zMm_336)) (w15s.p rfl fv_zMm_336_0) ?_
      refine zs_bipush (pc := 29) t332_29 (v := 30) (by decide) ?_
      refine zs_iconst (pc := 31) t332_31 (v := 4) (by decide) ?_
      refine zs_iload_n (pc := 32) t332_32 rfl ?_
      obtain ⟨w19v, w19⟩ : ∃ v, (4 : Int32) * a = v := ⟨_, rfl⟩
      have w19g : w19v.toInt = 4 * a.toInt := by rw [← w19]; exact zmulc li4 rfl (by omega) (by omega)
      refine zs_imul (pc := 33) t332_33 (c := w19v) w19 ?_
      obtain ⟨w20v, w20e, w20⟩ := ziadd (a := (30 : Int32)) (b := w19v) li30 w19g (by omega) (by omega)
      refine zs_iadd (pc := 34) t332_34 (c := w20v) w20e ?_
      refine zs_iconst (pc := 35) t332_35 (v := 2) (by decide) ?_
      obtain ⟨w21v, w21e, w21⟩ := ziadd (a := w20v) (b := (2 : Int32)) w20 li2 (by omega) (by omega)
      refine zs_iadd (pc := 36) t332_36 (c := w21v) w21e ?_
      refine zs_iconst (pc := 37) t332_37 (v := -1) (by decide) ?_
      have w22a := aN (p := (32 + 4 * w7n)) (by omega)
      have w22 : zIv mLo mHi (zsI w15M 337 (32 + 4 * w7n) (-1 : Int32)) := zIv.putA w15I (by omega) (by rw [w22a.1, w22a.2]; exact zrg (-1 : Int32))
      have w23 : (zI w15M 337 0).toInt = (zI w15M 337 0).toInt := (congrArg Int32.toInt rfl).trans rfl
      have w24 : (zI w15M 337 1).toInt = (zI w15M 337 1).toInt := (congrArg Int32.toInt rfl).trans rfl
      have w25 : zPR (zsI w15M 337 (32 + 4 * w7n) (-1 : Int32)) := zPR.put w15PR (by omega) (by omega) (by omega) (by omega)
      have w26 : zPC (zsI w15M 337 (32 + 4 * w7n) (-1 : Int32)) := zPC.put w15PC (by omega) (by omega)
      refine zs_iast (pc := 38) t332_38 (j := (32 + 4 * w7n)) (by decide) (zk1 (w15s.k fk_zMm_337)) (show w21v.toInt = (((32 + 4 * w7n) : Nat) : Int) by omega) (zk2 (w15s.k fk_zMm_337) (by omega)) ?_
      refine zs_aload_n (pc := 39) t332_39 rfl ?_
      refine zs_iconst (pc := 40) t332_40 (v := -1) (by decide) ?_
      refine zs_invV (pc := 41) (k := 336) (as' := [.int (-1 : Int32)]) (st := []) t332_41 mf290 rfl rfl (Or.inl ⟨by decide, (zk1 (w15s.k fk_zMm_336))⟩) ⟨by decide, by decide, Nat.le_of_ble_eq_true rfl, Nat.le_of_ble_eq_true rfl⟩ (K290 w15s w22 ?_) (fun _ _ q => q)
      intro w27v
      have w27g := zrg w27v
      show zGo X l 3 0 0 332 44 [(0, .ref 336), (1, .int a)] [.int w27v] (zsI w15M 337 (32 + 4 * w7n) (-1 : Int32)) _
      exact zs_iret (pc := 44) t332_44 mr332 rfl (hQ _ _ w15s w22 (((zFr.refl).trans (w15F.mono rfl)).put rfl) w25 w26 (zPF.fr (M' := (zsI w15M 337 (32 + 4 * w7n) (-1 : Int32))) w15PF (zEq.put rfl) rfl))
    · refine zs_icmp_neF (pc := 15) t332_15 rfl lin1 (by omega) ?_
      refine zs_iconst (pc := 18) t332_18 (v := -1) (by decide) ?_
      exact zs_iret (pc := 19) t332_19 mr332 (by decide) (hQ _ _ hs hI (zFr.refl) pR pC pF)
  · refine zs_invS (pc := 12) (as := [.long a.toInt64, .long (0 : Int64), .long w2v.toInt64]) (st := []) t308_12 (by decide) mf228 rfl rfl ⟨by decide, by decide, Nat.le_of_ble_eq_true rfl, Nat.le_of_ble_eq_true rfl⟩ (K228F (zi2l rfl) ll0 (zi2l w2) (by omega) ?_) (fun _ _ q => q)
    show zGo X l 1 0 0 308 15 [(0, .ref 336), (1, .int a)] [.int (0 : Int32)] M _
    refine zs_iret (pc := 15) t308_15 mr308 (by decide) ?_
    show zGo X l 3 0 0 332 5 [(0, .ref 336), (1, .int a)] [.int (0 : Int32)] M _
    refine zs_if_eqT (pc := 5) t332_5 li0 (by decide) ?_
    refine zs_iconst (pc := 18) t332_18 (v := -1) (by decide) ?_
    exact zs_iret (pc := 19) t332_19 mr332 (by decide) (hQ _ _ hs hI (zFr.refl) pR pC pF)
theorem K333 {X : zX} {l : Launch} {M : zM} {Q : Option Value → zM → Prop} {a : Int32} (hs : zSk zMm M) (hI : zIv mLo mHi M) (pR : zPR M) (pC : zPC M) (pF : zPF M) (hQ : ∀ (M' : zM) (v : Int32), zSk zMm M' → zIv mLo mHi M' → zFr [(336, 363, none)] M M' → zPR M' → zPC M' → zPF M' → Q (some (.int v)) M') : zCall X l 2 0 0 333 [.ref 336, .int a] M Q := by
  have ga := zrg a
  refine zs_in (by decide) mf333 (Nat.le_of_ble_eq_true rfl) ?_
  show zGo X l 2 0 0 333 0 [(0, .ref 336), (1, .int a)] [] M _
  refine zs_aload_n (pc := 0) t333_0 rfl ?_
  refine zs_iload_n (pc := 1) t333_1 rfl ?_
  refine zs_invV (pc := 2) (k := 336) (as' := [.int a]) (st := []) t333_2 mf306 rfl rfl (Or.inl ⟨by decide, (zk1 (hs.k fk_zMm_336))⟩) ⟨by decide, by decide, Nat.le_of_ble_eq_true rfl, Nat.le_of_ble_eq_true rfl⟩ (zs_in (by decide) mf306 (Nat.le_of_ble_eq_true rfl) ?_) (fun _ _ q => q)
  show zGo X l 1 0 0 306 0 [(0, .ref 336), (1, .int a)] [] M _
  refine zs_iload_n (pc := 0) t306_0 rfl ?_
  refine zs_i2l (pc := 1) t306_1 rfl ?_
  refine zs_lconst (pc := 2) t306_2 (v := 0) (by decide) ?_
  refine zs_aload_n (pc := 3) t306_3 rfl ?_
  refine zs_get (pc := 4) t306_4 (by decide) (zk1 (hs.k fk_zMm_336)) (hs.p rfl fv_zMm_336_0) ?_
  refine zs_iconst (pc := 7) t306_7 (v := 0) (by decide) ?_
  have w1 := ibA0 hI
  refine zs_iald (pc := 8) t306_8 (j := 0) (by decide) (zk1 (hs.k fk_zMm_337)) li0 (zk2 (hs.k fk_zMm_337) (by decide)) rfl ?_
  refine zs_iconst (pc := 9) t306_9 (v := 1) (by decide) ?_
  obtain ⟨w2v, w2e, w2⟩ := zisub (a := (zI M 337 0)) (b := (1 : Int32)) rfl li1 (by omega) (by omega)
  refine zs_isub (pc := 10) t306_10 (c := w2v) w2e ?_
  refine zs_i2l (pc := 11) t306_11 rfl ?_
  by_cases w3 : 0 ≤ a.toInt ∧ a.toInt ≤ ((zI M 337 0).toInt - 1)
  · refine zs_invS (pc := 12) (as := [.long a.toInt64, .long (0 : Int64), .long w2v.toInt64]) (st := []) t306_12 (by decide) mf228 rfl rfl ⟨by decide, by decide, Nat.le_of_ble_eq_true rfl, Nat.le_of_ble_eq_true rfl⟩ (K228T (zi2l rfl) ll0 (zi2l w2) (by omega) ?_) (fun _ _ q => q)
    show zGo X l 1 0 0 306 15 [(0, .ref 336), (1, .int a)] [.int (1 : Int32)] M _
    refine zs_iret (pc := 15) t306_15 mr306 (by decide) ?_
    show zGo X l 2 0 0 333 5 [(0, .ref 336), (1, .int a)] [.int (1 : Int32)] M _
    refine zs_if_neT (pc := 5) t333_5 li1 (by decide) ?_
    refine zs_aload_n (pc := 10) t333_10 rfl ?_
    refine zs_iconst (pc := 11) t333_11 (v := 0) (by decide) ?_
    have w4 := ibA1 hI
    have w5 : (zI M 337 1).toInt = (zI M 337 1).toInt := (congrArg Int32.toInt rfl).trans rfl
    have w6 : (zI M 337 0).toInt = (zI M 337 0).toInt := (congrArg Int32.toInt rfl).trans rfl
    have w7 := ibA2 hI
    have w8 : (zI M 337 2).toInt = (zI M 337 2).toInt := (congrArg Int32.toInt rfl).trans rfl
    refine zs_invV (pc := 12) (k := 336) (as' := [.int (0 : Int32)]) (st := []) t333_12 mf230 rfl rfl (Or.inl ⟨by decide, (zk1 (hs.k fk_zMm_336))⟩) ⟨by decide, by decide, Nat.le_of_ble_eq_true rfl, Nat.le_of_ble_eq_true rfl⟩ (K230_0 hs hI pR pC ?_) (fun _ _ q => q)
    intro w9M w9s w9I w9F w9J w9PR w9PC w9PF w9t0 w9t1 w9t2
    have w10 := ibA1 w9I
    have w11 := ibA0 w9I
    have w12 := ibA2 w9I
    show zGo X l 2 0 0 333 15 [(0, .ref 336), (1, .int a)] [] w9M _
    refine zs_aload_n (pc := 15) t333_15 rfl ?_
    refine zs_get (pc := 16) t333_16 (by decide) (zk1 (w9s.k fk_zMm_336)) (w9s.p rfl fv_zMm_336_0) ?_
    refine zs_bipush (pc := 19) t333_19 (v := 14) (by decide) ?_
    refine zs_iconst (pc := 21) t333_21 (v := 2) (by decide) ?_
    refine zs_iload_n (pc := 22) t333_22 rfl ?_
    obtain ⟨w13v, w13⟩ : ∃ v, (2 : Int32) * a = v := ⟨_, rfl⟩
    have w13g : w13v.toInt = 2 * a.toInt := by rw [← w13]; exact zmulc li2 rfl (by omega) (by omega)
    refine zs_imul (pc := 23) t333_23 (c := w13v) w13 ?_
    obtain ⟨w14v, w14e, w14⟩ := ziadd (a := (14 : Int32)) (b := w13v) li14 w13g (by omega) (by omega)
    refine zs_iadd (pc := 24) t333_24 (c := w14v) w14e ?_
    refine zs_iconst (pc := 25) t333_25 (v := 1) (by decide) ?_
    obtain ⟨w15v, w15e, w15⟩ := ziadd (a := w14v) (b := (1 : Int32)) w14 li1 (by omega) (by omega)
    refine zs_iadd (pc := 26) t333_26 (c := w15v) w15e ?_
    refine zs_dup2 (pc := 27) t333_27 ⟨rfl, rfl⟩ ?_
    obtain ⟨w16n, w16⟩ : ∃ n : Nat, a.toInt = (n : Int) := ⟨(a.toInt).toNat, by omega⟩
    have w17 := zrg (zI w9M 337 (15 + 2 * w16n))
    refine zs_iald (pc := 28) t333_28 (j := (15 + 2 * w16n)) (by decide) (zk1 (w9s.k fk_zMm_337)) (show w15v.toInt = (((15 + 2 * w16n) : Nat) : Int) by omega) (zk2 (w9s.k fk_zMm_337) (by omega)) rfl ?_
    refine zs_iconst (pc := 29) t333_29 (v := 1) (by decide) ?_
    obtain ⟨w18v, w18⟩ : ∃ v, (zI w9M 337 (15 + 2 * w16n)) ^^^ (1 : Int32) = v := ⟨_, rfl⟩
    have w18g := zrg w18v
    refine zs_ixor (pc := 30) t333_30 (c := w18v) w18 ?_
    have w19a := aN (p := (15 + 2 * w16n)) (by omega)
    have w19 : zIv mLo mHi (zsI w9M 337 (15 + 2 * w16n) w18v) := zIv.putA w9I (by omega) (by rw [w19a.1, w19a.2]; exact zrg w18v)
    have w20 : (zI w9M 337 0).toInt = (zI w9M 337 0).toInt := (congrArg Int32.toInt rfl).trans rfl
    have w21 : (zI w9M 337 1).toInt = (zI w9M 337 1).toInt := (congrArg Int32.toInt rfl).trans rfl
    have w22 : zPR (zsI w9M 337 (15 + 2 * w16n) w18v) := zPR.put w9PR (by omega) (by omega) (by omega) (by omega)
    have w23 : zPC (zsI w9M 337 (15 + 2 * w16n) w18v) := zPC.put w9PC (by omega) (by omega)
    refine zs_iast (pc := 31) t333_31 (j := (15 + 2 * w16n)) (by decide) (zk1 (w9s.k fk_zMm_337)) (show w15v.toInt = (((15 + 2 * w16n) : Nat) : Int) by omega) (zk2 (w9s.k fk_zMm_337) (by omega)) ?_
    refine zs_aload_n (pc := 32) t333_32 rfl ?_
    refine zs_get (pc := 33) t333_33 (by decide) (zk1 (w9s.k fk_zMm_336)) (w9s.p rfl fv_zMm_336_0) ?_
    refine zs_bipush (pc := 36) t333_36 (v := 14) (by decide) ?_
    refine zs_iconst (pc := 38) t333_38 (v := 2) (by decide) ?_
    refine zs_iload_n (pc := 39) t333_39 rfl ?_
    obtain ⟨w24v, w24⟩ : ∃ v, (2 : Int32) * a = v := ⟨_, rfl⟩
    have w24g : w24v.toInt = 2 * a.toInt := by rw [← w24]; exact zmulc li2 rfl (by omega) (by omega)
    refine zs_imul (pc := 40) t333_40 (c := w24v) w24 ?_
    obtain ⟨w25v, w25e, w25⟩ := ziadd (a := (14 : Int32)) (b := w24v) li14 w24g (by omega) (by omega)
    refine zs_iadd (pc := 41) t333_41 (c := w25v) w25e ?_
    refine zs_iconst (pc := 42) t333_42 (v := 1) (by decide) ?_
    obtain ⟨w26v, w26e, w26⟩ := ziadd (a := w25v) (b := (1 : Int32)) w25 li1 (by omega) (by omega)
    refine zs_iadd (pc := 43) t333_43 (c := w26v) w26e ?_
    refine zs_iald (pc := 44) t333_44 (j := (15 + 2 * w16n)) (by decide) (zk1 (w9s.k fk_zMm_337)) (show w26v.toInt = (((15 + 2 * w16n) : Nat) : Int) by omega) (zk2 (w9s.k fk_zMm_337) (by omega)) zIs ?_
    exact zs_iret (pc := 45) t333_45 mr333 rfl (hQ _ _ w9s w19 (((zFr.refl).trans (w9F.mono rfl)).put rfl) w22 w23 (zPF.fr (M' := (zsI w9M 337 (15 + 2 * w16n) w18v)) w9PF (zEq.put rfl) rfl))
  · refine zs_invS (pc := 12) (as := [.long a.toInt64, .long (0 : Int64), .long w2v.toInt64]) (st := []) t306_12 (by decide) mf228 rfl rfl ⟨by decide, by decide, Nat.le_of_ble_eq_true rfl, Nat.le_of_ble_eq_true rfl⟩ (K228F (zi2l rfl) ll0 (zi2l w2) (by omega) ?_) (fun _ _ q => q)
    show zGo X l 1 0 0 306 15 [(0, .ref 336), (1, .int a)] [.int (0 : Int32)] M _
    refine zs_iret (pc := 15) t306_15 mr306 (by decide) ?_
    show zGo X l 2 0 0 333 5 [(0, .ref 336), (1, .int a)] [.int (0 : Int32)] M _
    refine zs_if_neF (pc := 5) t333_5 li0 (by decide) ?_
    refine zs_iconst (pc := 8) t333_8 (v := -1) (by decide) ?_
    exact zs_iret (pc := 9) t333_9 mr333 (by decide) (hQ _ _ hs hI (zFr.refl) pR pC pF)
theorem K334 {X : zX} {l : Launch} {M : zM} {Q : Option Value → zM → Prop} {a : Int32} (hs : zSk zMm M) (hI : zIv mLo mHi M) (pR : zPR M) (pC : zPC M) (pF : zPF M) (hQ : ∀ (M' : zM) (v : Int32), zSk zMm M' → zIv mLo mHi M' → zFr [(336, 363, none)] M M' → zPR M' → zPC M' → zPF M' → Q (some (.int v)) M') : zCall X l 2 0 0 334 [.ref 336, .int a] M Q := by
  have ga := zrg a
  refine zs_in (by decide) mf334 (Nat.le_of_ble_eq_true rfl) ?_
  show zGo X l 2 0 0 334 0 [(0, .ref 336), (1, .int a)] [] M _
  refine zs_iload_n (pc := 0) t334_0 rfl ?_
  refine zs_i2l (pc := 1) t334_1 rfl ?_
  refine zs_ldc2_w (pc := 2) t334_2 (v := 2) (by decide) ?_
  refine zs_ldc2_w (pc := 5) t334_5 (v := 8) (by decide) ?_
  by_cases w1 : 2 ≤ a.toInt ∧ a.toInt ≤ 8
  · refine zs_invS (pc := 8) (as := [.long a.toInt64, .long (2 : Int64), .long (8 : Int64)]) (st := []) t334_8 (by decide) mf228 rfl rfl ⟨by decide, by decide, Nat.le_of_ble_eq_true rfl, Nat.le_of_ble_eq_true rfl⟩ (K228T (zi2l rfl) ll2 ll8 (by omega) ?_) (fun _ _ q => q)
    show zGo X l 2 0 0 334 11 [(0, .ref 336), (1, .int a)] [.int (1 : Int32)] M _
    refine zs_if_neT (pc := 11) t334_11 li1 (by decide) ?_
    refine zs_aload_n (pc := 16) t334_16 rfl ?_
    refine zs_iconst (pc := 17) t334_17 (v := 0) (by decide) ?_
    have w2 := ibA1 hI
    have w3 : (zI M 337 1).toInt = (zI M 337 1).toInt := (congrArg Int32.toInt rfl).trans rfl
    have w4 := ibA0 hI
    have w5 : (zI M 337 0).toInt = (zI M 337 0).toInt := (congrArg Int32.toInt rfl).trans rfl
    have w6 := ibA2 hI
    have w7 : (zI M 337 2).toInt = (zI M 337 2).toInt := (congrArg Int32.toInt rfl).trans rfl
    refine zs_invV (pc := 18) (k := 336) (as' := [.int (0 : Int32)]) (st := []) t334_18 mf230 rfl rfl (Or.inl ⟨by decide, (zk1 (hs.k fk_zMm_336))⟩) ⟨by decide, by decide, Nat.le_of_ble_eq_true rfl, Nat.le_of_ble_eq_true rfl⟩ (K230_0 hs hI pR pC ?_) (fun _ _ q => q)
    intro w8M w8s w8I w8F w8J w8PR w8PC w8PF w8t0 w8t1 w8t2
    have w9 := ibA1 w8I
    have w10 := ibA0 w8I
    have w11 := ibA2 w8I
    show zGo X l 2 0 0 334 21 [(0, .ref 336), (1, .int a)] [] w8M _
    refine zs_aload_n (pc := 21) t334_21 rfl ?_
    refine zs_get (pc := 22) t334_22 (by decide) (zk1 (w8s.k fk_zMm_336)) (w8s.p rfl fv_zMm_336_0) ?_
    refine zs_bipush (pc := 25) t334_25 (v := 8) (by decide) ?_
    have w12 := ibA8 w8I
    refine zs_iald (pc := 27) t334_27 (j := 8) (by decide) (zk1 (w8s.k fk_zMm_337)) li8 (zk2 (w8s.k fk_zMm_337) (by decide)) rfl ?_
    refine zs_istore_n (pc := 28) t334_28 (ls' := [(2, .int (zI w8M 337 8)), (0, .ref 336), (1, .int a)]) (zml mf334 (by decide)) rfl ?_
    refine zs_aload_n (pc := 29) t334_29 rfl ?_
    refine zs_get (pc := 30) t334_30 (by decide) (zk1 (w8s.k fk_zMm_336)) (w8s.p rfl fv_zMm_336_0) ?_
    refine zs_bipush (pc := 33) t334_33 (v := 8) (by decide) ?_
    refine zs_iload_n (pc := 35) t334_35 rfl ?_
    have w13 : zIv mLo mHi (zsI w8M 337 8 a) := zIv.putA w8I (by decide) (show 2 ≤ a.toInt ∧ a.toInt ≤ 8 from ⟨by omega, by omega⟩)
    have w14 : (zI w8M 337 0).toInt = (zI w8M 337 0).toInt := (congrArg Int32.toInt rfl).trans rfl
    have w15 : (zI w8M 337 1).toInt = (zI w8M 337 1).toInt := (congrArg Int32.toInt rfl).trans rfl
    have w16 : zPR (zsI w8M 337 8 a) := zPR.put w8PR (by omega) (by omega) (by omega) (by omega)
    have w17 : zPC (zsI w8M 337 8 a) := zPC.put w8PC (by decide) (by decide)
    refine zs_iast (pc := 36) t334_36 (j := 8) (by decide) (zk1 (w8s.k fk_zMm_337)) li8 (zk2 (w8s.k fk_zMm_337) (by decide)) ?_
    refine zs_iload_n (pc := 37) t334_37 rfl ?_
    exact zs_iret (pc := 38) t334_38 mr334 rfl (hQ _ _ w8s w13 (((zFr.refl).trans (w8F.mono rfl)).put rfl) w16 w17 (zPF.fr (M' := (zsI w8M 337 8 a)) w8PF (zEq.put rfl) rfl))
  · refine zs_invS (pc := 8) (as := [.long a.toInt64, .long (2 : Int64), .long (8 : Int64)]) (st := []) t334_8 (by decide) mf228 rfl rfl ⟨by decide, by decide, Nat.le_of_ble_eq_true rfl, Nat.le_of_ble_eq_true rfl⟩ (K228F (zi2l rfl) ll2 ll8 (by omega) ?_) (fun _ _ q => q)
    show zGo X l 2 0 0 334 11 [(0, .ref 336), (1, .int a)] [.int (0 : Int32)] M _
    refine zs_if_neF (pc := 11) t334_11 li0 (by decide) ?_
    refine zs_iconst (pc := 14) t334_14 (v := -1) (by decide) ?_
    exact zs_iret (pc := 15) t334_15 mr334 (by decide) (hQ _ _ hs hI (zFr.refl) pR pC pF)
theorem K335 {X : zX} {l : Launch} {M : zM} {Q : Option Value → zM → Prop} {a b : Int32} (hs : zSk zMm M) (hI : zIv mLo mHi M) (pR : zPR M) (pC : zPC M) (pF : zPF M) (hQ : ∀ (M' : zM) (v : Int32), zSk zMm M' → zIv mLo mHi M' → zFr [(336, 363, none)] M M' → zPR M' → zPC M' → zPF M' → Q (some (.int v)) M') : zCall X l 2 0 0 335 [.ref 336, .int a, .int b] M Q := by
  have ga := zrg a
  have gb := zrg b
  refine zs_in (by decide) mf335 (Nat.le_of_ble_eq_true rfl) ?_
  show zGo X l 2 0 0 335 0 [(0, .ref 336), (1, .int a), (2, .int b)] [] M _
  refine zs_aload_n (pc := 0) t335_0 rfl ?_
  refine zs_iload_n (pc := 1) t335_1 rfl ?_
  refine zs_invV (pc := 2) (k := 336) (as' := [.int a]) (st := []) t335_2 mf306 rfl rfl (Or.inl ⟨by decide, (zk1 (hs.k fk_zMm_336))⟩) ⟨by decide, by decide, Nat.le_of_ble_eq_true rfl, Nat.le_of_ble_eq_true rfl⟩ (zs_in (by decide) mf306 (Nat.le_of_ble_eq_true rfl) ?_) (fun _ _ q => q)
  show zGo X l 1 0 0 306 0 [(0, .ref 336), (1, .int a)] [] M _
  refine zs_iload_n (pc := 0) t306_0 rfl ?_
  refine zs_i2l (pc := 1) t306_1 rfl ?_
  refine zs_lconst (pc := 2) t306_2 (v := 0) (by decide) ?_
  refine zs_aload_n (pc := 3) t306_3 rfl ?_
  refine zs_get (pc := 4) t306_4 (by decide) (zk1 (hs.k fk_zMm_336)) (hs.p rfl fv_zMm_336_0) ?_
  refine zs_iconst (pc := 7) t306_7 (v := 0) (by decide) ?_
  have w1 := ibA0 hI
  refine zs_iald (pc := 8) t306_8 (j := 0) (by decide) (zk1 (hs.k fk_zMm_337)) li0 (zk2 (hs.k fk_zMm_337) (by decide)) rfl ?_
  refine zs_iconst (pc := 9) t306_9 (v := 1) (by decide) ?_
  obtain ⟨w2v, w2e, w2⟩ := zisub (a := (zI M 337 0)) (b := (1 : Int32)) rfl li1 (by omega) (by omega)
  refine zs_isub (pc := 10) t306_10 (c := w2v) w2e ?_
  refine zs_i2l (pc := 11) t306_11 rfl ?_
  by_cases w3 : 0 ≤ a.toInt ∧ a.toInt ≤ ((zI M 337 0).toInt - 1)
  · refine zs_invS (pc := 12) (as := [.long a.toInt64, .long (0 : Int64), .long w2v.toInt64]) (st := []) t306_12 (by decide) mf228 rfl rfl ⟨by decide, by decide, Nat.le_of_ble_eq_true rfl, Nat.le_of_ble_eq_true rfl⟩ (K228T (zi2l rfl) ll0 (zi2l w2) (by omega) ?_) (fun _ _ q => q)
    show zGo X l 1 0 0 306 15 [(0, .ref 336), (1, .int a)] [.int (1 : Int32)] M _
    refine zs_iret (pc := 15) t306_15 mr306 (by decide) ?_
    show zGo X l 2 0 0 335 5 [(0, .ref 336), (1, .int a), (2, .int b)] [.int (1 : Int32)] M _
    refine zs_if_eqF (pc := 5) t335_5 li1 (by decide) ?_
    refine zs_iload_n (pc := 8) t335_8 rfl ?_
    refine zs_i2l (pc := 9) t335_9 rfl ?_
    refine zs_ldc2_w (pc := 10) t335_10 (v := -999) (by decide) ?_
    refine zs_ldc2_w (pc := 13) t335_13 (v := 999) (by decide) ?_
    by_cases w4 : (-999) ≤ b.toInt ∧ b.toInt ≤ 999
    · refine zs_invS (pc := 16) (as := [.long b.toInt64, .long (-999 : Int64), .long (999 : Int64)]) (st := []) t335_16 (by decide) mf228 rfl rfl ⟨by decide, by decide, Nat.le_of_ble_eq_true rfl, Nat.le_of_ble_eq_true rfl⟩ (K228T (zi2l rfl) lln999 ll999 (by omega) ?_) (fun _ _ q => q)
      show zGo X l 2 0 0 335 19 [(0, .ref 336), (1, .int a), (2, .int b)] [.int (1 : Int32)] M _
      refine zs_if_neT (pc := 19) t335_19 li1 (by decide) ?_
      refine zs_aload_n (pc := 24) t335_24 rfl ?_
      refine zs_iconst (pc := 25) t335_25 (v := 0) (by decide) ?_
      have w5 := ibA1 hI
      have w6 : (zI M 337 1).toInt = (zI M 337 1).toInt := (congrArg Int32.toInt rfl).trans rfl
      have w7 : (zI M 337 0).toInt = (zI M 337 0).toInt := (congrArg Int32.toInt rfl).trans rfl
      have w8 := ibA2 hI
      have w9 : (zI M 337 2).toInt = (zI M 337 2).toInt := (congrArg Int32.toInt rfl).trans rfl
      refine zs_invV (pc := 26) (k := 336) (as' := [.int (0 : Int32)]) (st := []) t335_26 mf230 rfl rfl (Or.inl ⟨by decide, (zk1 (hs.k fk_zMm_336))⟩) ⟨by decide, by decide, Nat.le_of_ble_eq_true rfl, Nat.le_of_ble_eq_true rfl⟩ (K230_0 hs hI pR pC ?_) (fun _ _ q => q)
      intro w10M w10s w10I w10F w10J w10PR w10PC w10PF w10t0 w10t1 w10t2
      have w11 := ibA1 w10I
      have w12 := ibA0 w10I
      have w13 := ibA2 w10I
      show zGo X l 2 0 0 335 29 [(0, .ref 336), (1, .int a), (2, .int b)] [] w10M _
      refine zs_iconst (pc := 29) t335_29 (v := 0) (by decide) ?_
      refine zs_istore_n (pc := 30) t335_30 (ls' := [(3, .int (0 : Int32)), (0, .ref 336), (1, .int a), (2, .int b)]) (zml mf335 (by decide)) rfl ?_
      refine zs_iconst (pc := 31) t335_31 (v := 0) (by decide) ?_
      refine zs_istore (pc := 32) t335_32 (ls' := [(4, .int (0 : Int32)), (3, .int (0 : Int32)), (0, .ref 336), (1, .int a), (2, .int b)]) (zml mf335 (by decide)) rfl ?_
      have w14L : ∀ (m : Nat) (w14x3 : Int32) (w14x4 : Int32) (w14M : zM), (0 ≤ w14x4.toInt ∧ w14x4.toInt ≤ 60) → zSk zMm w14M → zIv mLo mHi w14M → zFr [(337, 337, none)] w10M w14M → zJ w14M 351 = zJ w10M 351 → zPR w14M → zPC w14M → ((zI w14M 337 1).toInt = (zI w10M 337 1).toInt) → 60 - w14x4.toInt ≤ (m : Int) → zGo X l 2 0 0 335 34 [(0, .ref 336), (1, .int a), (2, .int b), (3, .int w14x3), (4, .int w14x4)] [] w14M Q := by
        intro m
        induction m using Nat.strongRecOn with
        | ind w14m w14ih =>
          intro w14x3 w14x4 w14M w14b4 w14s w14I w14F w14J w14PR w14PC w14r0 w14q
          have w14g3 := zrg w14x3
          have w15 := ibA1 w14I
          have w16 : (zI w10M 337 1).toInt = (zI w10M 337 1).toInt := (congrArg Int32.toInt rfl).trans rfl
          refine zs_iload (pc := 34) t335_34 rfl ?_
          refine zs_aload_n (pc := 36) t335_36 rfl ?_
          refine zs_get (pc := 37) t335_37 (by decide) (zk1 (w14s.k fk_zMm_336)) (w14s.p rfl fv_zMm_336_0) ?_
          refine zs_iconst (pc := 40) t335_40 (v := 1) (by decide) ?_
          refine zs_iald (pc := 41) t335_41 (j := 1) (by decide) (zk1 (w14s.k fk_zMm_337)) li1 (zk2 (w14s.k fk_zMm_337) (by decide)) rfl ?_
          by_cases w17 : (zI w14M 337 1).toInt ≤ w14x4.toInt
          · refine zs_icmp_geT (pc := 42) t335_42 rfl rfl (by omega) ?_
            refine zs_iload_n (pc := 108) t335_108 rfl ?_
            exact zs_iret (pc := 109) t335_109 mr335 rfl (hQ _ _ w14s w14I (((zFr.refl).trans (w10F.mono rfl)).trans (w14F.mono rfl)) w14PR w14PC (zPF.fr w10PF (w14F.eq rfl) w14J))
          · refine zs_icmp_geF (pc := 42) t335_42 rfl rfl (by omega) ?_
            refine zs_aload_n (pc := 45) t335_45 rfl ?_
            refine zs_iload (pc := 46) t335_46 rfl ?_
            refine zs_iconst (pc := 48) t335_48 (v := 0) (by decide) ?_
            refine zs_invV (pc := 49) (k := 336) (as' := [.int w14x4, .int (0 : Int32)]) (st := []) t335_49 mf272 rfl rfl (Or.inl ⟨by decide, (zk1 (w14s.k fk_zMm_336))⟩) ⟨by decide, by decide, Nat.le_of_ble_eq_true rfl, Nat.le_of_ble_eq_true rfl⟩ (zs_in (by decide) mf272 (Nat.le_of_ble_eq_true rfl) ?_) (fun _ _ q => q)
            show zGo X l 0 0 0 272 0 [(0, .ref 336), (1, .int w14x4), (2, .int (0 : Int32))] [] w14M _
            refine zs_aload_n (pc := 0) t272_0 rfl ?_
            refine zs_get (pc := 1) t272_1 (by decide) (zk1 (w14s.k fk_zMm_336)) (w14s.p rfl fv_zMm_336_0) ?_
            refine zs_bipush (pc := 4) t272_4 (v := 30) (by decide) ?_
            refine zs_iconst (pc := 6) t272_6 (v := 4) (by decide) ?_
            refine zs_iload_n (pc := 7) t272_7 rfl ?_
            obtain ⟨w18v, w18⟩ : ∃ v, (4 : Int32) * w14x4 = v := ⟨_, rfl⟩
            have w18g : w18v.toInt = 4 * w14x4.toInt := by rw [← w18]; exact zmulc li4 rfl (by omega) (by omega)
            refine zs_imul (pc := 8) t272_8 (c := w18v) w18 ?_
            obtain ⟨w19v, w19e, w19⟩ := ziadd (a := (30 : Int32)) (b := w18v) li30 w18g (by omega) (by omega)
            refine zs_iadd (pc := 9) t272_9 (c := w19v) w19e ?_
            refine zs_iload_n (pc := 10) t272_10 rfl ?_
            obtain ⟨w20v, w20e, w20⟩ := ziadd (a := w19v) (b := (0 : Int32)) w19 li0 (by omega) (by omega)
            refine zs_iadd (pc := 11) t272_11 (c := w20v) w20e ?_
            obtain ⟨w21n, w21⟩ : ∃ n : Nat, w14x4.toInt = (n : Int) := ⟨(w14x4.toInt).toNat, by omega⟩
            have w22 := ibL (j := (30 + 4 * w21n)) w14I (by omega) (by omega) (by omega)
            refine zs_iald (pc := 12) t272_12 (j := (30 + 4 * w21n)) (by decide) (zk1 (w14s.k fk_zMm_337)) (show w20v.toInt = (((30 + 4 * w21n) : Nat) : Int) by omega) (zk2 (w14s.k fk_zMm_337) (by omega)) rfl ?_
            refine zs_iret (pc := 13) t272_13 mr272 rfl ?_
            show zGo X l 2 0 0 335 52 [(0, .ref 336), (1, .int a), (2, .int b), (3, .int w14x3), (4, .int w14x4)] [.int (zI w14M 337 (30 + 4 * w21n))] w14M _
            refine zs_iload_n (pc := 52) t335_52 rfl ?_
            by_cases w23 : (zI w14M 337 (30 + 4 * w21n)).toInt ≠ a.toInt
            · refine zs_icmp_neT (pc := 53) t335_53 rfl rfl (by omega) ?_
              obtain ⟨w24v, w24e, w24⟩ := ziadd (a := w14x4) (b := Int32.ofInt 1) rfl (show (Int32.ofInt 1).toInt = 1 by decide) (by omega) (by omega)
              refine zs_iinc (pc := 102) t335_102 (ls' := [(4, .int w24v), (0, .ref 336), (1, .int a), (2, .int b), (3, .int w14x3)]) (zml mf335 (by decide)) rfl (c := w24v) w24e rfl ?_
              refine zs_goto (pc := 105) t335_105 ?_
              refine zGo.locals (ls' := [(0, .ref 336), (1, .int a), (2, .int b), (3, .int w14x3), (4, .int w24v)]) (by simp) ?_
              have w25 := w24
              have w26 : (zI w14M 337 1).toInt = (zI w14M 337 1).toInt := (congrArg Int32.toInt rfl).trans rfl
              exact w14ih (w14m - 1) (by omega) w14x3 w24v w14M ⟨by omega, by omega⟩ w14s w14I ((zFr.refl).trans (w14F.mono rfl)) w14J w14PR w14PC (by omega) (by omega)
            · refine zs_icmp_neF (pc := 53) t335_53 rfl rfl (by omega) ?_
              refine zs_aload_n (pc := 56) t335_56 rfl ?_
              refine zs_iload (pc := 57) t335_57 rfl ?_
              refine zs_iconst (pc := 59) t335_59 (v := 1) (by decide) ?_
              refine zs_invV (pc := 60) (k := 336) (as' := [.int w14x4, .int (1 : Int32)]) (st := []) t335_60 mf272 rfl rfl (Or.inl ⟨by decide, (zk1 (w14s.k fk_zMm_336))⟩) ⟨by decide, by decide, Nat.le_of_ble_eq_true rfl, Nat.le_of_ble_eq_true rfl⟩ (zs_in (by decide) mf272 (Nat.le_of_ble_eq_true rfl) ?_) (fun _ _ q => q)
              show zGo X l 0 0 0 272 0 [(0, .ref 336), (1, .int w14x4), (2, .int (1 : Int32))] [] w14M _
              refine zs_aload_n (pc := 0) t272_0 rfl ?_
              refine zs_get (pc := 1) t272_1 (by decide) (zk1 (w14s.k fk_zMm_336)) (w14s.p rfl fv_zMm_336_0) ?_
              refine zs_bipush (pc := 4) t272_4 (v := 30) (by decide) ?_
              refine zs_iconst (pc := 6) t272_6 (v := 4) (by decide) ?_
              refine zs_iload_n (pc := 7) t272_7 rfl ?_
              obtain ⟨w27v, w27⟩ : ∃ v, (4 : Int32) * w14x4 = v := ⟨_, rfl⟩
              have w27g : w27v.toInt = 4 * w14x4.toInt := by rw [← w27]; exact zmulc li4 rfl (by omega) (by omega)
              refine zs_imul (pc := 8) t272_8 (c := w27v) w27 ?_
              obtain ⟨w28v, w28e, w28⟩ := ziadd (a := (30 : Int32)) (b := w27v) li30 w27g (by omega) (by omega)
              refine zs_iadd (pc := 9) t272_9 (c := w28v) w28e ?_
              refine zs_iload_n (pc := 10) t272_10 rfl ?_
              obtain ⟨w29v, w29e, w29⟩ := ziadd (a := w28v) (b := (1 : Int32)) w28 li1 (by omega) (by omega)
              refine zs_iadd (pc := 11) t272_11 (c := w29v) w29e ?_
              have w30 := zrg (zI w14M 337 (31 + 4 * w21n))
              refine zs_iald (pc := 12) t272_12 (j := (31 + 4 * w21n)) (by decide) (zk1 (w14s.k fk_zMm_337)) (show w29v.toInt = (((31 + 4 * w21n) : Nat) : Int) by omega) (zk2 (w14s.k fk_zMm_337) (by omega)) rfl ?_
              refine zs_iret (pc := 13) t272_13 mr272 rfl ?_
              show zGo X l 2 0 0 335 63 [(0, .ref 336), (1, .int a), (2, .int b), (3, .int w14x3), (4, .int w14x4)] [.int (zI w14M 337 (31 + 4 * w21n))] w14M _
              refine zs_iload_n (pc := 63) t335_63 rfl ?_
              obtain ⟨w31v, w31⟩ : ∃ v, v = (zI w14M 337 (31 + 4 * w21n)) + b := ⟨_, rfl⟩
              have w31g := zrg w31v
              refine zs_iadd (pc := 64) t335_64 (c := w31v) w31.symm ?_
              refine zs_i2l (pc := 65) t335_65 rfl ?_
              refine zs_ldc2_w (pc := 66) t335_66 (v := -9999) (by decide) ?_
              refine zs_ldc2_w (pc := 69) t335_69 (v := 9999) (by decide) ?_
              by_cases w32 : (-9999) ≤ w31v.toInt ∧ w31v.toInt ≤ 9999
              · refine zs_invS (pc := 72) (as := [.long w31v.toInt64, .long (-9999 : Int64), .long (9999 : Int64)]) (st := []) t335_72 (by decide) mf228 rfl rfl ⟨by decide, by decide, Nat.le_of_ble_eq_true rfl, Nat.le_of_ble_eq_true rfl⟩ (K228T (zi2l rfl) lln9999 ll9999 (by omega) ?_) (fun _ _ q => q)
                show zGo X l 2 0 0 335 75 [(0, .ref 336), (1, .int a), (2, .int b), (3, .int w14x3), (4, .int w14x4)] [.int (1 : Int32)] w14M _
                refine zs_if_neT (pc := 75) t335_75 li1 (by decide) ?_
                refine zs_aload_n (pc := 81) t335_81 rfl ?_
                refine zs_get (pc := 82) t335_82 (by decide) (zk1 (w14s.k fk_zMm_336)) (w14s.p rfl fv_zMm_336_0) ?_
                refine zs_bipush (pc := 85) t335_85 (v := 30) (by decide) ?_
                refine zs_iconst (pc := 87) t335_87 (v := 4) (by decide) ?_
                refine zs_iload (pc := 88) t335_88 rfl ?_
                obtain ⟨w33v, w33⟩ : ∃ v, (4 : Int32) * w14x4 = v := ⟨_, rfl⟩
                have w33g : w33v.toInt = 4 * w14x4.toInt := by rw [← w33]; exact zmulc li4 rfl (by omega) (by omega)
                refine zs_imul (pc := 90) t335_90 (c := w33v) w33 ?_
                obtain ⟨w34v, w34e, w34⟩ := ziadd (a := (30 : Int32)) (b := w33v) li30 w33g (by omega) (by omega)
                refine zs_iadd (pc := 91) t335_91 (c := w34v) w34e ?_
                refine zs_iconst (pc := 92) t335_92 (v := 1) (by decide) ?_
                obtain ⟨w35v, w35e, w35⟩ := ziadd (a := w34v) (b := (1 : Int32)) w34 li1 (by omega) (by omega)
                refine zs_iadd (pc := 93) t335_93 (c := w35v) w35e ?_
                refine zs_dup2 (pc := 94) t335_94 ⟨rfl, rfl⟩ ?_
                refine zs_iald (pc := 95) t335_95 (j := (31 + 4 * w21n)) (by decide) (zk1 (w14s.k fk_zMm_337)) (show w35v.toInt = (((31 + 4 * w21n) : Nat) : Int) by omega) (zk2 (w14s.k fk_zMm_337) (by omega)) rfl ?_
                refine zs_iload_n (pc := 96) t335_96 rfl ?_
                obtain ⟨w36v, w36⟩ : ∃ v, v = (zI w14M 337 (31 + 4 * w21n)) + b := ⟨_, rfl⟩
                have w36g := zrg w36v
                refine zs_iadd (pc := 97) t335_97 (c := w36v) w36.symm ?_
                have w37a := aN (p := (31 + 4 * w21n)) (by omega)
                have w37 : zIv mLo mHi (zsI w14M 337 (31 + 4 * w21n) w36v) := zIv.putA w14I (by omega) (by rw [w37a.1, w37a.2]; exact zrg w36v)
                have w38 := ibA0 w14I
                have w39 : (zI w14M 337 0).toInt = (zI w14M 337 0).toInt := (congrArg Int32.toInt rfl).trans rfl
                have w40 : (zI w14M 337 1).toInt = (zI w14M 337 1).toInt := (congrArg Int32.toInt rfl).trans rfl
                have w41 : zPR (zsI w14M 337 (31 + 4 * w21n) w36v) := zPR.put w14PR (by omega) (by omega) (by omega) (by omega)
                have w42 : zPC (zsI w14M 337 (31 + 4 * w21n) w36v) := zPC.put w14PC (by omega) (by omega)
                refine zs_iast (pc := 98) t335_98 (j := (31 + 4 * w21n)) (by decide) (zk1 (w14s.k fk_zMm_337)) (show w35v.toInt = (((31 + 4 * w21n) : Nat) : Int) by omega) (zk2 (w14s.k fk_zMm_337) (by omega)) ?_
                obtain ⟨w43v, w43e⟩ : ∃ v, w14x3 + Int32.ofInt 1 = v := ⟨_, rfl⟩
                have w43 := zrg w43v
                refine zs_iinc (pc := 99) t335_99 (ls' := [(3, .int w43v), (0, .ref 336), (1, .int a), (2, .int b), (4, .int w14x4)]) (zml mf335 (by decide)) rfl (c := w43v) w43e rfl ?_
                obtain ⟨w44v, w44e, w44⟩ := ziadd (a := w14x4) (b := Int32.ofInt 1) rfl (show (Int32.ofInt 1).toInt = 1 by decide) (by omega) (by omega)
                refine zs_iinc (pc := 102) t335_102 (ls' := [(4, .int w44v), (3, .int w43v), (0, .ref 336), (1, .int a), (2, .int b)]) (zml mf335 (by decide)) rfl (c := w44v) w44e rfl ?_
                refine zs_goto (pc := 105) t335_105 ?_
                refine zGo.locals (ls' := [(0, .ref 336), (1, .int a), (2, .int b), (3, .int w43v), (4, .int w44v)]) (by simp) ?_
                have w45 := w44
                have w46 : (zI (zsI w14M 337 (31 + 4 * w21n) w36v) 337 1).toInt = (zI w14M 337 1).toInt := (congrArg Int32.toInt ((zIoj (by omega)).trans rfl)).trans rfl
                exact w14ih (w14m - 1) (by omega) w43v w44v (zsI w14M 337 (31 + 4 * w21n) w36v) ⟨by omega, by omega⟩ w14s w37 (((zFr.refl).trans (w14F.mono rfl)).put rfl) w14J w41 w42 (by omega) (by omega)
              · refine zs_invS (pc := 72) (as := [.long w31v.toInt64, .long (-9999 : Int64), .long (9999 : Int64)]) (st := []) t335_72 (by decide) mf228 rfl rfl ⟨by decide, by decide, Nat.le_of_ble_eq_true rfl, Nat.le_of_ble_eq_true rfl⟩ (K228F (zi2l rfl) lln9999 ll9999 (by omega) ?_) (fun _ _ q => q)
                show zGo X l 2 0 0 335 75 [(0, .ref 336), (1, .int a), (2, .int b), (3, .int w14x3), (4, .int w14x4)] [.int (0 : Int32)] w14M _
                refine zs_if_neF (pc := 75) t335_75 li0 (by decide) ?_
                refine zs_goto (pc := 78) t335_78 ?_
                obtain ⟨w47v, w47e, w47⟩ := ziadd (a := w14x4) (b := Int32.ofInt 1) rfl (show (Int32.ofInt 1).toInt = 1 by decide) (by omega) (by omega)
                refine zs_iinc (pc := 102) t335_102 (ls' := [(4, .int w47v), (0, .ref 336), (1, .int a), (2, .int b), (3, .int w14x3)]) (zml mf335 (by decide)) rfl (c := w47v) w47e rfl ?_
                refine zs_goto (pc := 105) t335_105 ?_
                refine zGo.locals (ls' := [(0, .ref 336), (1, .int a), (2, .int b), (3, .int w14x3), (4, .int w47v)]) (by simp) ?_
                have w48 := w47
                have w49 : (zI w14M 337 1).toInt = (zI w14M 337 1).toInt := (congrArg Int32.toInt rfl).trans rfl
                exact w14ih (w14m - 1) (by omega) w14x3 w47v w14M ⟨by omega, by omega⟩ w14s w14I ((zFr.refl).trans (w14F.mono rfl)) w14J w14PR w14PC (by omega) (by omega)
      refine zGo.locals (ls' := [(0, .ref 336), (1, .int a), (2, .int b), (3, .int (0 : Int32)), (4, .int (0 : Int32))]) (by simp) ?_
      have w50 := li0
      have w51 := li0
      have w52 : (zI w10M 337 1).toInt = (zI w10M 337 1).toInt := (congrArg Int32.toInt rfl).trans rfl
      exact w14L ((60 - 0 : Int).toNat) (0 : Int32) (0 : Int32) w10M ⟨by decide, by decide⟩ w10s w10I zFr.refl rfl w10PR w10PC (by omega) (by omega)
    · refine zs_invS (pc := 16) (as := [.long b.toInt64, .long (-999 : Int64), .long (999 : Int64)]) (st := []) t335_16 (by decide) mf228 rfl rfl ⟨by decide, by decide, Nat.le_of_ble_eq_true rfl, Nat.le_of_ble_eq_true rfl⟩ (K228F (zi2l rfl) lln999 ll999 (by omega) ?_) (fun _ _ q => q)
      show zGo X l 2 0 0 335 19 [(0, .ref 336), (1, .int a), (2, .int b)] [.int (0 : Int32)] M _
      refine zs_if_neF (pc := 19) t335_19 li0 (by decide) ?_
      refine zs_iconst (pc := 22) t335_22 (v := -1) (by decide) ?_
      exact zs_iret (pc := 23) t335_23 mr335 (by decide) (hQ _ _ hs hI (zFr.refl) pR pC pF)
  · refine zs_invS (pc := 12) (as := [.long a.toInt64, .long (0 : Int64), .long w2v.toInt64]) (st := []) t306_12 (by decide) mf228 rfl rfl ⟨by decide, by decide, Nat.le_of_ble_eq_true rfl, Nat.le_of_ble_eq_true rfl⟩ (K228F (zi2l rfl) ll0 (zi2l w2) (by omega) ?_) (fun _ _ q => q)
    show zGo X l 1 0 0 306 15 [(0, .ref 336), (1, .int a)] [.int (0 : Int32)] M _
    refine zs_iret (pc := 15) t306_15 mr306 (by decide) ?_
    show zGo X l 2 0 0 335 5 [(0, .ref 336), (1, .int a), (2, .int b)] [.int (0 : Int32)] M _
    refine zs_if_eqT (pc := 5) t335_5 li0 (by decide) ?_
    refine zs_iconst (pc := 22) t335_22 (v := -1) (by decide) ?_
    exact zs_iret (pc := 23) t335_23 mr335 (by decide) (hQ _ _ hs hI (zFr.refl) pR pC pF)
