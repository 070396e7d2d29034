theorem K346 {X : zX} {l : Launch} {M : zM} {Q : Option Value → zM → Prop} (hs : zSk zMm M) (hI : zIv mLo mHi M) (pR : zPR M) (pC : zPC M) (pF : zPF M) (hQ : ∀ (M' : zM) (v : Int32), zSk zMm M' → zIv mLo mHi M' → zFr [(336, 363, none)] M M' → zPR M' → zPC M' → zPF M' → Q (some (.int v)) M') : zCall X l 2 0 0 346 [.ref 336] M Q := by
  refine zs_in (by decide) mf346 (Nat.le_of_ble_eq_true rfl) ?_
  show zGo X l 2 0 0 346 0 [(0, .ref 336)] [] M _
  refine zs_aload_n (pc := 0) t346_0 rfl ?_
  refine zs_iconst (pc := 1) t346_1 (v := 0) (by decide) ?_
  have w1 : zIv mLo mHi (zsI M 336 50 (0 : Int32)) := zIv.put hI (show 0 ≤ (0 : Int32).toInt ∧ (0 : Int32).toInt ≤ 150 from ⟨by decide, by decide⟩)
  refine zs_putI (pc := 2) t346_2 (zk1 (hs.k fk_zMm_336)) rfl ?_
  refine zs_iconst (pc := 5) t346_5 (v := 0) (by decide) ?_
  refine zs_istore_n (pc := 6) t346_6 (ls' := [(1, .int (0 : Int32)), (0, .ref 336)]) (zml mf346 (by decide)) rfl ?_
  have w2L : ∀ (m : Nat) (w2x1 : Int32) (w2M : zM), (0 ≤ w2x1.toInt ∧ w2x1.toInt ≤ 8) → zSk zMm w2M → zIv mLo mHi w2M → zFr [(363, 363, none), (336, 336, some 50)] (zsI M 336 50 (0 : Int32)) w2M → zJ w2M 351 = zJ (zsI M 336 50 (0 : Int32)) 351 → ((zI w2M 336 50).toInt ≤ 6 * w2x1.toInt) → 8 - w2x1.toInt ≤ (m : Int) → zGo X l 2 0 0 346 7 [(0, .ref 336), (1, .int w2x1)] [] w2M Q := by
    intro m
    induction m using Nat.strongRecOn with
    | ind w2m w2ih =>
      intro w2x1 w2M w2b1 w2s w2I w2F w2J w2r0 w2q
      have w3 := ib336_50 w2I
      refine zs_iload_n (pc := 7) t346_7 rfl ?_
      refine zs_aload_n (pc := 8) t346_8 rfl ?_
      refine zs_get (pc := 9) t346_9 (by decide) (zk1 (w2s.k fk_zMm_336)) (w2s.p rfl fv_zMm_336_0) ?_
      refine zs_iconst (pc := 12) t346_12 (v := 0) (by decide) ?_
      have w4 := ibA0 hI
      refine zs_iald (pc := 13) t346_13 (j := 0) (by decide) (zk1 (w2s.k fk_zMm_337)) li0 (zk2 (w2s.k fk_zMm_337) (by decide)) ((w2F 337 0 rfl).trans ((zIo (by decide)).trans rfl)) ?_
      by_cases w5 : (zI M 337 0).toInt ≤ w2x1.toInt
      · refine zs_icmp_geT (pc := 14) t346_14 rfl rfl (by omega) ?_
        refine zs_aload_n (pc := 40) t346_40 rfl ?_
        refine zs_bipush (pc := 41) t346_41 (v := 115) (by decide) ?_
        have w6 : (115 : Int32).toInt = 115 := li115
        have w7 : (zI w2M 336 50).toInt = (zI w2M 336 50).toInt := (congrArg Int32.toInt rfl).trans rfl
        have w8 : (zI w2M 336 50).toInt = (zI w2M 336 50).toInt := (congrArg Int32.toInt rfl).trans rfl
        refine zs_invV (pc := 43) (k := 336) (as' := [.int (115 : Int32)]) (st := []) t346_43 mf347 rfl rfl (Or.inl ⟨by decide, (zk1 (w2s.k fk_zMm_336))⟩) ⟨by decide, by decide, Nat.le_of_ble_eq_true rfl, Nat.le_of_ble_eq_true rfl⟩ (K347 w2s w2I (by omega) ?_) (fun _ _ q => q)
        intro w9M w9s w9I w9F w9J w9t0
        have w10 := ib336_50 w9I
        show zGo X l 2 0 0 346 46 [(0, .ref 336), (1, .int w2x1)] [] w9M _
        refine zs_iconst (pc := 46) t346_46 (v := 5) (by decide) ?_
        refine zs_istore_n (pc := 47) t346_47 (ls' := [(1, .int (5 : Int32)), (0, .ref 336)]) (zml mf346 (by decide)) rfl ?_
        refine zs_iload_n (pc := 48) t346_48 rfl ?_
        refine zs_bipush (pc := 49) t346_49 (v := 8) (by decide) ?_
        refine zs_icmp_gtF (pc := 51) t346_51 li5 li8 (by decide) ?_
        refine zs_aload_n (pc := 54) t346_54 rfl ?_
        refine zs_aload_n (pc := 55) t346_55 rfl ?_
        refine zs_get (pc := 56) t346_56 (by decide) (zk1 (w9s.k fk_zMm_336)) (w9s.p rfl fv_zMm_336_0) ?_
        refine zs_iload_n (pc := 59) t346_59 rfl ?_
        have w11 := ibA5 hI
        refine zs_iald (pc := 60) t346_60 (j := 5) (by decide) (zk1 (w9s.k fk_zMm_337)) li5 (zk2 (w9s.k fk_zMm_337) (by decide)) ((w9F 337 5 rfl).trans ((w2F 337 5 rfl).trans ((zIo (by decide)).trans rfl))) ?_
        refine zs_iload_n (pc := 61) t346_61 rfl ?_
        refine zs_bipush (pc := 62) t346_62 (v := 8) (by decide) ?_
        refine zs_icmp_neT (pc := 64) t346_64 li5 li8 (by decide) ?_
        refine zs_bipush (pc := 72) t346_72 (v := 44) (by decide) ?_
        have w12 : (44 : Int32).toInt = 44 := li44
        have w13 : (zI w9M 336 50).toInt = (zI w9M 336 50).toInt := (congrArg Int32.toInt rfl).trans rfl
        have w14 : (zI w9M 336 50).toInt = (zI w9M 336 50).toInt := (congrArg Int32.toInt rfl).trans rfl
        refine zs_invV (pc := 74) (k := 336) (as' := [.int (zI M 337 5), .int (44 : Int32)]) (st := []) t346_74 mf348 rfl rfl (Or.inl ⟨by decide, (zk1 (w9s.k fk_zMm_336))⟩) ⟨by decide, by decide, Nat.le_of_ble_eq_true rfl, Nat.le_of_ble_eq_true rfl⟩ (K348 w9s w9I ⟨by omega, by omega⟩ (by omega) ?_) (fun _ _ q => q)
        intro w15M w15s w15I w15F w15J w15t0
        have w16 := ib336_50 w15I
        show zGo X l 2 0 0 346 77 [(1, .int (5 : Int32)), (0, .ref 336)] [] w15M _
        refine zs_iinc (pc := 77) t346_77 (ls' := [(1, .int (6 : Int32)), (0, .ref 336)]) (zml mf346 (by decide)) rfl (c := 6) (by decide) rfl ?_
        refine zs_goto (pc := 80) t346_80 ?_
        refine zs_iload_n (pc := 48) t346_48 rfl ?_
        refine zs_bipush (pc := 49) t346_49 (v := 8) (by decide) ?_
        refine zs_icmp_gtF (pc := 51) t346_51 li6 li8 (by decide) ?_
        refine zs_aload_n (pc := 54) t346_54 rfl ?_
        refine zs_aload_n (pc := 55) t346_55 rfl ?_
        refine zs_get (pc := 56) t346_56 (by decide) (zk1 (w15s.k fk_zMm_336)) (w15s.p rfl fv_zMm_336_0) ?_
        refine zs_iload_n (pc := 59) t346_59 rfl ?_
        have w17 := ibA6 hI
        refine zs_iald (pc := 60) t346_60 (j := 6) (by decide) (zk1 (w15s.k fk_zMm_337)) li6 (zk2 (w15s.k fk_zMm_337) (by decide)) ((w15F 337 6 rfl).trans ((w9F 337 6 rfl).trans ((w2F 337 6 rfl).trans ((zIo (by decide)).trans rfl)))) ?_
        refine zs_iload_n (pc := 61) t346_61 rfl ?_
        refine zs_bipush (pc := 62) t346_62 (v := 8) (by decide) ?_
        refine zs_icmp_neT (pc := 64) t346_64 li6 li8 (by decide) ?_
        refine zs_bipush (pc := 72) t346_72 (v := 44) (by decide) ?_
        have w18 : (44 : Int32).toInt = 44 := li44
        have w19 : (zI w15M 336 50).toInt = (zI w15M 336 50).toInt := (congrArg Int32.toInt rfl).trans rfl
        have w20 : (zI w15M 336 50).toInt = (zI w15M 336 50).toInt := (congrArg Int32.toInt rfl).trans rfl
        refine zs_invV (pc := 74) (k := 336) (as' := [.int (zI M 337 6), .int (44 : Int32)]) (st := []) t346_74 mf348 rfl rfl (Or.inl ⟨by decide, (zk1 (w15s.k fk_zMm_336))⟩) ⟨by decide, by decide, Nat.le_of_ble_eq_true rfl, Nat.le_of_ble_eq_true rfl⟩ (K348 w15s w15I ⟨by omega, by omega⟩ (by omega) ?_) (fun _ _ q => q)
        intro w21M w21s w21I w21F w21J w21t0
        have w22 := ib336_50 w21I
        show zGo X l 2 0 0 346 77 [(1, .int (6 : Int32)), (0, .ref 336)] [] w21M _
        refine zs_iinc (pc := 77) t346_77 (ls' := [(1, .int (7 : Int32)), (0, .ref 336)]) (zml mf346 (by decide)) rfl (c := 7) (by decide) rfl ?_
        refine zs_goto (pc := 80) t346_80 ?_
        refine zs_iload_n (pc := 48) t346_48 rfl ?_
        refine zs_bipush (pc := 49) t346_49 (v := 8) (by decide) ?_
        refine zs_icmp_gtF (pc := 51) t346_51 li7 li8 (by decide) ?_
        refine zs_aload_n (pc := 54) t346_54 rfl ?_
        refine zs_aload_n (pc := 55) t346_55 rfl ?_
        refine zs_get (pc := 56) t346_56 (by decide) (zk1 (w21s.k fk_zMm_336)) (w21s.p rfl fv_zMm_336_0) ?_
        refine zs_iload_n (pc := 59) t346_59 rfl ?_
        have w23 := ibA7 hI
        refine zs_iald (pc := 60) t346_60 (j := 7) (by decide) (zk1 (w21s.k fk_zMm_337)) li7 (zk2 (w21s.k fk_zMm_337) (by decide)) ((w21F 337 7 rfl).trans ((w15F 337 7 rfl).trans ((w9F 337 7 rfl).trans ((w2F 337 7 rfl).trans ((zIo (by decide)).trans rfl))))) ?_
        refine zs_iload_n (pc := 61) t346_61 rfl ?_
        refine zs_bipush (pc := 62) t346_62 (v := 8) (by decide) ?_
        refine zs_icmp_neT (pc := 64) t346_64 li7 li8 (by decide) ?_
        refine zs_bipush (pc := 72) t346_72 (v := 44) (by decide) ?_
        have w24 : (44 : Int32).toInt = 44 := li44
        have w25 : (zI w21M 336 50).toInt = (zI w21M 336 50).toInt := (congrArg Int32.toInt rfl).trans rfl
        have w26 : (zI w21M 336 50).toInt = (zI w21M 336 50).toInt := (congrArg Int32.toInt rfl).trans rfl
        refine zs_invV (pc := 74) (k := 336) (as' := [.int (zI M 337 7), .int (44 : Int32)]) (st := []) t346_74 mf348 rfl rfl (Or.inl ⟨by decide, (zk1 (w21s.k fk_zMm_336))⟩) ⟨by decide, by decide, Nat.le_of_ble_eq_true rfl, Nat.le_of_ble_eq_true rfl⟩ (K348 w21s w21I ⟨by omega, by omega⟩ (by omega) ?_) (fun _ _ q => q)
        intro w27M w27s w27I w27F w27J w27t0
        have w28 := ib336_50 w27I
        show zGo X l 2 0 0 346 77 [(1, .int (7 : Int32)), (0, .ref 336)] [] w27M _
        refine zs_iinc (pc := 77) t346_77 (ls' := [(1, .int (8 : Int32)), (0, .ref 336)]) (zml mf346 (by decide)) rfl (c := 8) (by decide) rfl ?_
        refine zs_goto (pc := 80) t346_80 ?_
        refine zs_iload_n (pc := 48) t346_48 rfl ?_
        refine zs_bipush (pc := 49) t346_49 (v := 8) (by decide) ?_
        refine zs_icmp_gtF (pc := 51) t346_51 li8 li8 (by decide) ?_
        refine zs_aload_n (pc := 54) t346_54 rfl ?_
        refine zs_aload_n (pc := 55) t346_55 rfl ?_
        refine zs_get (pc := 56) t346_56 (by decide) (zk1 (w27s.k fk_zMm_336)) (w27s.p rfl fv_zMm_336_0) ?_
        refine zs_iload_n (pc := 59) t346_59 rfl ?_
        have w29 := ibA8 hI
        refine zs_iald (pc := 60) t346_60 (j := 8) (by decide) (zk1 (w27s.k fk_zMm_337)) li8 (zk2 (w27s.k fk_zMm_337) (by decide)) ((w27F 337 8 rfl).trans ((w21F 337 8 rfl).trans ((w15F 337 8 rfl).trans ((w9F 337 8 rfl).trans ((w2F 337 8 rfl).trans ((zIo (by decide)).trans rfl)))))) ?_
        refine zs_iload_n (pc := 61) t346_61 rfl ?_
        refine zs_bipush (pc := 62) t346_62 (v := 8) (by decide) ?_
        refine zs_icmp_neF (pc := 64) t346_64 li8 li8 (by decide) ?_
        refine zs_bipush (pc := 67) t346_67 (v := 59) (by decide) ?_
        refine zs_goto (pc := 69) t346_69 ?_
        have w30 : (59 : Int32).toInt = 59 := li59
        have w31 : (zI w27M 336 50).toInt = (zI w27M 336 50).toInt := (congrArg Int32.toInt rfl).trans rfl
        have w32 : (zI w27M 336 50).toInt = (zI w27M 336 50).toInt := (congrArg Int32.toInt rfl).trans rfl
        refine zs_invV (pc := 74) (k := 336) (as' := [.int (zI M 337 8), .int (59 : Int32)]) (st := []) t346_74 mf348 rfl rfl (Or.inl ⟨by decide, (zk1 (w27s.k fk_zMm_336))⟩) ⟨by decide, by decide, Nat.le_of_ble_eq_true rfl, Nat.le_of_ble_eq_true rfl⟩ (K348 w27s w27I ⟨by omega, by omega⟩ (by omega) ?_) (fun _ _ q => q)
        intro w33M w33s w33I w33F w33J w33t0
        have w34 := ib336_50 w33I
        show zGo X l 2 0 0 346 77 [(1, .int (8 : Int32)), (0, .ref 336)] [] w33M _
        refine zs_iinc (pc := 77) t346_77 (ls' := [(1, .int (9 : Int32)), (0, .ref 336)]) (zml mf346 (by decide)) rfl (c := 9) (by decide) rfl ?_
        refine zs_goto (pc := 80) t346_80 ?_
        refine zs_iload_n (pc := 48) t346_48 rfl ?_
        refine zs_bipush (pc := 49) t346_49 (v := 8) (by decide) ?_
        refine zs_icmp_gtT (pc := 51) t346_51 li9 li8 (by decide) ?_
        refine zs_aload_n (pc := 83) t346_83 rfl ?_
        refine zs_bipush (pc := 84) t346_84 (v := 103) (by decide) ?_
        have w35 : (103 : Int32).toInt = 103 := li103
        have w36 : (zI w33M 336 50).toInt = (zI w33M 336 50).toInt := (congrArg Int32.toInt rfl).trans rfl
        have w37 : (zI w33M 336 50).toInt = (zI w33M 336 50).toInt := (congrArg Int32.toInt rfl).trans rfl
        refine zs_invV (pc := 86) (k := 336) (as' := [.int (103 : Int32)]) (st := []) t346_86 mf347 rfl rfl (Or.inl ⟨by decide, (zk1 (w33s.k fk_zMm_336))⟩) ⟨by decide, by decide, Nat.le_of_ble_eq_true rfl, Nat.le_of_ble_eq_true rfl⟩ (K347 w33s w33I (by omega) ?_) (fun _ _ q => q)
        intro w38M w38s w38I w38F w38J w38t0
        have w39 := ib336_50 w38I
        show zGo X l 2 0 0 346 89 [(1, .int (9 : Int32)), (0, .ref 336)] [] w38M _
        refine zs_aload_n (pc := 89) t346_89 rfl ?_
        refine zs_aload_n (pc := 90) t346_90 rfl ?_
        refine zs_get (pc := 91) t346_91 (by decide) (zk1 (w38s.k fk_zMm_336)) (w38s.p rfl fv_zMm_336_0) ?_
        refine zs_bipush (pc := 94) t346_94 (v := 9) (by decide) ?_
        have w40 := ibA9 hI
        refine zs_iald (pc := 96) t346_96 (j := 9) (by decide) (zk1 (w38s.k fk_zMm_337)) li9 (zk2 (w38s.k fk_zMm_337) (by decide)) ((w38F 337 9 rfl).trans ((w33F 337 9 rfl).trans ((w27F 337 9 rfl).trans ((w21F 337 9 rfl).trans ((w15F 337 9 rfl).trans ((w9F 337 9 rfl).trans ((w2F 337 9 rfl).trans ((zIo (by decide)).trans rfl)))))))) ?_
        refine zs_bipush (pc := 97) t346_97 (v := 59) (by decide) ?_
        have w41 : (59 : Int32).toInt = 59 := li59
        have w42 : (zI w38M 336 50).toInt = (zI w38M 336 50).toInt := (congrArg Int32.toInt rfl).trans rfl
        have w43 : (zI w38M 336 50).toInt = (zI w38M 336 50).toInt := (congrArg Int32.toInt rfl).trans rfl
        refine zs_invV (pc := 99) (k := 336) (as' := [.int (zI M 337 9), .int (59 : Int32)]) (st := []) t346_99 mf348 rfl rfl (Or.inl ⟨by decide, (zk1 (w38s.k fk_zMm_336))⟩) ⟨by decide, by decide, Nat.le_of_ble_eq_true rfl, Nat.le_of_ble_eq_true rfl⟩ (K348 w38s w38I ⟨by omega, by omega⟩ (by omega) ?_) (fun _ _ q => q)
        intro w44M w44s w44I w44F w44J w44t0
        have w45 := ib336_50 w44I
        show zGo X l 2 0 0 346 102 [(1, .int (9 : Int32)), (0, .ref 336)] [] w44M _
        refine zs_aload_n (pc := 102) t346_102 rfl ?_
        refine zs_bipush (pc := 103) t346_103 (v := 119) (by decide) ?_
        have w46 : (119 : Int32).toInt = 119 := li119
        have w47 : (zI w44M 336 50).toInt = (zI w44M 336 50).toInt := (congrArg Int32.toInt rfl).trans rfl
        have w48 : (zI w44M 336 50).toInt = (zI w44M 336 50).toInt := (congrArg Int32.toInt rfl).trans rfl
        refine zs_invV (pc := 105) (k := 336) (as' := [.int (119 : Int32)]) (st := []) t346_105 mf347 rfl rfl (Or.inl ⟨by decide, (zk1 (w44s.k fk_zMm_336))⟩) ⟨by decide, by decide, Nat.le_of_ble_eq_true rfl, Nat.le_of_ble_eq_true rfl⟩ (K347 w44s w44I (by omega) ?_) (fun _ _ q => q)
        intro w49M w49s w49I w49F w49J w49t0
        have w50 := ib336_50 w49I
        show zGo X l 2 0 0 346 108 [(1, .int (9 : Int32)), (0, .ref 336)] [] w49M _
        refine zs_aload_n (pc := 108) t346_108 rfl ?_
        refine zs_aload_n (pc := 109) t346_109 rfl ?_
        refine zs_get (pc := 110) t346_110 (by decide) (zk1 (w49s.k fk_zMm_336)) (w49s.p rfl fv_zMm_336_0) ?_
        refine zs_bipush (pc := 113) t346_113 (v := 10) (by decide) ?_
        have w51 := ibA10 hI
        refine zs_iald (pc := 115) t346_115 (j := 10) (by decide) (zk1 (w49s.k fk_zMm_337)) li10 (zk2 (w49s.k fk_zMm_337) (by decide)) ((w49F 337 10 rfl).trans ((w44F 337 10 rfl).trans ((w38F 337 10 rfl).trans ((w33F 337 10 rfl).trans ((w27F 337 10 rfl).trans ((w21F 337 10 rfl).trans ((w15F 337 10 rfl).trans ((w9F 337 10 rfl).trans ((w2F 337 10 rfl).trans ((zIo (by decide)).trans rfl)))))))))) ?_
        refine zs_bipush (pc := 116) t346_116 (v := 44) (by decide) ?_
        have w52 : (44 : Int32).toInt = 44 := li44
        have w53 : (zI w49M 336 50).toInt = (zI w49M 336 50).toInt := (congrArg Int32.toInt rfl).trans rfl
        have w54 : (zI w49M 336 50).toInt = (zI w49M 336 50).toInt := (congrArg Int32.toInt rfl).trans rfl
        refine zs_invV (pc := 118) (k := 336) (as' := [.int (zI M 337 10), .int (44 : Int32)]) (st := []) t346_118 mf348 rfl rfl (Or.inl ⟨by decide, (zk1 (w49s.k fk_zMm_336))⟩) ⟨by decide, by decide, Nat.le_of_ble_eq_true rfl, Nat.le_of_ble_eq_true rfl⟩ (K348 w49s w49I ⟨by omega, by omega⟩ (by omega) ?_) (fun _ _ q => q)
        intro w55M w55s w55I w55F w55J w55t0
        have w56 := ib336_50 w55I
        show zGo X l 2 0 0 346 121 [(1, .int (9 : Int32)), (0, .ref 336)] [] w55M _
        refine zs_aload_n (pc := 121) t346_121 rfl ?_
        refine zs_aload_n (pc := 122) t346_122 rfl ?_
        refine zs_get (pc := 123) t346_123 (by decide) (zk1 (w55s.k fk_zMm_336)) (w55s.p rfl fv_zMm_336_0) ?_
        refine zs_bipush (pc := 126) t346_126 (v := 11) (by decide) ?_
        have w57 := ibA11 hI
        refine zs_iald (pc := 128) t346_128 (j := 11) (by decide) (zk1 (w55s.k fk_zMm_337)) li11 (zk2 (w55s.k fk_zMm_337) (by decide)) ((w55F 337 11 rfl).trans ((w49F 337 11 rfl).trans ((w44F 337 11 rfl).trans ((w38F 337 11 rfl).trans ((w33F 337 11 rfl).trans ((w27F 337 11 rfl).trans ((w21F 337 11 rfl).trans ((w15F 337 11 rfl).trans ((w9F 337 11 rfl).trans ((w2F 337 11 rfl).trans ((zIo (by decide)).trans rfl))))))))))) ?_
        refine zs_bipush (pc := 129) t346_129 (v := 59) (by decide) ?_
        have w58 : (59 : Int32).toInt = 59 := li59
        have w59 : (zI w55M 336 50).toInt = (zI w55M 336 50).toInt := (congrArg Int32.toInt rfl).trans rfl
        have w60 : (zI w55M 336 50).toInt = (zI w55M 336 50).toInt := (congrArg Int32.toInt rfl).trans rfl
        refine zs_invV (pc := 131) (k := 336) (as' := [.int (zI M 337 11), .int (59 : Int32)]) (st := []) t346_131 mf348 rfl rfl (Or.inl ⟨by decide, (zk1 (w55s.k fk_zMm_336))⟩) ⟨by decide, by decide, Nat.le_of_ble_eq_true rfl, Nat.le_of_ble_eq_true rfl⟩ (K348 w55s w55I ⟨by omega, by omega⟩ (by omega) ?_) (fun _ _ q => q)
        intro w61M w61s w61I w61F w61J w61t0
        have w62 := ib336_50 w61I
        show zGo X l 2 0 0 346 134 [(1, .int (9 : Int32)), (0, .ref 336)] [] w61M _
        refine zs_aload_n (pc := 134) t346_134 rfl ?_
        refine zs_bipush (pc := 135) t346_135 (v := 113) (by decide) ?_
        have w63 : (113 : Int32).toInt = 113 := li113
        have w64 : (zI w61M 336 50).toInt = (zI w61M 336 50).toInt := (congrArg Int32.toInt rfl).trans rfl
        have w65 : (zI w61M 336 50).toInt = (zI w61M 336 50).toInt := (congrArg Int32.toInt rfl).trans rfl
        refine zs_invV (pc := 137) (k := 336) (as' := [.int (113 : Int32)]) (st := []) t346_137 mf347 rfl rfl (Or.inl ⟨by decide, (zk1 (w61s.k fk_zMm_336))⟩) ⟨by decide, by decide, Nat.le_of_ble_eq_true rfl, Nat.le_of_ble_eq_true rfl⟩ (K347 w61s w61I (by omega) ?_) (fun _ _ q => q)
        intro w66M w66s w66I w66F w66J w66t0
        have w67 := ib336_50 w66I
        show zGo X l 2 0 0 346 140 [(1, .int (9 : Int32)), (0, .ref 336)] [] w66M _
        refine zs_aload_n (pc := 140) t346_140 rfl ?_
        refine zs_aload_n (pc := 141) t346_141 rfl ?_
        refine zs_get (pc := 142) t346_142 (by decide) (zk1 (w66s.k fk_zMm_336)) (w66s.p rfl fv_zMm_336_0) ?_
        refine zs_bipush (pc := 145) t346_145 (v := 12) (by decide) ?_
        have w68 := ibA12 hI
        refine zs_iald (pc := 147) t346_147 (j := 12) (by decide) (zk1 (w66s.k fk_zMm_337)) li12 (zk2 (w66s.k fk_zMm_337) (by decide)) ((w66F 337 12 rfl).trans ((w61F 337 12 rfl).trans ((w55F 337 12 rfl).trans ((w49F 337 12 rfl).trans ((w44F 337 12 rfl).trans ((w38F 337 12 rfl).trans ((w33F 337 12 rfl).trans ((w27F 337 12 rfl).trans ((w21F 337 12 rfl).trans ((w15F 337 12 rfl).trans ((w9F 337 12 rfl).trans ((w2F 337 12 rfl).trans ((zIo (by decide)).trans rfl))))))))))))) ?_
        refine zs_bipush (pc := 148) t346_148 (v := 44) (by decide) ?_
        have w69 : (44 : Int32).toInt = 44 := li44
        have w70 : (zI w66M 336 50).toInt = (zI w66M 336 50).toInt := (congrArg Int32.toInt rfl).trans rfl
        have w71 : (zI w66M 336 50).toInt = (zI w66M 336 50).toInt := (congrArg Int32.toInt rfl).trans rfl
        refine zs_invV (pc := 150) (k := 336) (as' := [.int (zI M 337 12), .int (44 : Int32)]) (st := []) t346_150 mf348 rfl rfl (Or.inl ⟨by decide, (zk1 (w66s.k fk_zMm_336))⟩) ⟨by decide, by decide, Nat.le_of_ble_eq_true rfl, Nat.le_of_ble_eq_true rfl⟩ (K348 w66s w66I ⟨by omega, by omega⟩ (by omega) ?_) (fun _ _ q => q)
        intro w72M w72s w72I w72F w72J w72t0
        have w73 := ib336_50 w72I
        show zGo X l 2 0 0 346 153 [(1, .int (9 : Int32)), (0, .ref 336)] [] w72M _
        refine zs_aload_n (pc := 153) t346_153 rfl ?_
        refine zs_aload_n (pc := 154) t346_154 rfl ?_
        refine zs_get (pc := 155) t346_155 (by decide) (zk1 (w72s.k fk_zMm_336)) (w72s.p rfl fv_zMm_336_0) ?_
        refine zs_bipush (pc := 158) t346_158 (v := 13) (by decide) ?_
        have w74 := ibA13 hI
        refine zs_iald (pc := 160) t346_160 (j := 13) (by decide) (zk1 (w72s.k fk_zMm_337)) li13 (zk2 (w72s.k fk_zMm_337) (by decide)) ((w72F 337 13 rfl).trans ((w66F 337 13 rfl).trans ((w61F 337 13 rfl).trans ((w55F 337 13 rfl).trans ((w49F 337 13 rfl).trans ((w44F 337 13 rfl).trans ((w38F 337 13 rfl).trans ((w33F 337 13 rfl).trans ((w27F 337 13 rfl).trans ((w21F 337 13 rfl).trans ((w15F 337 13 rfl).trans ((w9F 337 13 rfl).trans ((w2F 337 13 rfl).trans ((zIo (by decide)).trans rfl)))))))))))))) ?_
        refine zs_bipush (pc := 161) t346_161 (v := 59) (by decide) ?_
        have w75 : (59 : Int32).toInt = 59 := li59
        have w76 : (zI w72M 336 50).toInt = (zI w72M 336 50).toInt := (congrArg Int32.toInt rfl).trans rfl
        have w77 : (zI w72M 336 50).toInt = (zI w72M 336 50).toInt := (congrArg Int32.toInt rfl).trans rfl
        refine zs_invV (pc := 163) (k := 336) (as' := [.int (zI M 337 13), .int (59 : Int32)]) (st := []) t346_163 mf348 rfl rfl (Or.inl ⟨by decide, (zk1 (w72s.k fk_zMm_336))⟩) ⟨by decide, by decide, Nat.le_of_ble_eq_true rfl, Nat.le_of_ble_eq_true rfl⟩ (K348 w72s w72I ⟨by omega, by omega⟩ (by omega) ?_) (fun _ _ q => q)
        intro w78M w78s w78I w78F w78J w78t0
        have w79 := ib336_50 w78I
        show zGo X l 2 0 0 346 166 [(1, .int (9 : Int32)), (0, .ref 336)] [] w78M _
        refine zs_aload_n (pc := 166) t346_166 rfl ?_
        refine zs_get (pc := 167) t346_167 (by decide) (zk1 (w78s.k fk_zMm_336)) (zfvi rfl rfl) ?_
        exact zs_iret (pc := 170) t346_170 mr346 rfl (hQ _ _ w78s w78I ((((((((((((((((zFr.refl).put rfl).trans (w2F.mono rfl)).trans (w9F.mono rfl)).trans (w15F.mono rfl)).trans (w21F.mono rfl)).trans (w27F.mono rfl)).trans (w33F.mono rfl)).trans (w38F.mono rfl)).trans (w44F.mono rfl)).trans (w49F.mono rfl)).trans (w55F.mono rfl)).trans (w61F.mono rfl)).trans (w66F.mono rfl)).trans (w72F.mono rfl)).trans (w78F.mono rfl)) (zPR.fr (zPR.fr (zPR.fr (zPR.fr (zPR.fr (zPR.fr (zPR.fr (zPR.fr (zPR.fr (zPR.fr (zPR.fr (zPR.fr (zPR.fr (zPR.fr (zPR.fr (M' := (zsI M 336 50 (0 : Int32))) pR (zEq.put rfl)) (w2F.eq rfl)) (w9F.eq rfl)) (w15F.eq rfl)) (w21F.eq rfl)) (w27F.eq rfl)) (w33F.eq rfl)) (w38F.eq rfl)) (w44F.eq rfl)) (w49F.eq rfl)) (w55F.eq rfl)) (w61F.eq rfl)) (w66F.eq rfl)) (w72F.eq rfl)) (w78F.eq rfl)) (zPC.fr (zPC.fr (zPC.fr (zPC.fr (zPC.fr (zPC.fr (zPC.fr (zPC.fr (zPC.fr (zPC.fr (zPC.fr (zPC.fr (zPC.fr (zPC.fr (zPC.fr (M' := (zsI M 336 50 (0 : Int32))) pC (zEq.put rfl)) (w2F.eq rfl)) (w9F.eq rfl)) (w15F.eq rfl)) (w21F.eq rfl)) (w27F.eq rfl)) (w33F.eq rfl)) (w38F.eq rfl)) (w44F.eq rfl)) (w49F.eq rfl)) (w55F.eq rfl)) (w61F.eq rfl)) (w66F.eq rfl)) (w72F.eq rfl)) (w78F.eq rfl)) (zPF.fr (zPF.fr (zPF.fr (zPF.fr (zPF.fr (zPF.fr (zPF.fr (zPF.fr (zPF.fr (zPF.fr (zPF.fr (zPF.fr (zPF.fr (zPF.fr (zPF.fr (M' := (zsI M 336 50 (0 : Int32))) pF (zEq.put rfl) rfl) (w2F.eq rfl) w2J) (w9F.eq rfl) w9J) (w15F.eq rfl) w15J) (w21F.eq rfl) w21J) (w27F.eq rfl) w27J) (w33F.eq rfl) w33J) (w38F.eq rfl) w38J) (w44F.eq rfl) w44J) (w49F.eq rfl) w49J) (w55F.eq rfl) w55J) (w61F.eq rfl) w61J) (w66F.eq rfl) w66J) (w72F.eq rfl) w72J) (w78F.eq rfl) w78J))
      · refine zs_icmp_geF (pc := 14) t346_14 rfl rfl (by omega) ?_
        refine zs_aload_n (pc := 17) t346_17 rfl ?_
        refine zs_bipush (pc := 18) t346_18 (v := 114) (by decide) ?_
        have w80 : (114 : Int32).toInt = 114 := li114
        have w81 : (zI w2M 336 50).toInt = (zI w2M 336 50).toInt := (congrArg Int32.toInt rfl).trans rfl
        have w82 : (zI w2M 336 50).toInt = (zI w2M 336 50).toInt := (congrArg Int32.toInt rfl).trans rfl
        refine zs_invV (pc := 20) (k := 336) (as' := [.int (114 : Int32)]) (st := []) t346_20 mf347 rfl rfl (Or.inl ⟨by decide, (zk1 (w2s.k fk_zMm_336))⟩) ⟨by decide, by decide, Nat.le_of_ble_eq_true rfl, Nat.le_of_ble_eq_true rfl⟩ (K347 w2s w2I (by omega) ?_) (fun _ _ q => q)
        intro w83M w83s w83I w83F w83J w83t0
        have w84 := ib336_50 w83I
        show zGo X l 2 0 0 346 23 [(0, .ref 336), (1, .int w2x1)] [] w83M _
        refine zs_aload_n (pc := 23) t346_23 rfl ?_
        refine zs_aload_n (pc := 24) t346_24 rfl ?_
        refine zs_iload_n (pc := 25) t346_25 rfl ?_
        refine zs_invV (pc := 26) (k := 336) (as' := [.int w2x1]) (st := [.ref 336]) t346_26 mf241 rfl rfl (Or.inl ⟨by decide, (zk1 (w83s.k fk_zMm_336))⟩) ⟨by decide, by decide, Nat.le_of_ble_eq_true rfl, Nat.le_of_ble_eq_true rfl⟩ (zs_in (by decide) mf241 (Nat.le_of_ble_eq_true rfl) ?_) (fun _ _ q => q)
        show zGo X l 0 0 0 241 0 [(0, .ref 336), (1, .int w2x1)] [] w83M _
        refine zs_aload_n (pc := 0) t241_0 rfl ?_
        refine zs_get (pc := 1) t241_1 (by decide) (zk1 (w83s.k fk_zMm_336)) (w83s.p rfl fv_zMm_336_0) ?_
        refine zs_bipush (pc := 4) t241_4 (v := 14) (by decide) ?_
        refine zs_iconst (pc := 6) t241_6 (v := 2) (by decide) ?_
        refine zs_iload_n (pc := 7) t241_7 rfl ?_
        obtain ⟨w85v, w85⟩ : ∃ v, (2 : Int32) * w2x1 = v := ⟨_, rfl⟩
        have w85g : w85v.toInt = 2 * w2x1.toInt := by rw [← w85]; exact zmulc li2 rfl (by omega) (by omega)
        refine zs_imul (pc := 8) t241_8 (c := w85v) w85 ?_
        obtain ⟨w86v, w86e, w86⟩ := ziadd (a := (14 : Int32)) (b := w85v) li14 w85g (by omega) (by omega)
        refine zs_iadd (pc := 9) t241_9 (c := w86v) w86e ?_
        obtain ⟨w87n, w87⟩ : ∃ n : Nat, w2x1.toInt = (n : Int) := ⟨(w2x1.toInt).toNat, by omega⟩
        have w88 := ibX (j := (14 + 2 * w87n)) hI (by omega) (by omega) (by omega)
        refine zs_iald (pc := 10) t241_10 (j := (14 + 2 * w87n)) (by decide) (zk1 (w83s.k fk_zMm_337)) (show w86v.toInt = (((14 + 2 * w87n) : Nat) : Int) by omega) (zk2 (w83s.k fk_zMm_337) (by omega)) ((w83F 337 (14 + 2 * w87n) rfl).trans ((w2F 337 (14 + 2 * w87n) rfl).trans ((zIo (by decide)).trans rfl))) ?_
        refine zs_iret (pc := 11) t241_11 mr241 rfl ?_
        show zGo X l 2 0 0 346 29 [(0, .ref 336), (1, .int w2x1)] [.int (zI M 337 (14 + 2 * w87n)), .ref 336] w83M _
        refine zs_bipush (pc := 29) t346_29 (v := 59) (by decide) ?_
        have w89 : (59 : Int32).toInt = 59 := li59
        have w90 : (zI w83M 336 50).toInt = (zI w83M 336 50).toInt := (congrArg Int32.toInt rfl).trans rfl
        have w91 : (zI w83M 336 50).toInt = (zI w83M 336 50).toInt := (congrArg Int32.toInt rfl).trans rfl
        refine zs_invV (pc := 31) (k := 336) (as' := [.int (zI M 337 (14 + 2 * w87n)), .int (59 : Int32)]) (st := []) t346_31 mf348 rfl rfl (Or.inl ⟨by decide, (zk1 (w83s.k fk_zMm_336))⟩) ⟨by decide, by decide, Nat.le_of_ble_eq_true rfl, Nat.le_of_ble_eq_true rfl⟩ (K348 w83s w83I ⟨by omega, by omega⟩ (by omega) ?_) (fun _ _ q => q)
        intro w92M w92s w92I w92F w92J w92t0
        have w93 := ib336_50 w92I
        show zGo X l 2 0 0 346 34 [(0, .ref 336), (1, .int w2x1)] [] w92M _
        obtain ⟨w94v, w94e, w94⟩ := ziadd (a := w2x1) (b := Int32.ofInt 1) rfl (show (Int32.ofInt 1).toInt = 1 by decide) (by omega) (by omega)
        refine zs_iinc (pc := 34) t346_34 (ls' := [(1, .int w94v), (0, .ref 336)]) (zml mf346 (by decide)) rfl (c := w94v) w94e rfl ?_
        refine zs_goto (pc := 37) t346_37 ?_
        refine zGo.locals (ls' := [(0, .ref 336), (1, .int w94v)]) (by simp) ?_
        have w95 := w94
        have w96 : (zI w92M 336 50).toInt = (zI w92M 336 50).toInt := (congrArg Int32.toInt rfl).trans rfl
        exact w2ih (w2m - 1) (by omega) w94v w92M ⟨by omega, by omega⟩ w92s w92I ((((zFr.refl).trans (w2F.mono rfl)).trans (w83F.mono rfl)).trans (w92F.mono rfl)) (w92J.trans (w83J.trans w2J)) (by omega) (by omega)
  refine zGo.locals (ls' := [(0, .ref 336), (1, .int (0 : Int32))]) (by simp) ?_
  have w97 := li0
  have w98 : (zI (zsI M 336 50 (0 : Int32)) 336 50).toInt = 0 := (congrArg Int32.toInt zIs).trans li0
  exact w2L ((8 - 0 : Int).toNat) (0 : Int32) (zsI M 336 50 (0 : Int32)) ⟨by decide, by decide⟩ hs w1 zFr.refl rfl (by omega) (by omega)
theorem K349 {X : zX} {l : Launch} {M : zM} {Q : Option Value → zM → Prop} {a : Int32} (hs : zSk zMm M) (hI : zIv mLo mHi M) (pR : zPR M) (pC : zPC M) (pF : zPF M) (hQ : ∀ (M' : zM) (v : Int32), zSk zMm M' → zIv mLo mHi M' → zFr [(336, 363, none)] M M' → zPR M' → zPC M' → zPF M' → Q (some (.int v)) M') : zCall X l 1 0 0 349 [.ref 336, .int a] M Q := by
  have ga := zrg a
  refine zs_in (by decide) mf349 (Nat.le_of_ble_eq_true rfl) ?_
  show zGo X l 1 0 0 349 0 [(0, .ref 336), (1, .int a)] [] M _
  refine zs_iload_n (pc := 0) t349_0 rfl ?_
  refine zs_i2l (pc := 1) t349_1 rfl ?_
  refine zs_lconst (pc := 2) t349_2 (v := 0) (by decide) ?_
  refine zs_aload_n (pc := 3) t349_3 rfl ?_
  have w1 := ib336_50 hI
  refine zs_get (pc := 4) t349_4 (by decide) (zk1 (hs.k fk_zMm_336)) (zfvi rfl rfl) ?_
  refine zs_iconst (pc := 7) t349_7 (v := 1) (by decide) ?_
  obtain ⟨w2v, w2e, w2⟩ := zisub (a := (zI M 336 50)) (b := (1 : Int32)) rfl li1 (by omega) (by omega)
  refine zs_isub (pc := 8) t349_8 (c := w2v) w2e ?_
  refine zs_i2l (pc := 9) t349_9 rfl ?_
  by_cases w3 : 0 ≤ a.toInt ∧ a.toInt ≤ ((zI M 336 50).toInt - 1)
  · refine zs_invS (pc := 10) (as := [.long a.toInt64, .long (0 : Int64), .long w2v.toInt64]) (st := []) t349_10 (by decide) mf228 rfl rfl ⟨by decide, by decide, Nat.le_of_ble_eq_true rfl, Nat.le_of_ble_eq_true rfl⟩ (K228T (zi2l rfl) ll0 (zi2l w2) (by omega) ?_) (fun _ _ q => q)
    show zGo X l 1 0 0 349 13 [(0, .ref 336), (1, .int a)] [.int (1 : Int32)] M _
    refine zs_if_eqF (pc := 13) t349_13 li1 (by decide) ?_
    refine zs_aload_n (pc := 16) t349_16 rfl ?_
    refine zs_get (pc := 17) t349_17 (by decide) (zk1 (hs.k fk_zMm_336)) (hs.p rfl fv_zMm_336_49) ?_
    refine zs_iload_n (pc := 20) t349_20 rfl ?_
    obtain ⟨w4n, w4⟩ : ∃ n : Nat, a.toInt = (n : Int) := ⟨(a.toInt).toNat, by omega⟩
    have w5 := ib363 hI w4n
    refine zs_bald (pc := 21) t349_21 (j := w4n) (Or.inl (zk1 (hs.k fk_zMm_363))) (show a.toInt = ((w4n : Nat) : Int) by omega) (zk2 (hs.k fk_zMm_363) (by omega)) rfl ?_
    refine zs_goto (pc := 22) t349_22 ?_
    exact zs_iret (pc := 26) t349_26 mr349 rfl (hQ _ _ hs hI (zFr.refl) pR pC pF)
  · refine zs_invS (pc := 10) (as := [.long a.toInt64, .long (0 : Int64), .long w2v.toInt64]) (st := []) t349_10 (by decide) mf228 rfl rfl ⟨by decide, by decide, Nat.le_of_ble_eq_true rfl, Nat.le_of_ble_eq_true rfl⟩ (K228F (zi2l rfl) ll0 (zi2l w2) (by omega) ?_) (fun _ _ q => q)
    show zGo X l 1 0 0 349 13 [(0, .ref 336), (1, .int a)] [.int (0 : Int32)] M _
    refine zs_if_eqT (pc := 13) t349_13 li0 (by decide) ?_
    refine zs_iconst (pc := 25) t349_25 (v := -1) (by decide) ?_
    exact zs_iret (pc := 26) t349_26 mr349 (by decide) (hQ _ _ hs hI (zFr.refl) pR pC pF)
theorem K345 {X : zX} {l : Launch} {M : zM} {Q : Option Value → zM → Prop} (hs : zSk zMm M) (hI : zIv mLo mHi M) (pR : zPR M) (pC : zPC M) (pF : zPF M) (hQ : ∀ (M' : zM) (v : Int32), zSk zMm M' → zIv mLo mHi M' → zFr [(336, 363, none)] M M' → zPR M' → zPC M' → zPF M' → Q (some (.int v)) M') : zCall X l 0 0 0 345 [.ref 336] M Q := by
  refine zs_in (by decide) mf345 (Nat.le_of_ble_eq_true rfl) ?_
  show zGo X l 0 0 0 345 0 [(0, .ref 336)] [] M _
  refine zs_aload_n (pc := 0) t345_0 rfl ?_
  have w1 := zrg (zI M 336 48)
  refine zs_get (pc := 1) t345_1 (by decide) (zk1 (hs.k fk_zMm_336)) (zfvi rfl rfl) ?_
  exact zs_iret (pc := 4) t345_4 mr345 rfl (hQ _ _ hs hI (zFr.refl) pR pC pF)
theorem K234 {X : zX} {l : Launch} {M : zM} {Q : Option Value → zM → Prop} (hs : zSk zMm M) (hI : zIv mLo mHi M) (pR : zPR M) (pC : zPC M) (pF : zPF M) (hQ : ∀ (M' : zM) (v : Int32), zSk zMm M' → zIv mLo mHi M' → zFr [(336, 363, none)] M M' → zPR M' → zPC M' → zPF M' → Q (some (.int v)) M') : zCall X l 0 0 0 234 [.ref 336] M Q := by
  refine zs_in (by decide) mf234 (Nat.le_of_ble_eq_true rfl) ?_
  show zGo X l 0 0 0 234 0 [(0, .ref 336)] [] M _
  refine zs_aload_n (pc := 0) t234_0 rfl ?_
  have w1 := ib336_7 hI
  refine zs_get (pc := 1) t234_1 (by decide) (zk1 (hs.k fk_zMm_336)) (zfvi rfl rfl) ?_
  exact zs_iret (pc := 4) t234_4 mr234 rfl (hQ _ _ hs hI (zFr.refl) pR pC pF)
theorem K304 {X : zX} {l : Launch} {M : zM} {Q : Option Value → zM → Prop} {a : Int32} (hs : zSk zMm M) (hI : zIv mLo mHi M) (pR : zPR M) (pC : zPC M) (pF : zPF M) (hQ : ∀ (M' : zM) (v : Int32), zSk zMm M' → zIv mLo mHi M' → zFr [(336, 363, none)] M M' → zPR M' → zPC M' → zPF M' → Q (some (.int v)) M') : zCall X l 3 0 0 304 [.ref 336, .int a] M Q := by
  have ga := zrg a
  refine zs_in (by decide) mf304 (Nat.le_of_ble_eq_true rfl) ?_
  show zGo X l 3 0 0 304 0 [(0, .ref 336), (1, .int a)] [] M _
  refine zs_iload_n (pc := 0) t304_0 rfl ?_
  by_cases w1 : a.toInt = 0
  · refine zs_tswI (pc := 1) t304_1 ((rfl : a.toInt = a.toInt).trans w1) (by decide) rfl (pc2 := 80) rfl ?_
    refine zs_aload_n (pc := 80) t304_80 rfl ?_
    refine zs_get (pc := 81) t304_81 (by decide) (zk1 (hs.k fk_zMm_336)) (hs.p rfl fv_zMm_336_0) ?_
    refine zs_iconst (pc := 84) t304_84 (v := 0) (by decide) ?_
    have w2 := ibA0 hI
    refine zs_iald (pc := 85) t304_85 (j := 0) (by decide) (zk1 (hs.k fk_zMm_337)) li0 (zk2 (hs.k fk_zMm_337) (by decide)) rfl ?_
    exact zs_iret (pc := 86) t304_86 mr304 rfl (hQ _ _ hs hI (zFr.refl) pR pC pF)
  by_cases w3 : a.toInt = 1
  · refine zs_tswI (pc := 1) t304_1 ((rfl : a.toInt = a.toInt).trans w3) (by decide) rfl (pc2 := 87) rfl ?_
    refine zs_aload_n (pc := 87) t304_87 rfl ?_
    refine zs_invV (pc := 88) (k := 336) (as' := []) (st := []) t304_88 mf292 rfl rfl (Or.inl ⟨by decide, (zk1 (hs.k fk_zMm_336))⟩) ⟨by decide, by decide, Nat.le_of_ble_eq_true rfl, Nat.le_of_ble_eq_true rfl⟩ (K292 hs hI ?_) (fun _ _ q => q)
    intro w4v
    have w4g := zrg w4v
    show zGo X l 3 0 0 304 91 [(0, .ref 336), (1, .int a)] [.int w4v] M _
    exact zs_iret (pc := 91) t304_91 mr304 rfl (hQ _ _ hs hI (zFr.refl) pR pC pF)
  by_cases w5 : a.toInt = 2
  · refine zs_tswI (pc := 1) t304_1 ((rfl : a.toInt = a.toInt).trans w5) (by decide) rfl (pc2 := 92) rfl ?_
    refine zs_aload_n (pc := 92) t304_92 rfl ?_
    refine zs_get (pc := 93) t304_93 (by decide) (zk1 (hs.k fk_zMm_336)) (hs.p rfl fv_zMm_336_0) ?_
    refine zs_iconst (pc := 96) t304_96 (v := 1) (by decide) ?_
    have w6 := ibA1 hI
    refine zs_iald (pc := 97) t304_97 (j := 1) (by decide) (zk1 (hs.k fk_zMm_337)) li1 (zk2 (hs.k fk_zMm_337) (by decide)) rfl ?_
    exact zs_iret (pc := 98) t304_98 mr304 rfl (hQ _ _ hs hI (zFr.refl) pR pC pF)
  by_cases w7 : a.toInt = 3
  · refine zs_tswI (pc := 1) t304_1 ((rfl : a.toInt = a.toInt).trans w7) (by decide) rfl (pc2 := 99) rfl ?_
    refine zs_aload_n (pc := 99) t304_99 rfl ?_
    refine zs_iconst (pc := 100) t304_100 (v := -1) (by decide) ?_
    refine zs_invV (pc := 101) (k := 336) (as' := [.int (-1 : Int32)]) (st := []) t304_101 mf290 rfl rfl (Or.inl ⟨by decide, (zk1 (hs.k fk_zMm_336))⟩) ⟨by decide, by decide, Nat.le_of_ble_eq_true rfl, Nat.le_of_ble_eq_true rfl⟩ (K290 hs hI ?_) (fun _ _ q => q)
    intro w8v
    have w8g := zrg w8v
    show zGo X l 3 0 0 304 104 [(0, .ref 336), (1, .int a)] [.int w8v] M _
    exact zs_iret (pc := 104) t304_104 mr304 rfl (hQ _ _ hs hI (zFr.refl) pR pC pF)
  by_cases w9 : a.toInt = 4
  · refine zs_tswI (pc := 1) t304_1 ((rfl : a.toInt = a.toInt).trans w9) (by decide) rfl (pc2 := 105) rfl ?_
    refine zs_aload_n (pc := 105) t304_105 rfl ?_
    refine zs_get (pc := 106) t304_106 (by decide) (zk1 (hs.k fk_zMm_336)) (hs.p rfl fv_zMm_336_0) ?_
    refine zs_iconst (pc := 109) t304_109 (v := 2) (by decide) ?_
    have w10 := ibA2 hI
    refine zs_iald (pc := 110) t304_110 (j := 2) (by decide) (zk1 (hs.k fk_zMm_337)) li2 (zk2 (hs.k fk_zMm_337) (by decide)) rfl ?_
    exact zs_iret (pc := 111) t304_111 mr304 rfl (hQ _ _ hs hI (zFr.refl) pR pC pF)
  by_cases w11 : a.toInt = 5
  · refine zs_tswI (pc := 1) t304_1 ((rfl : a.toInt = a.toInt).trans w11) (by decide) rfl (pc2 := 122) rfl ?_
    refine zs_iload_n (pc := 122) t304_122 rfl ?_
    refine zs_i2l (pc := 123) t304_123 rfl ?_
    refine zs_ldc2_w (pc := 124) t304_124 (v := 5) (by decide) ?_
    refine zs_ldc2_w (pc := 127) t304_127 (v := 13) (by decide) ?_
    refine zs_invS (pc := 130) (as := [.long a.toInt64, .long (5 : Int64), .long (13 : Int64)]) (st := []) t304_130 (by decide) mf228 rfl rfl ⟨by decide, by decide, Nat.le_of_ble_eq_true rfl, Nat.le_of_ble_eq_true rfl⟩ (K228T (zi2l rfl) ll5 ll13 (by omega) ?_) (fun _ _ q => q)
    show zGo X l 3 0 0 304 133 [(0, .ref 336), (1, .int a)] [.int (1 : Int32)] M _
    refine zs_if_eqF (pc := 133) t304_133 li1 (by decide) ?_
    refine zs_aload_n (pc := 136) t304_136 rfl ?_
    refine zs_get (pc := 137) t304_137 (by decide) (zk1 (hs.k fk_zMm_336)) (hs.p rfl fv_zMm_336_0) ?_
    refine zs_iconst (pc := 140) t304_140 (v := 5) (by decide) ?_
    refine zs_iload_n (pc := 141) t304_141 rfl ?_
    obtain ⟨w13v, w13e, w13⟩ := ziadd (a := (5 : Int32)) (b := a) li5 rfl (by omega) (by omega)
    refine zs_iadd (pc := 142) t304_142 (c := w13v) w13e ?_
    refine zs_iconst (pc := 143) t304_143 (v := 5) (by decide) ?_
    obtain ⟨w14v, w14e, w14⟩ := zisub (a := w13v) (b := (5 : Int32)) w13 li5 (by omega) (by omega)
    refine zs_isub (pc := 144) t304_144 (c := w14v) w14e ?_
    obtain ⟨w15n, w15⟩ : ∃ n : Nat, a.toInt = (n : Int) := ⟨(a.toInt).toNat, by omega⟩
    have w16 := zrg (zI M 337 w15n)
    refine zs_iald (pc := 145) t304_145 (j := w15n) (by decide) (zk1 (hs.k fk_zMm_337)) (show w14v.toInt = ((w15n : Nat) : Int) by omega) (zk2 (hs.k fk_zMm_337) (by omega)) rfl ?_
    refine zs_goto (pc := 146) t304_146 ?_
    exact zs_iret (pc := 150) t304_150 mr304 rfl (hQ _ _ hs hI (zFr.refl) pR pC pF)
  by_cases w17 : a.toInt = 6
  · refine zs_tswI (pc := 1) t304_1 ((rfl : a.toInt = a.toInt).trans w17) (by decide) rfl (pc2 := 122) rfl ?_
    refine zs_iload_n (pc := 122) t304_122 rfl ?_
    refine zs_i2l (pc := 123) t304_123 rfl ?_
    refine zs_ldc2_w (pc := 124) t304_124 (v := 5) (by decide) ?_
    refine zs_ldc2_w (pc := 127) t304_127 (v := 13) (by decide) ?_
    refine zs_invS (pc := 130) (as := [.long a.toInt64, .long (5 : Int64), .long (13 : Int64)]) (st := []) t304_130 (by decide) mf228 rfl rfl ⟨by decide, by decide, Nat.le_of_ble_eq_true rfl, Nat.le_of_ble_eq_true rfl⟩ (K228T (zi2l rfl) ll5 ll13 (by omega) ?_) (fun _ _ q => q)
    show zGo X l 3 0 0 304 133 [(0, .ref 336), (1, .int a)] [.int (1 : Int32)] M _
    refine zs_if_eqF (pc := 133) t304_133 li1 (by decide) ?_
    refine zs_aload_n (pc := 136) t304_136 rfl ?_
    refine zs_get (pc := 137) t304_137 (by decide) (zk1 (hs.k fk_zMm_336)) (hs.p rfl fv_zMm_336_0) ?_
    refine zs_iconst (pc := 140) t304_140 (v := 5) (by decide) ?_
    refine zs_iload_n (pc := 141) t304_141 rfl ?_
    obtain ⟨w19v, w19e, w19⟩ := ziadd (a := (5 : Int32)) (b := a) li5 rfl (by omega) (by omega)
    refine zs_iadd (pc := 142) t304_142 (c := w19v) w19e ?_
    refine zs_iconst (pc := 143) t304_143 (v := 5) (by decide) ?_
    obtain ⟨w20v, w20e, w20⟩ := zisub (a := w19v) (b := (5 : Int32)) w19 li5 (by omega) (by omega)
    refine zs_isub (pc := 144) t304_144 (c := w20v) w20e ?_
    obtain ⟨w21n, w21⟩ : ∃ n : Nat, a.toInt = (n : Int) := ⟨(a.toInt).toNat, by omega⟩
    have w22 := zrg (zI M 337 w21n)
    refine zs_iald (pc := 145) t304_145 (j := w21n) (by decide) (zk1 (hs.k fk_zMm_337)) (show w20v.toInt = ((w21n : Nat) : Int) by omega) (zk2 (hs.k fk_zMm_337) (by omega)) rfl ?_
    refine zs_goto (pc := 146) t304_146 ?_
    exact zs_iret (pc := 150) t304_150 mr304 rfl (hQ _ _ hs hI (zFr.refl) pR pC pF)
  by_cases w23 : a.toInt = 7
  · refine zs_tswI (pc := 1) t304_1 ((rfl : a.toInt = a.toInt).trans w23) (by decide) rfl (pc2 := 122) rfl ?_
    refine zs_iload_n (pc := 122) t304_122 rfl ?_
    refine zs_i2l (pc := 123) t304_123 rfl ?_
    refine zs_ldc2_w (pc := 124) t304_124 (v := 5) (by decide) ?_
    refine zs_ldc2_w (pc := 127) t304_127 (v := 13) (by decide) ?_
    refine zs_invS (pc := 130) (as := [.long a.toInt64, .long (5 : Int64), .long (13 : Int64)]) (st := []) t304_130 (by decide) mf228 rfl rfl ⟨by decide, by decide, Nat.le_of_ble_eq_true rfl, Nat.le_of_ble_eq_true rfl⟩ (K228T (zi2l rfl) ll5 ll13 (by omega) ?_) (fun _ _ q => q)
    show zGo X l 3 0 0 304 133 [(0, .ref 336), (1, .int a)] [.int (1 : Int32)] M _
    refine zs_if_eqF (pc := 133) t304_133 li1 (by decide) ?_
    refine zs_aload_n (pc := 136) t304_136 rfl ?_
    refine zs_get (pc := 137) t304_137 (by decide) (zk1 (hs.k fk_zMm_336)) (hs.p rfl fv_zMm_336_0) ?_
    refine zs_iconst (pc := 140) t304_140 (v := 5) (by decide) ?_
    refine zs_iload_n (pc := 141) t304_141 rfl ?_
    obtain ⟨w25v, w25e, w25⟩ := ziadd (a := (5 : Int32)) (b := a) li5 rfl (by omega) (by omega)
    refine zs_iadd (pc := 142) t304_142 (c := w25v) w25e ?_
    refine zs_iconst (pc := 143) t304_143 (v := 5) (by decide) ?_
    obtain ⟨w26v, w26e, w26⟩ := zisub (a := w25v) (b := (5 : Int32)) w25 li5 (by omega) (by omega)
    refine zs_isub (pc := 144) t304_144 (c := w26v) w26e ?_
    obtain ⟨w27n, w27⟩ : ∃ n : Nat, a.toInt = (n : Int) := ⟨(a.toInt).toNat, by omega⟩
    have w28 := zrg (zI M 337 w27n)
    refine zs_iald (pc := 145) t304_145 (j := w27n) (by decide) (zk1 (hs.k fk_zMm_337)) (show w26v.toInt = ((w27n : Nat) : Int) by omega) (zk2 (hs.k fk_zMm_337) (by omega)) rfl ?_
    refine zs_goto (pc := 146) t304_146 ?_
    exact zs_iret (pc := 150) t304_150 mr304 rfl (hQ _ _ hs hI (zFr.refl) pR pC pF)
  by_cases w29 : a.toInt = 8
  · refine zs_tswI (pc := 1) t304_1 ((rfl : a.toInt = a.toInt).trans w29) (by decide) rfl (pc2 := 122) rfl ?_
    refine zs_iload_n (pc := 122) t304_122 rfl ?_
    refine zs_i2l (pc := 123) t304_123 rfl ?_
    refine zs_ldc2_w (pc := 124) t304_124 (v := 5) (by decide) ?_
    refine zs_ldc2_w (pc := 127) t304_127 (v := 13) (by decide) ?_
    refine zs_invS (pc := 130) (as := [.long a.toInt64, .long (5 : Int64), .long (13 : Int64)]) (st := []) t304_130 (by decide) mf228 rfl rfl ⟨by decide, by decide, Nat.le_of_ble_eq_true rfl, Nat.le_of_ble_eq_true rfl⟩ (K228T (zi2l rfl) ll5 ll13 (by omega) ?_) (fun _ _ q => q)
    show zGo X l 3 0 0 304 133 [(0, .ref 336), (1, .int a)] [.int (1 : Int32)] M _
    refine zs_if_eqF (pc := 133) t304_133 li1 (by decide) ?_
    refine zs_aload_n (pc := 136) t304_136 rfl ?_
    refine zs_get (pc := 137) t304_137 (by decide) (zk1 (hs.k fk_zMm_336)) (hs.p rfl fv_zMm_336_0) ?_
    refine zs_iconst (pc := 140) t304_140 (v := 5) (by decide) ?_
    refine zs_iload_n (pc := 141) t304_141 rfl ?_
    obtain ⟨w31v, w31e, w31⟩ := ziadd (a := (5 : Int32)) (b := a) li5 rfl (by omega) (by omega)
    refine zs_iadd (pc := 142) t304_142 (c := w31v) w31e ?_
    refine zs_iconst (pc := 143) t304_143 (v := 5) (by decide) ?_
    obtain ⟨w32v, w32e, w32⟩ := zisub (a := w31v) (b := (5 : Int32)) w31 li5 (by omega) (by omega)
    refine zs_isub (pc := 144) t304_144 (c := w32v) w32e ?_
    obtain ⟨w33n, w33⟩ : ∃ n : Nat, a.toInt = (n : Int) := ⟨(a.toInt).toNat, by omega⟩
    have w34 := zrg (zI M 337 w33n)
    refine zs_iald (pc := 145) t304_145 (j := w33n) (by decide) (zk1 (hs.k fk_zMm_337)) (show w32v.toInt = ((w33n : Nat) : Int) by omega) (zk2 (hs.k fk_zMm_337) (by omega)) rfl ?_
    refine zs_goto (pc := 146) t304_146 ?_
    exact zs_iret (pc := 150) t304_150 mr304 rfl (hQ _ _ hs hI (zFr.refl) pR pC pF)
  by_cases w35 : a.toInt = 9
  · refine zs_tswI (pc := 1) t304_1 ((rfl : a.toInt = a.toInt).trans w35) (by decide) rfl (pc2 := 122) rfl ?_
    refine zs_iload_n (pc := 122) t304_122 rfl ?_
    refine zs_i2l (pc := 123) t304_123 rfl ?_
    refine zs_ldc2_w (pc := 124) t304_124 (v := 5) (by decide) ?_
    refine zs_ldc2_w (pc := 127) t304_127 (v := 13) (by decide) ?_
    refine zs_invS (pc := 130) (as := [.long a.toInt64, .long (5 : Int64), .long (13 : Int64)]) (st := []) t304_130 (by decide) mf228 rfl rfl ⟨by decide, by decide, Nat.le_of_ble_eq_true rfl, Nat.le_of_ble_eq_true rfl⟩ (K228T (zi2l rfl) ll5 ll13 (by omega) ?_) (fun _ _ q => q)
    show zGo X l 3 0 0 304 133 [(0, .ref 336), (1, .int a)] [.int (1 : Int32)] M _
    refine zs_if_eqF (pc := 133) t304_133 li1 (by decide) ?_
    refine zs_aload_n (pc := 136) t304_136 rfl ?_
    refine zs_get (pc := 137) t304_137 (by decide) (zk1 (hs.k fk_zMm_336)) (hs.p rfl fv_zMm_336_0) ?_
    refine zs_iconst (pc := 140) t304_140 (v := 5) (by decide) ?_
    refine zs_iload_n (pc := 141) t304_141 rfl ?_
    obtain ⟨w37v, w37e, w37⟩ := ziadd (a := (5 : Int32)) (b := a) li5 rfl (by omega) (by omega)
    refine zs_iadd (pc := 142) t304_142 (c := w37v) w37e ?_
    refine zs_iconst (pc := 143) t304_143 (v := 5) (by decide) ?_
    obtain ⟨w38v, w38e, w38⟩ := zisub (a := w37v) (b := (5 : Int32)) w37 li5 (by omega) (by omega)
    refine zs_isub (pc := 144) t304_144 (c := w38v) w38e ?_
    obtain ⟨w39n, w39⟩ : ∃ n : Nat, a.toInt = (n : Int) := ⟨(a.toInt).toNat, by omega⟩
    have w40 := zrg (zI M 337 w39n)
    refine zs_iald (pc := 145) t304_145 (j := w39n) (by decide) (zk1 (hs.k fk_zMm_337)) (show w38v.toInt = ((w39n : Nat) : Int) by omega) (zk2 (hs.k fk_zMm_337) (by omega)) rfl ?_
    refine zs_goto (pc := 146) t304_146 ?_
    exact zs_iret (pc := 150) t304_150 mr304 rfl (hQ _ _ hs hI (zFr.refl) pR pC pF)
  by_cases w41 : a.toInt = 10
  · refine zs_tswI (pc := 1) t304_1 ((rfl : a.toInt = a.toInt).trans w41) (by decide) rfl (pc2 := 122) rfl ?_
    refine zs_iload_n (pc := 122) t304_122 rfl ?_
    refine zs_i2l (pc := 123) t304_123 rfl ?_
    refine zs_ldc2_w (pc := 124) t304_124 (v := 5) (by decide) ?_
    refine zs_ldc2_w (pc := 127) t304_127 (v := 13) (by decide) ?_
    refine zs_invS (pc := 130) (as := [.long a.toInt64, .long (5 : Int64), .long (13 : Int64)]) (st := []) t304_130 (by decide) mf228 rfl rfl ⟨by decide, by decide, Nat.le_of_ble_eq_true rfl, Nat.le_of_ble_eq_true rfl⟩ (K228T (zi2l rfl) ll5 ll13 (by omega) ?_) (fun _ _ q => q)
    show zGo X l 3 0 0 304 133 [(0, .ref 336), (1, .int a)] [.int (1 : Int32)] M _
    refine zs_if_eqF (pc := 133) t304_133 li1 (by decide) ?_
    refine zs_aload_n (pc := 136) t304_136 rfl ?_
    refine zs_get (pc := 137) t304_137 (by decide) (zk1 (hs.k fk_zMm_336)) (hs.p rfl fv_zMm_336_0) ?_
    refine zs_iconst (pc := 140) t304_140 (v := 5) (by decide) ?_
    refine zs_iload_n (pc := 141) t304_141 rfl ?_
    obtain ⟨w43v, w43e, w43⟩ := ziadd (a := (5 : Int32)) (b := a) li5 rfl (by omega) (by omega)
    refine zs_iadd (pc := 142) t304_142 (c := w43v) w43e ?_
    refine zs_iconst (pc := 143) t304_143 (v := 5) (by decide) ?_
    obtain ⟨w44v, w44e, w44⟩ := zisub (a := w43v) (b := (5 : Int32)) w43 li5 (by omega) (by omega)
    refine zs_isub (pc := 144) t304_144 (c := w44v) w44e ?_
    obtain ⟨w45n, w45⟩ : ∃ n : Nat, a.toInt = (n : Int) := ⟨(a.toInt).toNat, by omega⟩
    have w46 := zrg (zI M 337 w45n)
    refine zs_iald (pc := 145) t304_145 (j := w45n) (by decide) (zk1 (hs.k fk_zMm_337)) (show w44v.toInt = ((w45n : Nat) : Int) by omega) (zk2 (hs.k fk_zMm_337) (by omega)) rfl ?_
    refine zs_goto (pc := 146) t304_146 ?_
    exact zs_iret (pc := 150) t304_150 mr304 rfl (hQ _ _ hs hI (zFr.refl) pR pC pF)
  by_cases w47 : a.toInt = 11
  · refine zs_tswI (pc := 1) t304_1 ((rfl : a.toInt = a.toInt).trans w47) (by decide) rfl (pc2 := 122) rfl ?_
    refine zs_iload_n (pc := 122) t304_122 rfl ?_
    refine zs_i2l (pc := 123) t304_123 rfl ?_
    refine zs_ldc2_w (pc := 124) t304_124 (v := 5) (by decide) ?_
    refine zs_ldc2_w (pc := 127) t304_127 (v := 13) (by decide) ?_
    refine zs_invS (pc := 130) (as := [.long a.toInt64, .long (5 : Int64), .long (13 : Int64)]) (st := []) t304_130 (by decide) mf228 rfl rfl ⟨by decide, by decide, Nat.le_of_ble_eq_true rfl, Nat.le_of_ble_eq_true rfl⟩ (K228T (zi2l rfl) ll5 ll13 (by omega) ?_) (fun _ _ q => q)
    show zGo X l 3 0 0 304 133 [(0, .ref 336), (1, .int a)] [.int (1 : Int32)] M _
    refine zs_if_eqF (pc := 133) t304_133 li1 (by decide) ?_
    refine zs_aload_n (pc := 136) t304_136 rfl ?_
    refine zs_get (pc := 137) t304_137 (by decide) (zk1 (hs.k fk_zMm_336)) (hs.p rfl fv_zMm_336_0) ?_
    refine zs_iconst (pc := 140) t304_140 (v := 5) (by decide) ?_
    refine zs_iload_n (pc := 141) t304_141 rfl ?_
    obtain ⟨w49v, w49e, w49⟩ := ziadd (a := (5 : Int32)) (b := a) li5 rfl (by omega) (by omega)
    refine zs_iadd (pc := 142) t304_142 (c := w49v) w49e ?_
    refine zs_iconst (pc := 143) t304_143 (v := 5) (by decide) ?_
    obtain ⟨w50v, w50e, w50⟩ := zisub (a := w49v) (b := (5 : Int32)) w49 li5 (by omega) (by omega)
    refine zs_isub (pc := 144) t304_144 (c := w50v) w50e ?_
    obtain ⟨w51n, w51⟩ : ∃ n : Nat, a.toInt = (n : Int) := ⟨(a.toInt).toNat, by omega⟩
    have w52 := zrg (zI M 337 w51n)
    refine zs_iald (pc := 145) t304_145 (j := w51n) (by decide) (zk1 (hs.k fk_zMm_337)) (show w50v.toInt = ((w51n : Nat) : Int) by omega) (zk2 (hs.k fk_zMm_337) (by omega)) rfl ?_
    refine zs_goto (pc := 146) t304_146 ?_
    exact zs_iret (pc := 150) t304_150 mr304 rfl (hQ _ _ hs hI (zFr.refl) pR pC pF)
  by_cases w53 : a.toInt = 12
  · refine zs_tswI (pc := 1) t304_1 ((rfl : a.toInt = a.toInt).trans w53) (by decide) rfl (pc2 := 122) rfl ?_
    refine zs_iload_n (pc := 122) t304_122 rfl ?_
    refine zs_i2l (pc := 123) t304_123 rfl ?_
    refine zs_ldc2_w (pc := 124) t304_124 (v := 5) (by decide) ?_
    refine zs_ldc2_w (pc := 127) t304_127 (v := 13) (by decide) ?_
    refine zs_invS (pc := 130) (as := [.long a.toInt64, .long (5 : Int64), .long (13 : Int64)]) (st := []) t304_130 (by decide) mf228 rfl rfl ⟨by decide, by decide, Nat.le_of_ble_eq_true rfl, Nat.le_of_ble_eq_true rfl⟩ (K228T (zi2l rfl) ll5 ll13 (by omega) ?_) (fun _ _ q => q)
    show zGo X l 3 0 0 304 133 [(0, .ref 336), (1, .int a)] [.int (1 : Int32)] M _
    refine zs_if_eqF (pc := 133) t304_133 li1 (by decide) ?_
    refine zs_aload_n (pc := 136) t304_136 rfl ?_
    refine zs_get (pc := 137) t304_137 (by decide) (zk1 (hs.k fk_zMm_336)) (hs.p rfl fv_zMm_336_0) ?_
    refine zs_iconst (pc := 140) t304_140 (v := 5) (by decide) ?_
    refine zs_iload_n (pc := 141) t304_141 rfl ?_
    obtain ⟨w55v, w55e, w55⟩ := ziadd (a := (5 : Int32)) (b := a) li5 rfl (by omega) (by omega)
    refine zs_iadd (pc := 142) t304_142 (c := w55v) w55e ?_
    refine zs_iconst (pc := 143) t304_143 (v := 5) (by decide) ?_
    obtain ⟨w56v, w56e, w56⟩ := zisub (a := w55v) (b := (5 : Int32)) w55 li5 (by omega) (by omega)
    refine zs_isub (pc := 144) t304_144 (c := w56v) w56e ?_
    obtain ⟨w57n, w57⟩ : ∃ n : Nat, a.toInt = (n : Int) := ⟨(a.toInt).toNat, by omega⟩
    have w58 := zrg (zI M 337 w57n)
    refine zs_iald (pc := 145) t304_145 (j := w57n) (by decide) (zk1 (hs.k fk_zMm_337)) (show w56v.toInt = ((w57n : Nat) : Int) by omega) (zk2 (hs.k fk_zMm_337) (by omega)) rfl ?_
    refine zs_goto (pc := 146) t304_146 ?_
    exact zs_iret (pc := 150) t304_150 mr304 rfl (hQ _ _ hs hI (zFr.refl) pR pC pF)
  by_cases w59 : a.toInt = 13
  · refine zs_tswI (pc := 1) t304_1 ((rfl : a.toInt = a.toInt).trans w59) (by decide) rfl (pc2 := 122) rfl ?_
    refine zs_iload_n (pc := 122) t304_122 rfl ?_
    refine zs_i2l (pc := 123) t304_123 rfl ?_
    refine zs_ldc2_w (pc := 124) t304_124 (v := 5) (by decide) ?_
    refine zs_ldc2_w (pc := 127) t304_127 (v := 13) (by decide) ?_
    refine zs_invS (pc := 130) (as := [.long a.toInt64, .long (5 : Int64), .long (13 : Int64)]) (st := []) t304_130 (by decide) mf228 rfl rfl ⟨by decide, by decide, Nat.le_of_ble_eq_true rfl, Nat.le_of_ble_eq_true rfl⟩ (K228T (zi2l rfl) ll5 ll13 (by omega) ?_) (fun _ _ q => q)
    show zGo X l 3 0 0 304 133 [(0, .ref 336), (1, .int a)] [.int (1 : Int32)] M _
    refine zs_if_eqF (pc := 133) t304_133 li1 (by decide) ?_
    refine zs_aload_n (pc := 136) t304_136 rfl ?_
    refine zs_get (pc := 137) t304_137 (by decide) (zk1 (hs.k fk_zMm_336)) (hs.p rfl fv_zMm_336_0) ?_
    refine zs_iconst (pc := 140) t304_140 (v := 5) (by decide) ?_
    refine zs_iload_n (pc := 141) t304_141 rfl ?_
    obtain ⟨w61v, w61e, w61⟩ := ziadd (a := (5 : Int32)) (b := a) li5 rfl (by omega) (by omega)
    refine zs_iadd (pc := 142) t304_142 (c := w61v) w61e ?_
    refine zs_iconst (pc := 143) t304_143 (v := 5) (by decide) ?_
    obtain ⟨w62v, w62e, w62⟩ := zisub (a := w61v) (b := (5 : Int32)) w61 li5 (by omega) (by omega)
    refine zs_isub (pc := 144) t304_144 (c := w62v) w62e ?_
    obtain ⟨w63n, w63⟩ : ∃ n : Nat, a.toInt = (n : Int) := ⟨(a.toInt).toNat, by omega⟩
    have w64 := zrg (zI M 337 w63n)
    refine zs_iald (pc := 145) t304_145 (j := w63n) (by decide) (zk1 (hs.k fk_zMm_337)) (show w62v.toInt = ((w63n : Nat) : Int) by omega) (zk2 (hs.k fk_zMm_337) (by omega)) rfl ?_
    refine zs_goto (pc := 146) t304_146 ?_
    exact zs_iret (pc := 150) t304_150 mr304 rfl (hQ _ _ hs hI (zFr.refl) pR pC pF)
  by_cases w65 : a.toInt = 14
  · refine zs_tswI (pc := 1) t304_1 ((rfl : a.toInt = a.toInt).trans w65) (by decide) rfl (pc2 := 112) rfl ?_
    refine zs_aload_n (pc := 112) t304_112 rfl ?_
    have w66 := ib336_1 hI
    refine zs_get (pc := 113) t304_113 (by decide) (zk1 (hs.k fk_zMm_336)) (zfvi rfl rfl) ?_
    exact zs_iret (pc := 116) t304_116 mr304 rfl (hQ _ _ hs hI (zFr.refl) pR pC pF)
  by_cases w67 : a.toInt = 15
  · refine zs_tswI (pc := 1) t304_1 ((rfl : a.toInt = a.toInt).trans w67) (by decide) rfl (pc2 := 117) rfl ?_
    refine zs_aload_n (pc := 117) t304_117 rfl ?_
    have w68 := ib336_5 hI
    refine zs_get (pc := 118) t304_118 (by decide) (zk1 (hs.k fk_zMm_336)) (zfvi rfl rfl) ?_
    exact zs_iret (pc := 121) t304_121 mr304 rfl (hQ _ _ hs hI (zFr.refl) pR pC pF)
  refine zs_tswD (pc := 1) t304_1 rfl (by omega) (pc2 := 122) rfl ?_
  refine zs_iload_n (pc := 122) t304_122 rfl ?_
  refine zs_i2l (pc := 123) t304_123 rfl ?_
  refine zs_ldc2_w (pc := 124) t304_124 (v := 5) (by decide) ?_
  refine zs_ldc2_w (pc := 127) t304_127 (v := 13) (by decide) ?_
  by_cases w69 : 5 ≤ a.toInt ∧ a.toInt ≤ 13
  · refine zs_invS (pc := 130) (as := [.long a.toInt64, .long (5 : Int64), .long (13 : Int64)]) (st := []) t304_130 (by decide) mf228 rfl rfl ⟨by decide, by decide, Nat.le_of_ble_eq_true rfl, Nat.le_of_ble_eq_true rfl⟩ (K228T (zi2l rfl) ll5 ll13 (by omega) ?_) (fun _ _ q => q)
    show zGo X l 3 0 0 304 133 [(0, .ref 336), (1, .int a)] [.int (1 : Int32)] M _
    refine zs_if_eqF (pc := 133) t304_133 li1 (by decide) ?_
    refine zs_aload_n (pc := 136) t304_136 rfl ?_
    refine zs_get (pc := 137) t304_137 (by decide) (zk1 (hs.k fk_zMm_336)) (hs.p rfl fv_zMm_336_0) ?_
    refine zs_iconst (pc := 140) t304_140 (v := 5) (by decide) ?_
    refine zs_iload_n (pc := 141) t304_141 rfl ?_
    obtain ⟨w70v, w70e, w70⟩ := ziadd (a := (5 : Int32)) (b := a) li5 rfl (by omega) (by omega)
    refine zs_iadd (pc := 142) t304_142 (c := w70v) w70e ?_
    refine zs_iconst (pc := 143) t304_143 (v := 5) (by decide) ?_
    obtain ⟨w71v, w71e, w71⟩ := zisub (a := w70v) (b := (5 : Int32)) w70 li5 (by omega) (by omega)
    refine zs_isub (pc := 144) t304_144 (c := w71v) w71e ?_
    obtain ⟨w72n, w72⟩ : ∃ n : Nat, a.toInt = (n : Int) := ⟨(a.toInt).toNat, by omega⟩
    have w73 := zrg (zI M 337 w72n)
    refine zs_iald (pc := 145) t304_145 (j := w72n) (by decide) (zk1 (hs.k fk_zMm_337)) (show w71v.toInt = ((w72n : Nat) : Int) by omega) (zk2 (hs.k fk_zMm_337) (by omega)) rfl ?_
    refine zs_goto (pc := 146) t304_146 ?_
    exact zs_iret (pc := 150) t304_150 mr304 rfl (hQ _ _ hs hI (zFr.refl) pR pC pF)
  · refine zs_invS (pc := 130) (as := [.long a.toInt64, .long (5 : Int64), .long (13 : Int64)]) (st := []) t304_130 (by decide) mf228 rfl rfl ⟨by decide, by decide, Nat.le_of_ble_eq_true rfl, Nat.le_of_ble_eq_true rfl⟩ (K228F (zi2l rfl) ll5 ll13 (by omega) ?_) (fun _ _ q => q)
    show zGo X l 3 0 0 304 133 [(0, .ref 336), (1, .int a)] [.int (0 : Int32)] M _
    refine zs_if_eqT (pc := 133) t304_133 li0 (by decide) ?_
    refine zs_iconst (pc := 149) t304_149 (v := -1) (by decide) ?_
    exact zs_iret (pc := 150) t304_150 mr304 (by decide) (hQ _ _ hs hI (zFr.refl) pR pC pF)
theorem K305 {X : zX} {l : Launch} {M : zM} {Q : Option Value → zM → Prop} {a b : Int32} (hs : zSk zMm M) (hI : zIv mLo mHi M) (pR : zPR M) (pC : zPC M) (pF : zPF M) (hQ : ∀ (M' : zM) (v : Int32), zSk zMm M' → zIv mLo mHi M' → zFr [(336, 363, none)] M M' → zPR M' → zPC M' → zPF M' → Q (some (.int v)) M') : zCall X l 3 0 0 305 [.ref 336, .int a, .int b] M Q := by
  have ga := zrg a
  have gb := zrg b
  refine zs_in (by decide) mf305 (Nat.le_of_ble_eq_true rfl) ?_
  show zGo X l 3 0 0 305 0 [(0, .ref 336), (1, .int a), (2, .int b)] [] M _
  refine zs_aload_n (pc := 0) t305_0 rfl ?_
  refine zs_iload_n (pc := 1) t305_1 rfl ?_
  refine zs_invV (pc := 2) (k := 336) (as' := [.int a]) (st := []) t305_2 mf306 rfl rfl (Or.inl ⟨by decide, (zk1 (hs.k fk_zMm_336))⟩) ⟨by decide, by decide, Nat.le_of_ble_eq_true rfl, Nat.le_of_ble_eq_true rfl⟩ (zs_in (by decide) mf306 (Nat.le_of_ble_eq_true rfl) ?_) (fun _ _ q => q)
  show zGo X l 1 0 0 306 0 [(0, .ref 336), (1, .int a)] [] M _
  refine zs_iload_n (pc := 0) t306_0 rfl ?_
  refine zs_i2l (pc := 1) t306_1 rfl ?_
  refine zs_lconst (pc := 2) t306_2 (v := 0) (by decide) ?_
  refine zs_aload_n (pc := 3) t306_3 rfl ?_
  refine zs_get (pc := 4) t306_4 (by decide) (zk1 (hs.k fk_zMm_336)) (hs.p rfl fv_zMm_336_0) ?_
  refine zs_iconst (pc := 7) t306_7 (v := 0) (by decide) ?_
  have w1 := ibA0 hI
  refine zs_iald (pc := 8) t306_8 (j := 0) (by decide) (zk1 (hs.k fk_zMm_337)) li0 (zk2 (hs.k fk_zMm_337) (by decide)) rfl ?_
  refine zs_iconst (pc := 9) t306_9 (v := 1) (by decide) ?_
  obtain ⟨w2v, w2e, w2⟩ := zisub (a := (zI M 337 0)) (b := (1 : Int32)) rfl li1 (by omega) (by omega)
  refine zs_isub (pc := 10) t306_10 (c := w2v) w2e ?_
  refine zs_i2l (pc := 11) t306_11 rfl ?_
  by_cases w3 : 0 ≤ a.toInt ∧ a.toInt ≤ ((zI M 337 0).toInt - 1)
  · refine zs_invS (pc := 12) (as := [.long a.toInt64, .long (0 : Int64), .long w2v.toInt64]) (st := []) t306_12 (by decide) mf228 rfl rfl ⟨by decide, by decide, Nat.le_of_ble_eq_true rfl, Nat.le_of_ble_eq_true rfl⟩ (K228T (zi2l rfl) ll0 (zi2l w2) (by omega) ?_) (fun _ _ q => q)
    show zGo X l 1 0 0 306 15 [(0, .ref 336), (1, .int a)] [.int (1 : Int32)] M _
    refine zs_iret (pc := 15) t306_15 mr306 (by decide) ?_
    show zGo X l 3 0 0 305 5 [(0, .ref 336), (1, .int a), (2, .int b)] [.int (1 : Int32)] M _
    refine zs_if_neT (pc := 5) t305_5 li1 (by decide) ?_
    refine zs_iload_n (pc := 10) t305_10 rfl ?_
    by_cases w4 : b.toInt ≠ 0
    · refine zs_if_neT (pc := 11) t305_11 rfl (by omega) ?_
      refine zs_iload_n (pc := 22) t305_22 rfl ?_
      refine zs_iconst (pc := 23) t305_23 (v := 1) (by decide) ?_
      by_cases w5 : b.toInt ≠ 1
      · refine zs_icmp_neT (pc := 24) t305_24 rfl li1 (by omega) ?_
        refine zs_iload_n (pc := 43) t305_43 rfl ?_
        refine zs_iconst (pc := 44) t305_44 (v := 2) (by decide) ?_
        by_cases w6 : b.toInt ≠ 2
        · refine zs_icmp_neT (pc := 45) t305_45 rfl li2 (by omega) ?_
          refine zs_iconst (pc := 56) t305_56 (v := -1) (by decide) ?_
          exact zs_iret (pc := 57) t305_57 mr305 (by decide) (hQ _ _ hs hI (zFr.refl) pR pC pF)
        · refine zs_icmp_neF (pc := 45) t305_45 rfl li2 (by omega) ?_
          refine zs_aload_n (pc := 48) t305_48 rfl ?_
          refine zs_iload_n (pc := 49) t305_49 rfl ?_
          refine zs_invV (pc := 50) (k := 336) (as' := [.int a]) (st := []) t305_50 mf290 rfl rfl (Or.inl ⟨by decide, (zk1 (hs.k fk_zMm_336))⟩) ⟨by decide, by decide, Nat.le_of_ble_eq_true rfl, Nat.le_of_ble_eq_true rfl⟩ (K290 hs hI ?_) (fun _ _ q => q)
          intro w7v
          have w7g := zrg w7v
          show zGo X l 3 0 0 305 53 [(0, .ref 336), (1, .int a), (2, .int b)] [.int w7v] M _
          refine zs_goto (pc := 53) t305_53 ?_
          exact zs_iret (pc := 57) t305_57 mr305 rfl (hQ _ _ hs hI (zFr.refl) pR pC pF)
      · refine zs_icmp_neF (pc := 24) t305_24 rfl li1 (by omega) ?_
        refine zs_aload_n (pc := 27) t305_27 rfl ?_
        refine zs_get (pc := 28) t305_28 (by decide) (zk1 (hs.k fk_zMm_336)) (hs.p rfl fv_zMm_336_0) ?_
        refine zs_bipush (pc := 31) t305_31 (v := 14) (by decide) ?_
        refine zs_iconst (pc := 33) t305_33 (v := 2) (by decide) ?_
        refine zs_iload_n (pc := 34) t305_34 rfl ?_
        obtain ⟨w8v, w8⟩ : ∃ v, (2 : Int32) * a = v := ⟨_, rfl⟩
        have w8g : w8v.toInt = 2 * a.toInt := by rw [← w8]; exact zmulc li2 rfl (by omega) (by omega)
        refine zs_imul (pc := 35) t305_35 (c := w8v) w8 ?_
        obtain ⟨w9v, w9e, w9⟩ := ziadd (a := (14 : Int32)) (b := w8v) li14 w8g (by omega) (by omega)
        refine zs_iadd (pc := 36) t305_36 (c := w9v) w9e ?_
        refine zs_iconst (pc := 37) t305_37 (v := 1) (by decide) ?_
        obtain ⟨w10v, w10e, w10⟩ := ziadd (a := w9v) (b := (1 : Int32)) w9 li1 (by omega) (by omega)
        refine zs_iadd (pc := 38) t305_38 (c := w10v) w10e ?_
        obtain ⟨w11n, w11⟩ : ∃ n : Nat, a.toInt = (n : Int) := ⟨(a.toInt).toNat, by omega⟩
        have w12 := zrg (zI M 337 (15 + 2 * w11n))
        refine zs_iald (pc := 39) t305_39 (j := (15 + 2 * w11n)) (by decide) (zk1 (hs.k fk_zMm_337)) (show w10v.toInt = (((15 + 2 * w11n) : Nat) : Int) by omega) (zk2 (hs.k fk_zMm_337) (by omega)) rfl ?_
        refine zs_goto (pc := 40) t305_40 ?_
        exact zs_iret (pc := 57) t305_57 mr305 rfl (hQ _ _ hs hI (zFr.refl) pR pC pF)
    · refine zs_if_neF (pc := 11) t305_11 rfl (by omega) ?_
      refine zs_aload_n (pc := 14) t305_14 rfl ?_
      refine zs_iload_n (pc := 15) t305_15 rfl ?_
      refine zs_invV (pc := 16) (k := 336) (as' := [.int a]) (st := []) t305_16 mf241 rfl rfl (Or.inl ⟨by decide, (zk1 (hs.k fk_zMm_336))⟩) ⟨by decide, by decide, Nat.le_of_ble_eq_true rfl, Nat.le_of_ble_eq_true rfl⟩ (zs_in (by decide) mf241 (Nat.le_of_ble_eq_true rfl) ?_) (fun _ _ q => q)
      show zGo X l 0 0 0 241 0 [(0, .ref 336), (1, .int a)] [] M _
      refine zs_aload_n (pc := 0) t241_0 rfl ?_
      refine zs_get (pc := 1) t241_1 (by decide) (zk1 (hs.k fk_zMm_336)) (hs.p rfl fv_zMm_336_0) ?_
      refine zs_bipush (pc := 4) t241_4 (v := 14) (by decide) ?_
      refine zs_iconst (pc := 6) t241_6 (v := 2) (by decide) ?_
      refine zs_iload_n (pc := 7) t241_7 rfl ?_
      obtain ⟨w13v, w13⟩ : ∃ v, (2 : Int32) * a = v := ⟨_, rfl⟩
      have w13g : w13v.toInt = 2 * a.toInt := by rw [← w13]; exact zmulc li2 rfl (by omega) (by omega)
      refine zs_imul (pc := 8) t241_8 (c := w13v) w13 ?_
      obtain ⟨w14v, w14e, w14⟩ := ziadd (a := (14 : Int32)) (b := w13v) li14 w13g (by omega) (by omega)
      refine zs_iadd (pc := 9) t241_9 (c := w14v) w14e ?_
      obtain ⟨w15n, w15⟩ : ∃ n : Nat, a.toInt = (n : Int) := ⟨(a.toInt).toNat, by omega⟩
      have w16 := ibX (j := (14 + 2 * w15n)) hI (by omega) (by omega) (by omega)
      refine zs_iald (pc := 10) t241_10 (j := (14 + 2 * w15n)) (by decide) (zk1 (hs.k fk_zMm_337)) (show w14v.toInt = (((14 + 2 * w15n) : Nat) : Int) by omega) (zk2 (hs.k fk_zMm_337) (by omega)) rfl ?_
      refine zs_iret (pc := 11) t241_11 mr241 rfl ?_
      show zGo X l 3 0 0 305 19 [(0, .ref 336), (1, .int a), (2, .int b)] [.int (zI M 337 (14 + 2 * w15n))] M _
      refine zs_goto (pc := 19) t305_19 ?_
      exact zs_iret (pc := 57) t305_57 mr305 rfl (hQ _ _ hs hI (zFr.refl) pR pC pF)
  · refine zs_invS (pc := 12) (as := [.long a.toInt64, .long (0 : Int64), .long w2v.toInt64]) (st := []) t306_12 (by decide) mf228 rfl rfl ⟨by decide, by decide, Nat.le_of_ble_eq_true rfl, Nat.le_of_ble_eq_true rfl⟩ (K228F (zi2l rfl) ll0 (zi2l w2) (by omega) ?_) (fun _ _ q => q)
    show zGo X l 1 0 0 306 15 [(0, .ref 336), (1, .int a)] [.int (0 : Int32)] M _
    refine zs_iret (pc := 15) t306_15 mr306 (by decide) ?_
    show zGo X l 3 0 0 305 5 [(0, .ref 336), (1, .int a), (2, .int b)] [.int (0 : Int32)] M _
    refine zs_if_neF (pc := 5) t305_5 li0 (by decide) ?_
    refine zs_iconst (pc := 8) t305_8 (v := -1) (by decide) ?_
    exact zs_iret (pc := 9) t305_9 mr305 (by decide) (hQ _ _ hs hI (zFr.refl) pR pC pF)
theorem K267 {X : zX} {l : Launch} {M : zM} {Q : Option Value → zM → Prop} {a : Int32} (hs : zSk zMm M) (hI : zIv mLo mHi M) (pR : zPR M) (pF : zPF M) (hQ : ∀ (M' : zM) (v : Int32), zSk zMm M' → zIv mLo mHi M' → zFr [(344, 344, none), (349, 349, none), (350, 350, none), (343, 343, none), (345, 345, none), (346, 346, none), (347, 347, none), (348, 348, none), (336, 336, some 22), (336, 336, some 18), (336, 336, some 19), (336, 336, some 20), (336, 336, some 21), (351, 354, none), (358, 358, none), (336, 336, some 37), (356, 356, none), (355, 355, none), (343, 343, none), (344, 344, none), (336, 336, some 39), (359, 359, none), (336, 336, some 3)] M M' → zPF M' → zPD M' → zPV M' → Q (some (.int v)) M') : zCall X l 7 0 0 267 [.ref 336, .int a] M Q := by
  have ga := zrg a
  refine zs_in (by decide) mf267 (Nat.le_of_ble_eq_true rfl) ?_
  show zGo X l 7 0 0 267 0 [(0, .ref 336), (1, .int a)] [] M _
  refine zs_aload_n (pc := 0) t267_0 rfl ?_
  refine zs_invV (pc := 1) (k := 336) (as' := []) (st := []) t267_1 mf268 rfl rfl (Or.inl ⟨by decide, (zk1 (hs.k fk_zMm_336))⟩) ⟨by decide, by decide, Nat.le_of_ble_eq_true rfl, Nat.le_of_ble_eq_true rfl⟩ (K268 hs hI pR pF ?_) (fun _ _ q => q)
  intro w1M w1s w1I w1F w1PF w1PD w1PV
  show zGo X l 7 0 0 267 4 [(0, .ref 336), (1, .int a)] [] w1M _
  refine zs_iload_n (pc := 4) t267_4 rfl ?_
  by_cases w2 : a.toInt = 0
  · refine zs_tswI (pc := 5) t267_5 ((rfl : a.toInt = a.toInt).trans w2) (by decide) rfl (pc2 := 48) rfl ?_
    refine zs_aload_n (pc := 48) t267_48 rfl ?_
    have w3 := ib336_22 w1I
    refine zs_get (pc := 49) t267_49 (by decide) (zk1 (w1s.k fk_zMm_336)) (zfvi rfl rfl) ?_
    exact zs_iret (pc := 52) t267_52 mr267 rfl (hQ _ _ w1s w1I ((zFr.refl).trans (w1F.mono rfl)) w1PF w1PD w1PV)
  by_cases w4 : a.toInt = 1
  · refine zs_tswI (pc := 5) t267_5 ((rfl : a.toInt = a.toInt).trans w4) (by decide) rfl (pc2 := 53) rfl ?_
    refine zs_aload_n (pc := 53) t267_53 rfl ?_
    refine zs_iconst (pc := 54) t267_54 (v := -1) (by decide) ?_
    refine zs_invV (pc := 55) (k := 336) (as' := [.int (-1 : Int32)]) (st := []) t267_55 mf290 rfl rfl (Or.inl ⟨by decide, (zk1 (w1s.k fk_zMm_336))⟩) ⟨by decide, by decide, Nat.le_of_ble_eq_true rfl, Nat.le_of_ble_eq_true rfl⟩ (K290 w1s w1I ?_) (fun _ _ q => q)
    intro w5v
    have w5g := zrg w5v
    show zGo X l 7 0 0 267 58 [(0, .ref 336), (1, .int a)] [.int w5v] w1M _
    exact zs_iret (pc := 58) t267_58 mr267 rfl (hQ _ _ w1s w1I ((zFr.refl).trans (w1F.mono rfl)) w1PF w1PD w1PV)
  by_cases w6 : a.toInt = 2
  · refine zs_tswI (pc := 5) t267_5 ((rfl : a.toInt = a.toInt).trans w6) (by decide) rfl (pc2 := 59) rfl ?_
    refine zs_aload_n (pc := 59) t267_59 rfl ?_
    have w7 := ib336_37 w1I
    refine zs_get (pc := 60) t267_60 (by decide) (zk1 (w1s.k fk_zMm_336)) (zfvi rfl rfl) ?_
    exact zs_iret (pc := 63) t267_63 mr267 rfl (hQ _ _ w1s w1I ((zFr.refl).trans (w1F.mono rfl)) w1PF w1PD w1PV)
  by_cases w8 : a.toInt = 3
  · refine zs_tswI (pc := 5) t267_5 ((rfl : a.toInt = a.toInt).trans w8) (by decide) rfl (pc2 := 64) rfl ?_
    refine zs_aload_n (pc := 64) t267_64 rfl ?_
    have w9 := ib336_39 w1I
    refine zs_get (pc := 65) t267_65 (by decide) (zk1 (w1s.k fk_zMm_336)) (zfvi rfl rfl) ?_
    exact zs_iret (pc := 68) t267_68 mr267 rfl (hQ _ _ w1s w1I ((zFr.refl).trans (w1F.mono rfl)) w1PF w1PD w1PV)
  by_cases w10 : a.toInt = 4
  · refine zs_tswI (pc := 5) t267_5 ((rfl : a.toInt = a.toInt).trans w10) (by decide) rfl (pc2 := 69) rfl ?_
    refine zs_aload_n (pc := 69) t267_69 rfl ?_
    refine zs_aload_n (pc := 70) t267_70 rfl ?_
    refine zs_get (pc := 71) t267_71 (by decide) (zk1 (w1s.k fk_zMm_336)) (w1s.p rfl fv_zMm_336_26) ?_
    refine zs_aload_n (pc := 74) t267_74 rfl ?_
    have w11 := ib336_22 w1I
    refine zs_get (pc := 75) t267_75 (by decide) (zk1 (w1s.k fk_zMm_336)) (zfvi rfl rfl) ?_
    refine zs_invV (pc := 78) (k := 336) (as' := [.ref 348, .int (zI w1M 336 22)]) (st := []) t267_78 mf291 rfl rfl (Or.inl ⟨by decide, (zk1 (w1s.k fk_zMm_336))⟩) ⟨by decide, by decide, Nat.le_of_ble_eq_true rfl, Nat.le_of_ble_eq_true rfl⟩ (K291_348 w1s w1I ⟨by omega, by omega⟩ ?_) (fun _ _ q => q)
    intro w12v
    have w12g := zrg w12v
    show zGo X l 7 0 0 267 81 [(0, .ref 336), (1, .int a)] [.int w12v] w1M _
    exact zs_iret (pc := 81) t267_81 mr267 rfl (hQ _ _ w1s w1I ((zFr.refl).trans (w1F.mono rfl)) w1PF w1PD w1PV)
  by_cases w13 : a.toInt = 5
  · refine zs_tswI (pc := 5) t267_5 ((rfl : a.toInt = a.toInt).trans w13) (by decide) rfl (pc2 := 82) rfl ?_
    refine zs_aload_n (pc := 82) t267_82 rfl ?_
    refine zs_invV (pc := 83) (k := 336) (as' := []) (st := []) t267_83 mf292 rfl rfl (Or.inl ⟨by decide, (zk1 (w1s.k fk_zMm_336))⟩) ⟨by decide, by decide, Nat.le_of_ble_eq_true rfl, Nat.le_of_ble_eq_true rfl⟩ (K292 w1s w1I ?_) (fun _ _ q => q)
    intro w14v
    have w14g := zrg w14v
    show zGo X l 7 0 0 267 86 [(0, .ref 336), (1, .int a)] [.int w14v] w1M _
    exact zs_iret (pc := 86) t267_86 mr267 rfl (hQ _ _ w1s w1I ((zFr.refl).trans (w1F.mono rfl)) w1PF w1PD w1PV)
  by_cases w15 : a.toInt = 6
  · refine zs_tswI (pc := 5) t267_5 ((rfl : a.toInt = a.toInt).trans w15) (by decide) rfl (pc2 := 87) rfl ?_
    refine zs_aload_n (pc := 87) t267_87 rfl ?_
    refine zs_invV (pc := 88) (k := 336) (as' := []) (st := []) t267_88 mf293 rfl rfl (Or.inl ⟨by decide, (zk1 (w1s.k fk_zMm_336))⟩) ⟨by decide, by decide, Nat.le_of_ble_eq_true rfl, Nat.le_of_ble_eq_true rfl⟩ (K293 w1s w1I ?_) (fun _ _ q => q)
    intro w16v
    have w16g := zrg w16v
    show zGo X l 7 0 0 267 91 [(0, .ref 336), (1, .int a)] [.int w16v] w1M _
    exact zs_iret (pc := 91) t267_91 mr267 rfl (hQ _ _ w1s w1I ((zFr.refl).trans (w1F.mono rfl)) w1PF w1PD w1PV)
  refine zs_tswD (pc := 5) t267_5 rfl (by omega) (pc2 := 92) rfl ?_
  refine zs_aload_n (pc := 92) t267_92 rfl ?_
  refine zs_aload_n (pc := 93) t267_93 rfl ?_
  refine zs_get (pc := 94) t267_94 (by decide) (zk1 (w1s.k fk_zMm_336)) (w1s.p rfl fv_zMm_336_34) ?_
  refine zs_aload_n (pc := 97) t267_97 rfl ?_
  have w17 := ib336_37 w1I
  refine zs_get (pc := 98) t267_98 (by decide) (zk1 (w1s.k fk_zMm_336)) (zfvi rfl rfl) ?_
  refine zs_invV (pc := 101) (k := 336) (as' := [.ref 356, .int (zI w1M 336 37)]) (st := []) t267_101 mf291 rfl rfl (Or.inl ⟨by decide, (zk1 (w1s.k fk_zMm_336))⟩) ⟨by decide, by decide, Nat.le_of_ble_eq_true rfl, Nat.le_of_ble_eq_true rfl⟩ (K291_356 w1s w1I ⟨by omega, by omega⟩ ?_) (fun _ _ q => q)
  intro w18v
  have w18g := zrg w18v
  show zGo X l 7 0 0 267 104 [(0, .ref 336), (1, .int a)] [.int w18v] w1M _
  exact zs_iret (pc := 104) t267_104 mr267 rfl (hQ _ _ w1s w1I ((zFr.refl).trans (w1F.mono rfl)) w1PF w1PD w1PV)
theorem K322 {X : zX} {l : Launch} {M : zM} {Q : Option Value → zM → Prop} (hs : zSk zMm M) (hI : zIv mLo mHi M) (pR : zPR M) (pF : zPF M) (hQ : ∀ (M' : zM) (v : Int32), zSk zMm M' → zIv mLo mHi M' → zFr [(344, 344, none), (349, 349, none), (350, 350, none), (343, 343, none), (345, 345, none), (346, 346, none), (347, 347, none), (348, 348, none), (336, 336, some 22), (336, 336, some 18), (336, 336, some 19), (336, 336, some 20), (336, 336, some 21), (351, 354, none), (358, 358, none), (336, 336, some 37), (356, 356, none), (355, 355, none), (343, 343, none), (344, 344, none), (336, 336, some 39), (359, 359, none), (336, 336, some 3)] M M' → zPF M' → zPD M' → zPV M' → Q (some (.int v)) M') : zCall X l 7 0 0 322 [.ref 336] M Q := by
  refine zs_in (by decide) mf322 (Nat.le_of_ble_eq_true rfl) ?_
  show zGo X l 7 0 0 322 0 [(0, .ref 336)] [] M _
  refine zs_aload_n (pc := 0) t322_0 rfl ?_
  refine zs_invV (pc := 1) (k := 336) (as' := []) (st := []) t322_1 mf268 rfl rfl (Or.inl ⟨by decide, (zk1 (hs.k fk_zMm_336))⟩) ⟨by decide, by decide, Nat.le_of_ble_eq_true rfl, Nat.le_of_ble_eq_true rfl⟩ (K268 hs hI pR pF ?_) (fun _ _ q => q)
  intro w1M w1s w1I w1F w1PF w1PD w1PV
  show zGo X l 7 0 0 322 4 [(0, .ref 336)] [] w1M _
  refine zs_aload_n (pc := 4) t322_4 rfl ?_
  refine zs_iconst (pc := 5) t322_5 (v := -1) (by decide) ?_
  refine zs_invV (pc := 6) (k := 336) (as' := [.int (-1 : Int32)]) (st := []) t322_6 mf290 rfl rfl (Or.inl ⟨by decide, (zk1 (w1s.k fk_zMm_336))⟩) ⟨by decide, by decide, Nat.le_of_ble_eq_true rfl, Nat.le_of_ble_eq_true rfl⟩ (K290 w1s w1I ?_) (fun _ _ q => q)
  intro w2v
  have w2g := zrg w2v
  show zGo X l 7 0 0 322 9 [(0, .ref 336)] [.int w2v] w1M _
  refine zs_iconst (pc := 9) t322_9 (v := 2) (by decide) ?_
  refine zs_aload_n (pc := 10) t322_10 rfl ?_
  refine zs_get (pc := 11) t322_11 (by decide) (zk1 (w1s.k fk_zMm_336)) (w1s.p rfl fv_zMm_336_0) ?_
  refine zs_iconst (pc := 14) t322_14 (v := 5) (by decide) ?_
  have w3 := ibA5 hI
  refine zs_iald (pc := 15) t322_15 (j := 5) (by decide) (zk1 (w1s.k fk_zMm_337)) li5 (zk2 (w1s.k fk_zMm_337) (by decide)) ((w1F 337 5 rfl).trans rfl) ?_
  obtain ⟨w4v, w4⟩ : ∃ v, (2 : Int32) * (zI M 337 5) = v := ⟨_, rfl⟩
  have w4g : w4v.toInt = 2 * (zI M 337 5).toInt := by rw [← w4]; exact zmulc li2 rfl (by omega) (by omega)
  refine zs_imul (pc := 16) t322_16 (c := w4v) w4 ?_
  refine zs_iconst (pc := 17) t322_17 (v := 1) (by decide) ?_
  obtain ⟨w5v, w5e, w5⟩ := ziadd (a := w4v) (b := (1 : Int32)) w4g li1 (by omega) (by omega)
  refine zs_iadd (pc := 18) t322_18 (c := w5v) w5e ?_
  obtain ⟨w6v, w6⟩ : ∃ v, w2v * w5v = v := ⟨_, rfl⟩
  have w6g := zrg w6v
  refine zs_imul (pc := 19) t322_19 (c := w6v) w6 ?_
  refine zs_iconst (pc := 20) t322_20 (v := 2) (by decide) ?_
  refine zs_aload_n (pc := 21) t322_21 rfl ?_
  refine zs_get (pc := 22) t322_22 (by decide) (zk1 (w1s.k fk_zMm_336)) (w1s.p rfl fv_zMm_336_0) ?_
  refine zs_bipush (pc := 25) t322_25 (v := 6) (by decide) ?_
  have w7 := ibA6 hI
  refine zs_iald (pc := 27) t322_27 (j := 6) (by decide) (zk1 (w1s.k fk_zMm_337)) li6 (zk2 (w1s.k fk_zMm_337) (by decide)) ((w1F 337 6 rfl).trans rfl) ?_
  obtain ⟨w8v, w8⟩ : ∃ v, (2 : Int32) * (zI M 337 6) = v := ⟨_, rfl⟩
  have w8g : w8v.toInt = 2 * (zI M 337 6).toInt := by rw [← w8]; exact zmulc li2 rfl (by omega) (by omega)
  refine zs_imul (pc := 28) t322_28 (c := w8v) w8 ?_
  refine zs_iconst (pc := 29) t322_29 (v := 1) (by decide) ?_
  obtain ⟨w9v, w9e, w9⟩ := ziadd (a := w8v) (b := (1 : Int32)) w8g li1 (by omega) (by omega)
  refine zs_iadd (pc := 30) t322_30 (c := w9v) w9e ?_
  obtain ⟨w10v, w10⟩ : ∃ v, w6v * w9v = v := ⟨_, rfl⟩
  have w10g := zrg w10v
  refine zs_imul (pc := 31) t322_31 (c := w10v) w10 ?_
  refine zs_bipush (pc := 32) t322_32 (v := 10) (by decide) ?_
  refine zs_aload_n (pc := 34) t322_34 rfl ?_
  have w11 := ib336_22 w1I
  refine zs_get (pc := 35) t322_35 (by decide) (zk1 (w1s.k fk_zMm_336)) (zfvi rfl rfl) ?_
  obtain ⟨w12v, w12⟩ : ∃ v, (10 : Int32) * (zI w1M 336 22) = v := ⟨_, rfl⟩
  have w12g : w12v.toInt = 10 * (zI w1M 336 22).toInt := by rw [← w12]; exact zmulc li10 rfl (by omega) (by omega)
  refine zs_imul (pc := 38) t322_38 (c := w12v) w12 ?_
  obtain ⟨w13v, w13⟩ : ∃ v, v = w10v + w12v := ⟨_, rfl⟩
  have w13g := zrg w13v
  refine zs_iadd (pc := 39) t322_39 (c := w13v) w13.symm ?_
  exact zs_iret (pc := 40) t322_40 mr322 rfl (hQ _ _ w1s w1I ((zFr.refl).trans (w1F.mono rfl)) w1PF w1PD w1PV)
theorem K299 {X : zX} {l : Launch} {M : zM} {Q : Option Value → zM → Prop} {aL bL : Int64} (hs : zSk zMm M) (hI : zIv mLo mHi M) (x0 : bL.toInt ≠ 0) (hQ : ∀ v : Int64, (v.toInt ≠ 0) → Q (some (.long v)) M) : zCall X l 0 0 0 299 [.long aL, .long bL] M Q := by
  have gaL := zrg64 aL
  have gbL := zrg64 bL
  refine zs_in (by decide) mf299 (Nat.le_of_ble_eq_true rfl) ?_
  show zGo X l 0 0 0 299 0 [(0, .long aL), (2, .long bL)] [] M _
  refine zs_lload_n (pc := 0) t299_0 rfl ?_
  refine zs_lconst (pc := 1) t299_1 (v := 0) (by decide) ?_
  by_cases w1 : aL.toInt < 0
  · refine zs_lcmp (pc := 2) t299_2 (c := -1) (zlcL rfl ll0 (by omega)) ?_
    refine zs_if_geF (pc := 3) t299_3 lin1 (by decide) ?_
    refine zs_lload_n (pc := 6) t299_6 rfl ?_
    obtain ⟨w2v, w2⟩ : ∃ v, -aL = v := ⟨_, rfl⟩
    have w2g := zrg64 w2v
    have w2z := zlneg0 w2
    refine zs_lneg (pc := 7) t299_7 (c := w2v) w2 ?_
    refine zs_goto (pc := 8) t299_8 ?_
    refine zs_lstore (pc := 12) t299_12 (ls' := [(4, .long w2v), (0, .long aL), (2, .long bL)]) (zml mf299 (by decide)) rfl ?_
    refine zs_lload_n (pc := 14) t299_14 rfl ?_
    refine zs_lconst (pc := 15) t299_15 (v := 0) (by decide) ?_
    by_cases w3 : bL.toInt < 0
    · refine zs_lcmp (pc := 16) t299_16 (c := -1) (zlcL rfl ll0 (by omega)) ?_
      refine zs_if_geF (pc := 17) t299_17 lin1 (by decide) ?_
      refine zs_lload_n (pc := 20) t299_20 rfl ?_
      obtain ⟨w4v, w4⟩ : ∃ v, -bL = v := ⟨_, rfl⟩
      have w4g := zrg64 w4v
      have w4z := zlneg0 w4
      refine zs_lneg (pc := 21) t299_21 (c := w4v) w4 ?_
      refine zs_goto (pc := 22) t299_22 ?_
      refine zs_lstore (pc := 26) t299_26 (ls' := [(6, .long w4v), (4, .long w2v), (0, .long aL), (2, .long bL)]) (zml mf299 (by decide)) rfl ?_
      have w5L : ∀ (m : Nat) (w5x4 : Int64) (w5x6 : Int64), (w5x4.toInt ≠ 0 ∨ w5x6.toInt ≠ 0) → max w5x6.toInt (-w5x6.toInt) ≤ (m : Int) → zGo X l 0 0 0 299 28 [(0, .long aL), (2, .long bL), (4, .long w5x4), (6, .long w5x6)] [] M Q := by
        intro m
        induction m using Nat.strongRecOn with
        | ind w5m w5ih =>
          intro w5x4 w5x6 w5r0 w5q
          have w5g4 := zrg64 w5x4
          have w5g6 := zrg64 w5x6
          refine zs_lload (pc := 28) t299_28 rfl ?_
          refine zs_lconst (pc := 30) t299_30 (v := 0) (by decide) ?_
          by_cases w6 : w5x6.toInt < 0
          · refine zs_lcmp (pc := 31) t299_31 (c := -1) (zlcL rfl ll0 (by omega)) ?_
            refine zs_if_eqF (pc := 32) t299_32 lin1 (by decide) ?_
            refine zs_lload (pc := 35) t299_35 rfl ?_
            refine zs_lload (pc := 37) t299_37 rfl ?_
            obtain ⟨w7v, w7⟩ : ∃ v, w5x4 - w5x4 / w5x6 * w5x6 = v := ⟨_, rfl⟩
            have w7g := zrg64 w7v
            refine zs_lrem (pc := 39) t299_39 (znz64 rfl (by omega)) (c := w7v) w7 ?_
            refine zs_lstore (pc := 40) t299_40 (ls' := [(8, .long w7v), (0, .long aL), (2, .long bL), (4, .long w5x4), (6, .long w5x6)]) (zml mf299 (by decide)) rfl ?_
            refine zs_lload (pc := 42) t299_42 rfl ?_
            refine zs_lstore (pc := 44) t299_44 (ls' := [(4, .long w5x6), (8, .long w7v), (0, .long aL), (2, .long bL), (6, .long w5x6)]) (zml mf299 (by decide)) rfl ?_
            refine zs_lload (pc := 46) t299_46 rfl ?_
            refine zs_lstore (pc := 48) t299_48 (ls' := [(6, .long w7v), (4, .long w5x6), (8, .long w7v), (0, .long aL), (2, .long bL)]) (zml mf299 (by decide)) rfl ?_
            refine zs_goto (pc := 50) t299_50 ?_
            refine zGo.locals (ls' := [(0, .long aL), (2, .long bL), (4, .long w5x6), (6, .long w7v)]) (by simp) ?_
            have w8 := zlrem w7 (by omega)
            exact w5ih (w5m - 1) (by omega) w5x6 w7v (by omega) (by omega)
          by_cases w9 : w5x6.toInt = 0
          · refine zs_lcmp (pc := 31) t299_31 (c := 0) (zlcE rfl ll0 (by omega)) ?_
            refine zs_if_eqT (pc := 32) t299_32 li0 (by decide) ?_
            refine zs_lload (pc := 53) t299_53 rfl ?_
            exact zs_lret (pc := 55) t299_55 mr299 (hQ _ (by omega))
          refine zs_lcmp (pc := 31) t299_31 (c := 1) (zlcG rfl ll0 (by omega)) ?_
          refine zs_if_eqF (pc := 32) t299_32 li1 (by decide) ?_
          refine zs_lload (pc := 35) t299_35 rfl ?_
          refine zs_lload (pc := 37) t299_37 rfl ?_
          obtain ⟨w11v, w11⟩ : ∃ v, w5x4 - w5x4 / w5x6 * w5x6 = v := ⟨_, rfl⟩
          have w11g := zrg64 w11v
          refine zs_lrem (pc := 39) t299_39 (znz64 rfl (by omega)) (c := w11v) w11 ?_
          refine zs_lstore (pc := 40) t299_40 (ls' := [(8, .long w11v), (0, .long aL), (2, .long bL), (4, .long w5x4), (6, .long w5x6)]) (zml mf299 (by decide)) rfl ?_
          refine zs_lload (pc := 42) t299_42 rfl ?_
          refine zs_lstore (pc := 44) t299_44 (ls' := [(4, .long w5x6), (8, .long w11v), (0, .long aL), (2, .long bL), (6, .long w5x6)]) (zml mf299 (by decide)) rfl ?_
          refine zs_lload (pc := 46) t299_46 rfl ?_
          refine zs_lstore (pc := 48) t299_48 (ls' := [(6, .long w11v), (4, .long w5x6), (8, .long w11v), (0, .long aL), (2, .long bL)]) (zml mf299 (by decide)) rfl ?_
          refine zs_goto (pc := 50) t299_50 ?_
          refine zGo.locals (ls' := [(0, .long aL), (2, .long bL), (4, .long w5x6), (6, .long w11v)]) (by simp) ?_
          have w12 := zlrem w11 (by omega)
          exact w5ih (w5m - 1) (by omega) w5x6 w11v (by omega) (by omega)
      refine zGo.locals (ls' := [(0, .long aL), (2, .long bL), (4, .long w2v), (6, .long w4v)]) (by simp) ?_
      exact w5L ((max w4v.toInt (-w4v.toInt) : Int).toNat) w2v w4v (by omega) (by omega)
    by_cases w13 : bL.toInt = 0
    · refine zs_lcmp (pc := 16) t299_16 (c := 0) (zlcE rfl ll0 (by omega)) ?_
      refine zs_if_geT (pc := 17) t299_17 li0 (by decide) ?_
      refine zs_lload_n (pc := 25) t299_25 rfl ?_
      refine zs_lstore (pc := 26) t299_26 (ls' := [(6, .long bL), (4, .long w2v), (0, .long aL), (2, .long bL)]) (zml mf299 (by decide)) rfl ?_
      have w14L : ∀ (m : Nat) (w14x4 : Int64) (w14x6 : Int64), (w14x4.toInt ≠ 0 ∨ w14x6.toInt ≠ 0) → max w14x6.toInt (-w14x6.toInt) ≤ (m : Int) → zGo X l 0 0 0 299 28 [(0, .long aL), (2, .long bL), (4, .long w14x4), (6, .long w14x6)] [] M Q := by
        intro m
        induction m using Nat.strongRecOn with
        | ind w14m w14ih =>
          intro w14x4 w14x6 w14r0 w14q
          have w14g4 := zrg64 w14x4
          have w14g6 := zrg64 w14x6
          refine zs_lload (pc := 28) t299_28 rfl ?_
          refine zs_lconst (pc := 30) t299_30 (v := 0) (by decide) ?_
          by_cases w15 : w14x6.toInt < 0
          · refine zs_lcmp (pc := 31) t299_31 (c := -1) (zlcL rfl ll0 (by omega)) ?_
            refine zs_if_eqF (pc := 32) t299_32 lin1 (by decide) ?_
            refine zs_lload (pc := 35) t299_35 rfl ?_
            refine zs_lload (pc := 37) t299_37 rfl ?_
            obtain ⟨w16v, w16⟩ : ∃ v, w14x4 - w14x4 / w14x6 * w14x6 = v := ⟨_, rfl⟩
            have w16g := zrg64 w16v
            refine zs_lrem (pc := 39) t299_39 (znz64 rfl (by omega)) (c := w16v) w16 ?_
            refine zs_lstore (pc := 40) t299_40 (ls' := [(8, .long w16v), (0, .long aL), (2, .long bL), (4, .long w14x4), (6, .long w14x6)]) (zml mf299 (by decide)) rfl ?_
            refine zs_lload (pc := 42) t299_42 rfl ?_
            refine zs_lstore (pc := 44) t299_44 (ls' := [(4, .long w14x6), (8, .long w16v), (0, .long aL), (2, .long bL), (6, .long w14x6)]) (zml mf299 (by decide)) rfl ?_
            refine zs_lload (pc := 46) t299_46 rfl ?_
            refine zs_lstore (pc := 48) t299_48 (ls' := [(6, .long w16v), (4, .long w14x6), (8, .long w16v), (0, .long aL), (2, .long bL)]) (zml mf299 (by decide)) rfl ?_
            refine zs_goto (pc := 50) t299_50 ?_
            refine zGo.locals (ls' := [(0, .long aL), (2, .long bL), (4, .long w14x6), (6, .long w16v)]) (by simp) ?_
            have w17 := zlrem w16 (by omega)
            exact w14ih (w14m - 1) (by omega) w14x6 w16v (by omega) (by omega)
          by_cases w18 : w14x6.toInt = 0
          · refine zs_lcmp (pc := 31) t299_31 (c := 0) (zlcE rfl ll0 (by omega)) ?_
            refine zs_if_eqT (pc := 32) t299_32 li0 (by decide) ?_
            refine zs_lload (pc := 53) t299_53 rfl ?_
            exact zs_lret (pc := 55) t299_55 mr299 (hQ _ (by omega))
          refine zs_lcmp (pc := 31) t299_31 (c := 1) (zlcG rfl ll0 (by omega)) ?_
          refine zs_if_eqF (pc := 32) t299_32 li1 (by decide) ?_
          refine zs_lload (pc := 35) t299_35 rfl ?_
          refine zs_lload (pc := 37) t299_37 rfl ?_
          obtain ⟨w20v, w20⟩ : ∃ v, w14x4 - w14x4 / w14x6 * w14x6 = v := ⟨_, rfl⟩
          have w20g := zrg64 w20v
          refine zs_lrem (pc := 39) t299_39 (znz64 rfl (by omega)) (c := w20v) w20 ?_
          refine zs_lstore (pc := 40) t299_40 (ls' := [(8, .long w20v), (0, .long aL), (2, .long bL), (4, .long w14x4), (6, .long w14x6)]) (zml mf299 (by decide)) rfl ?_
          refine zs_lload (pc := 42) t299_42 rfl ?_
          refine zs_lstore (pc := 44) t299_44 (ls' := [(4, .long w14x6), (8, .long w20v), (0, .long aL), (2, .long bL), (6, .long w14x6)]) (zml mf299 (by decide)) rfl ?_
          refine zs_lload (pc := 46) t299_46 rfl ?_
          refine zs_lstore (pc := 48) t299_48 (ls' := [(6, .long w20v), (4, .long w14x6), (8, .long w20v), (0, .long aL), (2, .long bL)]) (zml mf299 (by decide)) rfl ?_
          refine zs_goto (pc := 50) t299_50 ?_
          refine zGo.locals (ls' := [(0, .long aL), (2, .long bL), (4, .long w14x6), (6, .long w20v)]) (by simp) ?_
          have w21 := zlrem w20 (by omega)
          exact w14ih (w14m - 1) (by omega) w14x6 w20v (by omega) (by omega)
      refine zGo.locals (ls' := [(0, .long aL), (2, .long bL), (4, .long w2v), (6, .long bL)]) (by simp) ?_
      exact w14L ((max bL.toInt (-bL.toInt) : Int).toNat) w2v bL (by omega) (by omega)
    refine zs_lcmp (pc := 16) t299_16 (c := 1) (zlcG rfl ll0 (by omega)) ?_
    refine zs_if_geT (pc := 17) t299_17 li1 (by decide) ?_
    refine zs_lload_n (pc := 25) t299_25 rfl ?_
    refine zs_lstore (pc := 26) t299_26 (ls' := [(6, .long bL), (4, .long w2v), (0, .long aL), (2, .long bL)]) (zml mf299 (by decide)) rfl ?_
    have w23L : ∀ (m : Nat) (w23x4 : Int64) (w23x6 : Int64), (w23x4.toInt ≠ 0 ∨ w23x6.toInt ≠ 0) → max w23x6.toInt (-w23x6.toInt) ≤ (m : Int) → zGo X l 0 0 0 299 28 [(0, .long aL), (2, .long bL), (4, .long w23x4), (6, .long w23x6)] [] M Q := by
      intro m
      induction m using Nat.strongRecOn with
      | ind w23m w23ih =>
        intro w23x4 w23x6 w23r0 w23q
        have w23g4 := zrg64 w23x4
        have w23g6 := zrg64 w23x6
        refine zs_lload (pc := 28) t299_28 rfl ?_
        refine zs_lconst (pc := 30) t299_30 (v := 0) (by decide) ?_
        by_cases w24 : w23x6.toInt < 0
        · refine zs_lcmp (pc := 31) t299_31 (c := -1) (zlcL rfl ll0 (by omega)) ?_
          refine zs_if_eqF (pc := 32) t299_32 lin1 (by decide) ?_
          refine zs_lload (pc := 35) t299_35 rfl ?_
          refine zs_lload (pc := 37) t299_37 rfl ?_
          obtain ⟨w25v, w25⟩ : ∃ v, w23x4 - w23x4 / w23x6 * w23x6 = v := ⟨_, rfl⟩
          have w25g := zrg64 w25v
          refine zs_lrem (pc := 39) t299_39 (znz64 rfl (by omega)) (c := w25v) w25 ?_
          refine zs_lstore (pc := 40) t299_40 (ls' := [(8, .long w25v), (0, .long aL), (2, .long bL), (4, .long w23x4), (6, .long w23x6)]) (zml mf299 (by decide)) rfl ?_
          refine zs_lload (pc := 42) t299_42 rfl ?_
          refine zs_lstore (pc := 44) t299_44 (ls' := [(4, .long w23x6), (8, .long w25v), (0, .long aL), (2, .long bL), (6, .long w23x6)]) (zml mf299 (by decide)) rfl ?_
          refine zs_lload (pc := 46) t299_46 rfl ?_
          refine zs_lstore (pc := 48) t299_48 (ls' := [(6, .long w25v), (4, .long w23x6), (8, .long w25v), (0, .long aL), (2, .long bL)]) (zml mf299 (by decide)) rfl ?_
          refine zs_goto (pc := 50) t299_50 ?_
          refine zGo.locals (ls' := [(0, .long aL), (2, .long bL), (4, .long w23x6), (6, .long w25v)]) (by simp) ?_
          have w26 := zlrem w25 (by omega)
          exact w23ih (w23m - 1) (by omega) w23x6 w25v (by omega) (by omega)
        by_cases w27 : w23x6.toInt = 0
        · refine zs_lcmp (pc := 31) t299_31 (c := 0) (zlcE rfl ll0 (by omega)) ?_
          refine zs_if_eqT (pc := 32) t299_32 li0 (by decide) ?_
          refine zs_lload (pc := 53) t299_53 rfl ?_
          exact zs_lret (pc := 55) t299_55 mr299 (hQ _ (by omega))
        refine zs_lcmp (pc := 31) t299_31 (c := 1) (zlcG rfl ll0 (by omega)) ?_
        refine zs_if_eqF (pc := 32) t299_32 li1 (by decide) ?_
        refine zs_lload (pc := 35) t299_35 rfl ?_
        refine zs_lload (pc := 37) t299_37 rfl ?_
        obtain ⟨w29v, w29⟩ : ∃ v, w23x4 - w23x4 / w23x6 * w23x6 = v := ⟨_, rfl⟩
        have w29g := zrg64 w29v
        refine zs_lrem (pc := 39) t299_39 (znz64 rfl (by omega)) (c := w29v) w29 ?_
        refine zs_lstore (pc := 40) t299_40 (ls' := [(8, .long w29v), (0, .long aL), (2, .long bL), (4, .long w23x4), (6, .long w23x6)]) (zml mf299 (by decide)) rfl ?_
        refine zs_lload (pc := 42) t299_42 rfl ?_
        refine zs_lstore (pc := 44) t299_44 (ls' := [(4, .long w23x6), (8, .long w29v), (0, .long aL), (2, .long bL), (6, .long w23x6)]) (zml mf299 (by decide)) rfl ?_
        refine zs_lload (pc := 46) t299_46 rfl ?_
        refine zs_lstore (pc := 48) t299_48 (ls' := [(6, .long w29v), (4, .long w23x6), (8, .long w29v), (0, .long aL), (2, .long bL)]) (zml mf299 (by decide)) rfl ?_
        refine zs_goto (pc := 50) t299_50 ?_
        refine zGo.locals (ls' := [(0, .long aL), (2, .long bL), (4, .long w23x6), (6, .long w29v)]) (by simp) ?_
        have w30 := zlrem w29 (by omega)
        exact w23ih (w23m - 1) (by omega) w23x6 w29v (by omega) (by omega)
    refine zGo.locals (ls' := [(0, .long aL), (2, .long bL), (4, .long w2v), (6, .long bL)]) (by simp) ?_
    exact w23L ((max bL.toInt (-bL.toInt) : Int).toNat) w2v bL (by omega) (by omega)
  by_cases w31 : aL.toInt = 0
  · refine zs_lcmp (pc := 2) t299_2 (c := 0) (zlcE rfl ll0 (by omega)) ?_
    refine zs_if_geT (pc := 3) t299_3 li0 (by decide) ?_
    refine zs_lload_n (pc := 11) t299_11 rfl ?_
    refine zs_lstore (pc := 12) t299_12 (ls' := [(4, .long aL), (0, .long aL), (2, .long bL)]) (zml mf299 (by decide)) rfl ?_
    refine zs_lload_n (pc := 14) t299_14 rfl ?_
    refine zs_lconst (pc := 15) t299_15 (v := 0) (by decide) ?_
    by_cases w32 : bL.toInt < 0
    · refine zs_lcmp (pc := 16) t299_16 (c := -1) (zlcL rfl ll0 (by omega)) ?_
      refine zs_if_geF (pc := 17) t299_17 lin1 (by decide) ?_
      refine zs_lload_n (pc := 20) t299_20 rfl ?_
      obtain ⟨w33v, w33⟩ : ∃ v, -bL = v := ⟨_, rfl⟩
      have w33g := zrg64 w33v
      have w33z := zlneg0 w33
      refine zs_lneg (pc := 21) t299_21 (c := w33v) w33 ?_
      refine zs_goto (pc := 22) t299_22 ?_
      refine zs_lstore (pc := 26) t299_26 (ls' := [(6, .long w33v), (4, .long aL), (0, .long aL), (2, .long bL)]) (zml mf299 (by decide)) rfl ?_
      have w34L : ∀ (m : Nat) (w34x4 : Int64) (w34x6 : Int64), (w34x4.toInt ≠ 0 ∨ w34x6.toInt ≠ 0) → max w34x6.toInt (-w34x6.toInt) ≤ (m : Int) → zGo X l 0 0 0 299 28 [(0, .long aL), (2, .long bL), (4, .long w34x4), (6, .long w34x6)] [] M Q := by
        intro m
        induction m using Nat.strongRecOn with
        | ind w34m w34ih =>
          intro w34x4 w34x6 w34r0 w34q
          have w34g4 := zrg64 w34x4
          have w34g6 := zrg64 w34x6
          refine zs_lload (pc := 28) t299_28 rfl ?_
          refine zs_lconst (pc := 30) t299_30 (v := 0) (by decide) ?_
          by_cases w35 : w34x6.toInt < 0
          · refine zs_lcmp (pc := 31) t299_31 (c := -1) (zlcL rfl ll0 (by omega)) ?_
            refine zs_if_eqF (pc := 32) t299_32 lin1 (by decide) ?_
            refine zs_lload (pc := 35) t299_35 rfl ?_
            refine zs_lload (pc := 37) t299_37 rfl ?_
            obtain ⟨w36v, w36⟩ : ∃ v, w34x4 - w34x4 / w34x6 * w34x6 = v := ⟨_, rfl⟩
            have w36g := zrg64 w36v
            refine zs_lrem (pc := 39) t299_39 (znz64 rfl (by omega)) (c := w36v) w36 ?_
            refine zs_lstore (pc := 40) t299_40 (ls' := [(8, .long w36v), (0, .long aL), (2, .long bL), (4, .long w34x4), (6, .long w34x6)]) (zml mf299 (by decide)) rfl ?_
            refine zs_lload (pc := 42) t299_42 rfl ?_
            refine zs_lstore (pc := 44) t299_44 (ls' := [(4, .long w34x6), (8, .long w36v), (0, .long aL), (2, .long bL), (6, .long w34x6)]) (zml mf299 (by decide)) rfl ?_
            refine zs_lload (pc := 46) t299_46 rfl ?_
            refine zs_lstore (pc := 48) t299_48 (ls' := [(6, .long w36v), (4, .long w34x6), (8, .long w36v), (0, .long aL), (2, .long bL)]) (zml mf299 (by decide)) rfl ?_
            refine zs_goto (pc := 50) t299_50 ?_
            refine zGo.locals (ls' := [(0, .long aL), (2, .long bL), (4, .long w34x6), (6, .long w36v)]) (by simp) ?_
            have w37 := zlrem w36 (by omega)
            exact w34ih (w34m - 1) (by omega) w34x6 w36v (by omega) (by omega)
          by_cases w38 : w34x6.toInt = 0
          · refine zs_lcmp (pc := 31) t299_31 (c := 0) (zlcE rfl ll0 (by omega)) ?_
            refine zs_if_eqT (pc := 32) t299_32 li0 (by decide) ?_
            refine zs_lload (pc := 53) t299_53 rfl ?_
            exact zs_lret (pc := 55) t299_55 mr299 (hQ _ (by omega))
          refine zs_lcmp (pc := 31) t299_31 (c := 1) (zlcG rfl ll0 (by omega)) ?_
          refine zs_if_eqF (pc := 32) t299_32 li1 (by decide) ?_
          refine zs_lload (pc := 35) t299_35 rfl ?_
          refine zs_lload (pc := 37) t299_37 rfl ?_
          obtain ⟨w40v, w40⟩ : ∃ v, w34x4 - w34x4 / w34x6 * w34x6 = v := ⟨_, rfl⟩
          have w40g := zrg64 w40v
          refine zs_lrem (pc := 39) t299_39 (znz64 rfl (by omega)) (c := w40v) w40 ?_
          refine zs_lstore (pc := 40) t299_40 (ls' := [(8, .long w40v), (0, .long aL), (2, .long bL), (4, .long w34x4), (6, .long w34x6)]) (zml mf299 (by decide)) rfl ?_
          refine zs_lload (pc := 42) t299_42 rfl ?_
          refine zs_lstore (pc := 44) t299_44 (ls' := [(4, .long w34x6), (8, .long w40v), (0, .long aL), (2, .long bL), (6, .long w34x6)]) (zml mf299 (by decide)) rfl ?_
          refine zs_lload (pc := 46) t299_46 rfl ?_
          refine zs_lstore (pc := 48) t299_48 (ls' := [(6, .long w40v), (4, .long w34x6), (8, .long w40v), (0, .long aL), (2, .long bL)]) (zml mf299 (by decide)) rfl ?_
          refine zs_goto (pc := 50) t299_50 ?_
          refine zGo.locals (ls' := [(0, .long aL), (2, .long bL), (4, .long w34x6), (6, .long w40v)]) (by simp) ?_
          have w41 := zlrem w40 (by omega)
          exact w34ih (w34m - 1) (by omega) w34x6 w40v (by omega) (by omega)
      refine zGo.locals (ls' := [(0, .long aL), (2, .long bL), (4, .long aL), (6, .long w33v)]) (by simp) ?_
      exact w34L ((max w33v.toInt (-w33v.toInt) : Int).toNat) aL w33v (by omega) (by omega)
    by_cases w42 : bL.toInt = 0
    · refine zs_lcmp (pc := 16) t299_16 (c := 0) (zlcE rfl ll0 (by omega)) ?_
      refine zs_if_geT (pc := 17) t299_17 li0 (by decide) ?_
      refine zs_lload_n (pc := 25) t299_25 rfl ?_
      refine zs_lstore (pc := 26) t299_26 (ls' := [(6, .long bL), (4, .long aL), (0, .long aL), (2, .long bL)]) (zml mf299 (by decide)) rfl ?_
      have w43L : ∀ (m : Nat) (w43x4 : Int64) (w43x6 : Int64), (w43x4.toInt ≠ 0 ∨ w43x6.toInt ≠ 0) → max w43x6.toInt (-w43x6.toInt) ≤ (m : Int) → zGo X l 0 0 0 299 28 [(0, .long aL), (2, .long bL), (4, .long w43x4), (6, .long w43x6)] [] M Q := by
        intro m
        induction m using Nat.strongRecOn with
        | ind w43m w43ih =>
          intro w43x4 w43x6 w43r0 w43q
          have w43g4 := zrg64 w43x4
          have w43g6 := zrg64 w43x6
          refine zs_lload (pc := 28) t299_28 rfl ?_
          refine zs_lconst (pc := 30) t299_30 (v := 0) (by decide) ?_
          by_cases w44 : w43x6.toInt < 0
          · refine zs_lcmp (pc := 31) t299_31 (c := -1) (zlcL rfl ll0 (by omega)) ?_
            refine zs_if_eqF (pc := 32) t299_32 lin1 (by decide) ?_
            refine zs_lload (pc := 35) t299_35 rfl ?_
            refine zs_lload (pc := 37) t299_37 rfl ?_
            obtain ⟨w45v, w45⟩ : ∃ v, w43x4 - w43x4 / w43x6 * w43x6 = v := ⟨_, rfl⟩
            have w45g := zrg64 w45v
            refine zs_lrem (pc := 39) t299_39 (znz64 rfl (by omega)) (c := w45v) w45 ?_
            refine zs_lstore (pc := 40) t299_40 (ls' := [(8, .long w45v), (0, .long aL), (2, .long bL), (4, .long w43x4), (6, .long w43x6)]) (zml mf299 (by decide)) rfl ?_
            refine zs_lload (pc := 42) t299_42 rfl ?_
            refine zs_lstore (pc := 44) t299_44 (ls' := [(4, .long w43x6), (8, .long w45v), (0, .long aL), (2, .long bL), (6, .long w43x6)]) (zml mf299 (by decide)) rfl ?_
            refine zs_lload (pc := 46) t299_46 rfl ?_
            refine zs_lstore (pc := 48) t299_48 (ls' := [(6, .long w45v), (4, .long w43x6), (8, .long w45v), (0, .long aL), (2, .long bL)]) (zml mf299 (by decide)) rfl ?_
            refine zs_goto (pc := 50) t299_50 ?_
            refine zGo.locals (ls' := [(0, .long aL), (2, .long bL), (4, .long w43x6), (6, .long w45v)]) (by simp) ?_
            have w46 := zlrem w45 (by omega)
            exact w43ih (w43m - 1) (by omega) w43x6 w45v (by omega) (by omega)
          by_cases w47 : w43x6.toInt = 0
          · refine zs_lcmp (pc := 31) t299_31 (c := 0) (zlcE rfl ll0 (by omega)) ?_
            refine zs_if_eqT (pc := 32) t299_32 li0 (by decide) ?_
            refine zs_lload (pc := 53) t299_53 rfl ?_
            exact zs_lret (pc := 55) t299_55 mr299 (hQ _ (by omega))
          refine zs_lcmp (pc := 31) t299_31 (c := 1) (zlcG rfl ll0 (by omega)) ?_
          refine zs_if_eqF (pc := 32) t299_32 li1 (by decide) ?_
          refine zs_lload (pc := 35) t299_35 rfl ?_
          refine zs_lload (pc := 37) t299_37 rfl ?_
          obtain ⟨w49v, w49⟩ : ∃ v, w43x4 - w43x4 / w43x6 * w43x6 = v := ⟨_, rfl⟩
          have w49g := zrg64 w49v
          refine zs_lrem (pc := 39) t299_39 (znz64 rfl (by omega)) (c := w49v) w49 ?_
          refine zs_lstore (pc := 40) t299_40 (ls' := [(8, .long w49v), (0, .long aL), (2, .long bL), (4, .long w43x4), (6, .long w43x6)]) (zml mf299 (by decide)) rfl ?_
          refine zs_lload (pc := 42) t299_42 rfl ?_
          refine zs_lstore (pc := 44) t299_44 (ls' := [(4, .long w43x6), (8, .long w49v), (0, .long aL), (2, .long bL), (6, .long w43x6)]) (zml mf299 (by decide)) rfl ?_
          refine zs_lload (pc := 46) t299_46 rfl ?_
          refine zs_lstore (pc := 48) t299_48 (ls' := [(6, .long w49v), (4, .long w43x6), (8, .long w49v), (0, .long aL), (2, .long bL)]) (zml mf299 (by decide)) rfl ?_
          refine zs_goto (pc := 50) t299_50 ?_
          refine zGo.locals (ls' := [(0, .long aL), (2, .long bL), (4, .long w43x6), (6, .long w49v)]) (by simp) ?_
          have w50 := zlrem w49 (by omega)
          exact w43ih (w43m - 1) (by omega) w43x6 w49v (by omega) (by omega)
      refine zGo.locals (ls' := [(0, .long aL), (2, .long bL), (4, .long aL), (6, .long bL)]) (by simp) ?_
      exact w43L ((max bL.toInt (-bL.toInt) : Int).toNat) aL bL (by omega) (by omega)
    refine zs_lcmp (pc := 16) t299_16 (c := 1) (zlcG rfl ll0 (by omega)) ?_
    refine zs_if_geT (pc := 17) t299_17 li1 (by decide) ?_
    refine zs_lload_n (pc := 25) t299_25 rfl ?_
    refine zs_lstore (pc := 26) t299_26 (ls' := [(6, .long bL), (4, .long aL), (0, .long aL), (2, .long bL)]) (zml mf299 (by decide)) rfl ?_
    have w52L : ∀ (m : Nat) (w52x4 : Int64) (w52x6 : Int64), (w52x4.toInt ≠ 0 ∨ w52x6.toInt ≠ 0) → max w52x6.toInt (-w52x6.toInt) ≤ (m : Int) → zGo X l 0 0 0 299 28 [(0, .long aL), (2, .long bL), (4, .long w52x4), (6, .long w52x6)] [] M Q := by
      intro m
      induction m using Nat.strongRecOn with
      | ind w52m w52ih =>
        intro w52x4 w52x6 w52r0 w52q
        have w52g4 := zrg64 w52x4
        have w52g6 := zrg64 w52x6
        refine zs_lload (pc := 28) t299_28 rfl ?_
        refine zs_lconst (pc := 30) t299_30 (v := 0) (by decide) ?_
        by_cases w53 : w52x6.toInt < 0
        · refine zs_lcmp (pc := 31) t299_31 (c := -1) (zlcL rfl ll0 (by omega)) ?_
          refine zs_if_eqF (pc := 32) t299_32 lin1 (by decide) ?_
          refine zs_lload (pc := 35) t299_35 rfl ?_
          refine zs_lload (pc := 37) t299_37 rfl ?_
          obtain ⟨w54v, w54⟩ : ∃ v, w52x4 - w52x4 / w52x6 * w52x6 = v := ⟨_, rfl⟩
          have w54g := zrg64 w54v
          refine zs_lrem (pc := 39) t299_39 (znz64 rfl (by omega)) (c := w54v) w54 ?_
          refine zs_lstore (pc := 40) t299_40 (ls' := [(8, .long w54v), (0, .long aL), (2, .long bL), (4, .long w52x4), (6, .long w52x6)]) (zml mf299 (by decide)) rfl ?_
          refine zs_lload (pc := 42) t299_42 rfl ?_
          refine zs_lstore (pc := 44) t299_44 (ls' := [(4, .long w52x6), (8, .long w54v), (0, .long aL), (2, .long bL), (6, .long w52x6)]) (zml mf299 (by decide)) rfl ?_
          refine zs_lload (pc := 46) t299_46 rfl ?_
          refine zs_lstore (pc := 48) t299_48 (ls' := [(6, .long w54v), (4, .long w52x6), (8, .long w54v), (0, .long aL), (2, .long bL)]) (zml mf299 (by decide)) rfl ?_
          refine zs_goto (pc := 50) t299_50 ?_
          refine zGo.locals (ls' := [(0, .long aL), (2, .long bL), (4, .long w52x6), (6, .long w54v)]) (by simp) ?_
          have w55 := zlrem w54 (by omega)
          exact w52ih (w52m - 1) (by omega) w52x6 w54v (by omega) (by omega)
        by_cases w56 : w52x6.toInt = 0
        · refine zs_lcmp (pc := 31) t299_31 (c := 0) (zlcE rfl ll0 (by omega)) ?_
          refine zs_if_eqT (pc := 32) t299_32 li0 (by decide) ?_
          refine zs_lload (pc := 53) t299_53 rfl ?_
          exact zs_lret (pc := 55) t299_55 mr299 (hQ _ (by omega))
        refine zs_lcmp (pc := 31) t299_31 (c := 1) (zlcG rfl ll0 (by omega)) ?_
        refine zs_if_eqF (pc := 32) t299_32 li1 (by decide) ?_
        refine zs_lload (pc := 35) t299_35 rfl ?_
        refine zs_lload (pc := 37) t299_37 rfl ?_
        obtain ⟨w58v, w58⟩ : ∃ v, w52x4 - w52x4 / w52x6 * w52x6 = v := ⟨_, rfl⟩
        have w58g := zrg64 w58v
        refine zs_lrem (pc := 39) t299_39 (znz64 rfl (by omega)) (c := w58v) w58 ?_
        refine zs_lstore (pc := 40) t299_40 (ls' := [(8, .long w58v), (0, .long aL), (2, .long bL), (4, .long w52x4), (6, .long w52x6)]) (zml mf299 (by decide)) rfl ?_
        refine zs_lload (pc := 42) t299_42 rfl ?_
        refine zs_lstore (pc := 44) t299_44 (ls' := [(4, .long w52x6), (8, .long w58v), (0, .long aL), (2, .long bL), (6, .long w52x6)]) (zml mf299 (by decide)) rfl ?_
        refine zs_lload (pc := 46) t299_46 rfl ?_
        refine zs_lstore (pc := 48) t299_48 (ls' := [(6, .long w58v), (4, .long w52x6), (8, .long w58v), (0, .long aL), (2, .long bL)]) (zml mf299 (by decide)) rfl ?_
        refine zs_goto (pc := 50) t299_50 ?_
        refine zGo.locals (ls' := [(0, .long aL), (2, .long bL), (4, .long w52x6), (6, .long w58v)]) (by simp) ?_
        have w59 := zlrem w58 (by omega)
        exact w52ih (w52m - 1) (by omega) w52x6 w58v (by omega) (by omega)
    refine zGo.locals (ls' := [(0, .long aL), (2, .long bL), (4, .long aL), (6, .long bL)]) (by simp) ?_
    exact w52L ((max bL.toInt (-bL.toInt) : Int).toNat) aL bL (by omega) (by omega)
  refine zs_lcmp (pc := 2) t299_2 (c := 1) (zlcG rfl ll0 (by omega)) ?_
  refine zs_if_geT (pc := 3) t299_3 li1 (by decide) ?_
  refine zs_lload_n (pc := 11) t299_11 rfl ?_
  refine zs_lstore (pc := 12) t299_12 (ls' := [(4, .long aL), (0, .long aL), (2, .long bL)]) (zml mf299 (by decide)) rfl ?_
  refine zs_lload_n (pc := 14) t299_14 rfl ?_
  refine zs_lconst (pc := 15) t299_15 (v := 0) (by decide) ?_
  by_cases w61 : bL.toInt < 0
  · refine zs_lcmp (pc := 16) t299_16 (c := -1) (zlcL rfl ll0 (by omega)) ?_
    refine zs_if_geF (pc := 17) t299_17 lin1 (by decide) ?_
    refine zs_lload_n (pc := 20) t299_20 rfl ?_
    obtain ⟨w62v, w62⟩ : ∃ v, -bL = v := ⟨_, rfl⟩
    have w62g := zrg64 w62v
    have w62z := zlneg0 w62
    refine zs_lneg (pc := 21) t299_21 (c := w62v) w62 ?_
    refine zs_goto (pc := 22) t299_22 ?_
    refine zs_lstore (pc := 26) t299_26 (ls' := [(6, .long w62v), (4, .long aL), (0, .long aL), (2, .long bL)]) (zml mf299 (by decide)) rfl ?_
    have w63L : ∀ (m : Nat) (w63x4 : Int64) (w63x6 : Int64), (w63x4.toInt ≠ 0 ∨ w63x6.toInt ≠ 0) → max w63x6.toInt (-w63x6.toInt) ≤ (m : Int) → zGo X l 0 0 0 299 28 [(0, .long aL), (2, .long bL), (4, .long w63x4), (6, .long w63x6)] [] M Q := by
      intro m
      induction m using Nat.strongRecOn with
      | ind w63m w63ih =>
        intro w63x4 w63x6 w63r0 w63q
        have w63g4 := zrg64 w63x4
        have w63g6 := zrg64 w63x6
        refine zs_lload (pc := 28) t299_28 rfl ?_
        refine zs_lconst (pc := 30) t299_30 (v := 0) (by decide) ?_
        by_cases w64 : w63x6.toInt < 0
        · refine zs_lcmp (pc := 31) t299_31 (c := -1) (zlcL rfl ll0 (by omega)) ?_
          refine zs_if_eqF (pc := 32) t299_32 lin1 (by decide) ?_
          refine zs_lload (pc := 35) t299_35 rfl ?_
          refine zs_lload (pc := 37) t299_37 rfl ?_
          obtain ⟨w65v, w65⟩ : ∃ v, w63x4 - w63x4 / w63x6 * w63x6 = v := ⟨_, rfl⟩
          have w65g := zrg64 w65v
          refine zs_lrem (pc := 39) t299_39 (znz64 rfl (by omega)) (c := w65v) w65 ?_
          refine zs_lstore (pc := 40) t299_40 (ls' := [(8, .long w65v), (0, .long aL), (2, .long bL), (4, .long w63x4), (6, .long w63x6)]) (zml mf299 (by decide)) rfl ?_
          refine zs_lload (pc := 42) t299_42 rfl ?_
          refine zs_lstore (pc := 44) t299_44 (ls' := [(4, .long w63x6), (8, .long w65v), (0, .long aL), (2, .long bL), (6, .long w63x6)]) (zml mf299 (by decide)) rfl ?_
          refine zs_lload (pc := 46) t299_46 rfl ?_
          refine zs_lstore (pc := 48) t299_48 (ls' := [(6, .long w65v), (4, .long w63x6), (8, .long w65v), (0, .long aL), (2, .long bL)]) (zml mf299 (by decide)) rfl ?_
          refine zs_goto (pc := 50) t299_50 ?_
          refine zGo.locals (ls' := [(0, .long aL), (2, .long bL), (4, .long w63x6), (6, .long w65v)]) (by simp) ?_
          have w66 := zlrem w65 (by omega)
          exact w63ih (w63m - 1) (by omega) w63x6 w65v (by omega) (by omega)
        by_cases w67 : w63x6.toInt = 0
        · refine zs_lcmp (pc := 31) t299_31 (c := 0) (zlcE rfl ll0 (by omega)) ?_
          refine zs_if_eqT (pc := 32) t299_32 li0 (by decide) ?_
          refine zs_lload (pc := 53) t299_53 rfl ?_
          exact zs_lret (pc := 55) t299_55 mr299 (hQ _ (by omega))
        refine zs_lcmp (pc := 31) t299_31 (c := 1) (zlcG rfl ll0 (by omega)) ?_
        refine zs_if_eqF (pc := 32) t299_32 li1 (by decide) ?_
        refine zs_lload (pc := 35) t299_35 rfl ?_
        refine zs_lload (pc := 37) t299_37 rfl ?_
        obtain ⟨w69v, w69⟩ : ∃ v, w63x4 - w63x4 / w63x6 * w63x6 = v := ⟨_, rfl⟩
        have w69g := zrg64 w69v
        refine zs_lrem (pc := 39) t299_39 (znz64 rfl (by omega)) (c := w69v) w69 ?_
        refine zs_lstore (pc := 40) t299_40 (ls' := [(8, .long w69v), (0, .long aL), (2, .long bL), (4, .long w63x4), (6, .long w63x6)]) (zml mf299 (by decide)) rfl ?_
        refine zs_lload (pc := 42) t299_42 rfl ?_
        refine zs_lstore (pc := 44) t299_44 (ls' := [(4, .long w63x6), (8, .long w69v), (0, .long aL), (2, .long bL), (6, .long w63x6)]) (zml mf299 (by decide)) rfl ?_
        refine zs_lload (pc := 46) t299_46 rfl ?_
        refine zs_lstore (pc := 48) t299_48 (ls' := [(6, .long w69v), (4, .long w63x6), (8, .long w69v), (0, .long aL), (2, .long bL)]) (zml mf299 (by decide)) rfl ?_
        refine zs_goto (pc := 50) t299_50 ?_
        refine zGo.locals (ls' := [(0, .long aL), (2, .long bL), (4, .long w63x6), (6, .long w69v)]) (by simp) ?_
        have w70 := zlrem w69 (by omega)
        exact w63ih (w63m - 1) (by omega) w63x6 w69v (by omega) (by omega)
    refine zGo.locals (ls' := [(0, .long aL), (2, .long bL), (4, .long aL), (6, .long w62v)]) (by simp) ?_
    exact w63L ((max w62v.toInt (-w62v.toInt) : Int).toNat) aL w62v (by omega) (by omega)
  by_cases w71 : bL.toInt = 0
  · refine zs_lcmp (pc := 16) t299_16 (c := 0) (zlcE rfl ll0 (by omega)) ?_
    refine zs_if_geT (pc := 17) t299_17 li0 (by decide) ?_
    refine zs_lload_n (pc := 25) t299_25 rfl ?_
    refine zs_lstore (pc := 26) t299_26 (ls' := [(6, .long bL), (4, .long aL), (0, .long aL), (2, .long bL)]) (zml mf299 (by decide)) rfl ?_
    have w72L : ∀ (m : Nat) (w72x4 : Int64) (w72x6 : Int64), (w72x4.toInt ≠ 0 ∨ w72x6.toInt ≠ 0) → max w72x6.toInt (-w72x6.toInt) ≤ (m : Int) → zGo X l 0 0 0 299 28 [(0, .long aL), (2, .long bL), (4, .long w72x4), (6, .long w72x6)] [] M Q := by
      intro m
      induction m using Nat.strongRecOn with
      | ind w72m w72ih =>
        intro w72x4 w72x6 w72r0 w72q
        have w72g4 := zrg64 w72x4
        have w72g6 := zrg64 w72x6
        refine zs_lload (pc := 28) t299_28 rfl ?_
        refine zs_lconst (pc := 30) t299_30 (v := 0) (by decide) ?_
        by_cases w73 : w72x6.toInt < 0
        · refine zs_lcmp (pc := 31) t299_31 (c := -1) (zlcL rfl ll0 (by omega)) ?_
          refine zs_if_eqF (pc := 32) t299_32 lin1 (by decide) ?_
          refine zs_lload (pc := 35) t299_35 rfl ?_
          refine zs_lload (pc := 37) t299_37 rfl ?_
          obtain ⟨w74v, w74⟩ : ∃ v, w72x4 - w72x4 / w72x6 * w72x6 = v := ⟨_, rfl⟩
          have w74g := zrg64 w74v
          refine zs_lrem (pc := 39) t299_39 (znz64 rfl (by omega)) (c := w74v) w74 ?_
          refine zs_lstore (pc := 40) t299_40 (ls' := [(8, .long w74v), (0, .long aL), (2, .long bL), (4, .long w72x4), (6, .long w72x6)]) (zml mf299 (by decide)) rfl ?_
          refine zs_lload (pc := 42) t299_42 rfl ?_
          refine zs_lstore (pc := 44) t299_44 (ls' := [(4, .long w72x6), (8, .long w74v), (0, .long aL), (2, .long bL), (6, .long w72x6)]) (zml mf299 (by decide)) rfl ?_
          refine zs_lload (pc := 46) t299_46 rfl ?_
          refine zs_lstore (pc := 48) t299_48 (ls' := [(6, .long w74v), (4, .long w72x6), (8, .long w74v), (0, .long aL), (2, .long bL)]) (zml mf299 (by decide)) rfl ?_
          refine zs_goto (pc := 50) t299_50 ?_
          refine zGo.locals (ls' := [(0, .long aL), (2, .long bL), (4, .long w72x6), (6, .long w74v)]) (by simp) ?_
          have w75 := zlrem w74 (by omega)
          exact w72ih (w72m - 1) (by omega) w72x6 w74v (by omega) (by omega)
        by_cases w76 : w72x6.toInt = 0
        · refine zs_lcmp (pc := 31) t299_31 (c := 0) (zlcE rfl ll0 (by omega)) ?_
          refine zs_if_eqT (pc := 32) t299_32 li0 (by decide) ?_
          refine zs_lload (pc := 53) t299_53 rfl ?_
          exact zs_lret (pc := 55) t299_55 mr299 (hQ _ (by omega))
        refine zs_lcmp (pc := 31) t299_31 (c := 1) (zlcG rfl ll0 (by omega)) ?_
        refine zs_if_eqF (pc := 32) t299_32 li1 (by decide) ?_
        refine zs_lload (pc := 35) t299_35 rfl ?_
        refine zs_lload (pc := 37) t299_37 rfl ?_
        obtain ⟨w78v, w78⟩ : ∃ v, w72x4 - w72x4 / w72x6 * w72x6 = v := ⟨_, rfl⟩
        have w78g := zrg64 w78v
        refine zs_lrem (pc := 39) t299_39 (znz64 rfl (by omega)) (c := w78v) w78 ?_
        refine zs_lstore (pc := 40) t299_40 (ls' := [(8, .long w78v), (0, .long aL), (2, .long bL), (4, .long w72x4), (6, .long w72x6)]) (zml mf299 (by decide)) rfl ?_
        refine zs_lload (pc := 42) t299_42 rfl ?_
        refine zs_lstore (pc := 44) t299_44 (ls' := [(4, .long w72x6), (8, .long w78v), (0, .long aL), (2, .long bL), (6, .long w72x6)]) (zml mf299 (by decide)) rfl ?_
        refine zs_lload (pc := 46) t299_46 rfl ?_
        refine zs_lstore (pc := 48) t299_48 (ls' := [(6, .long w78v), (4, .long w72x6), (8, .long w78v), (0, .long aL), (2, .long bL)]) (zml mf299 (by decide)) rfl ?_
        refine zs_goto (pc := 50) t299_50 ?_
        refine zGo.locals (ls' := [(0, .long aL), (2, .long bL), (4, .long w72x6), (6, .long w78v)]) (by simp) ?_
        have w79 := zlrem w78 (by omega)
        exact w72ih (w72m - 1) (by omega) w72x6 w78v (by omega) (by omega)
    refine zGo.locals (ls' := [(0, .long aL), (2, .long bL), (4, .long aL), (6, .long bL)]) (by simp) ?_
    exact w72L ((max bL.toInt (-bL.toInt) : Int).toNat) aL bL (by omega) (by omega)
  refine zs_lcmp (pc := 16) t299_16 (c := 1) (zlcG rfl ll0 (by omega)) ?_
  refine zs_if_geT (pc := 17) t299_17 li1 (by decide) ?_
  refine zs_lload_n (pc := 25) t299_25 rfl ?_
  refine zs_lstore (pc := 26) t299_26 (ls' := [(6, .long bL), (4, .long aL), (0, .long aL), (2, .long bL)]) (zml mf299 (by decide)) rfl ?_
  have w81L : ∀ (m : Nat) (w81x4 : Int64) (w81x6 : Int64), (w81x4.toInt ≠ 0 ∨ w81x6.toInt ≠ 0) → max w81x6.toInt (-w81x6.toInt) ≤ (m : Int) → zGo X l 0 0 0 299 28 [(0, .long aL), (2, .long bL), (4, .long w81x4), (6, .long w81x6)] [] M Q := by
    intro m
    induction m using Nat.strongRecOn with
    | ind w81m w81ih =>
      intro w81x4 w81x6 w81r0 w81q
      have w81g4 := zrg64 w81x4
      have w81g6 := zrg64 w81x6
      refine zs_lload (pc := 28) t299_28 rfl ?_
      refine zs_lconst (pc := 30) t299_30 (v := 0) (by decide) ?_
      by_cases w82 : w81x6.toInt < 0
      · refine zs_lcmp (pc := 31) t299_31 (c := -1) (zlcL rfl ll0 (by omega)) ?_
        refine zs_if_eqF (pc := 32) t299_32 lin1 (by decide) ?_
        refine zs_lload (pc := 35) t299_35 rfl ?_
        refine zs_lload (pc := 37) t299_37 rfl ?_
        obtain ⟨w83v, w83⟩ : ∃ v, w81x4 - w81x4 / w81x6 * w81x6 = v := ⟨_, rfl⟩
        have w83g := zrg64 w83v
        refine zs_lrem (pc := 39) t299_39 (znz64 rfl (by omega)) (c := w83v) w83 ?_
        refine zs_lstore (pc := 40) t299_40 (ls' := [(8, .long w83v), (0, .long aL), (2, .long bL), (4, .long w81x4), (6, .long w81x6)]) (zml mf299 (by decide)) rfl ?_
        refine zs_lload (pc := 42) t299_42 rfl ?_
        refine zs_lstore (pc := 44) t299_44 (ls' := [(4, .long w81x6), (8, .long w83v), (0, .long aL), (2, .long bL), (6, .long w81x6)]) (zml mf299 (by decide)) rfl ?_
        refine zs_lload (pc := 46) t299_46 rfl ?_
        refine zs_lstore (pc := 48) t299_48 (ls' := [(6, .long w83v), (4, .long w81x6), (8, .long w83v), (0, .long aL), (2, .long bL)]) (zml mf299 (by decide)) rfl ?_
        refine zs_goto (pc := 50) t299_50 ?_
        refine zGo.locals (ls' := [(0, .long aL), (2, .long bL), (4, .long w81x6), (6, .long w83v)]) (by simp) ?_
        have w84 := zlrem w83 (by omega)
        exact w81ih (w81m - 1) (by omega) w81x6 w83v (by omega) (by omega)
      by_cases w85 : w81x6.toInt = 0
      · refine zs_lcmp (pc := 31) t299_31 (c := 0) (zlcE rfl ll0 (by omega)) ?_
        refine zs_if_eqT (pc := 32) t299_32 li0 (by decide) ?_
        refine zs_lload (pc := 53) t299_53 rfl ?_
        exact zs_lret (pc := 55) t299_55 mr299 (hQ _ (by omega))
      refine zs_lcmp (pc := 31) t299_31 (c := 1) (zlcG rfl ll0 (by omega)) ?_
      refine zs_if_eqF (pc := 32) t299_32 li1 (by decide) ?_
      refine zs_lload (pc := 35) t299_35 rfl ?_
      refine zs_lload (pc := 37) t299_37 rfl ?_
      obtain ⟨w87v, w87⟩ : ∃ v, w81x4 - w81x4 / w81x6 * w81x6 = v := ⟨_, rfl⟩
      have w87g := zrg64 w87v
      refine zs_lrem (pc := 39) t299_39 (znz64 rfl (by omega)) (c := w87v) w87 ?_
      refine zs_lstore (pc := 40) t299_40 (ls' := [(8, .long w87v), (0, .long aL), (2, .long bL), (4, .long w81x4), (6, .long w81x6)]) (zml mf299 (by decide)) rfl ?_
      refine zs_lload (pc := 42) t299_42 rfl ?_
      refine zs_lstore (pc := 44) t299_44 (ls' := [(4, .long w81x6), (8, .long w87v), (0, .long aL), (2, .long bL), (6, .long w81x6)]) (zml mf299 (by decide)) rfl ?_
      refine zs_lload (pc := 46) t299_46 rfl ?_
      refine zs_lstore (pc := 48) t299_48 (ls' := [(6, .long w87v), (4, .long w81x6), (8, .long w87v), (0, .long aL), (2, .long bL)]) (zml mf299 (by decide)) rfl ?_
      refine zs_goto (pc := 50) t299_50 ?_
      refine zGo.locals (ls' := [(0, .long aL), (2, .long bL), (4, .long w81x6), (6, .long w87v)]) (by simp) ?_
      have w88 := zlrem w87 (by omega)
      exact w81ih (w81m - 1) (by omega) w81x6 w87v (by omega) (by omega)
  refine zGo.locals (ls' := [(0, .long aL), (2, .long bL), (4, .long aL), (6, .long bL)]) (by simp) ?_
  exact w81L ((max bL.toInt (-bL.toInt) : Int).toNat) aL bL (by omega) (by omega)
