theorem L328 {X : zX} {l : Launch} {M : zM} {Q : Option Value → zM → Prop} {a : Int32} (hs : zSk zMm M) (hI : zIv mLo mHi M) (pR : zPR M) (pC : zPC M) (pF : zPF M) (hQ : ∀ (M' : zM) (v : Int32), zSk zMm M' → zIv mLo mHi M' → zFr [(336, 363, none)] M M' → zPR M' → zPC M' → zPF M' → ((zI M' 336 5).toInt = (zI M 336 5).toInt) → Q (some (.int v)) M') : zCall X l 6 0 0 328 [.ref 336, .int a] M Q := by
  have ga := zrg a
  refine zs_in (by decide) mf328 (Nat.le_of_ble_eq_true rfl) ?_
  show zGo X l 6 0 0 328 0 [(0, .ref 336), (1, .int a)] [] M _
  refine zs_iload_n (pc := 0) t328_0 rfl ?_
  refine zs_i2l (pc := 1) t328_1 rfl ?_
  refine zs_lconst (pc := 2) t328_2 (v := 0) (by decide) ?_
  refine zs_ldc2_w (pc := 3) t328_3 (v := 2) (by decide) ?_
  by_cases w1 : 0 ≤ a.toInt ∧ a.toInt ≤ 2
  · refine zs_invS (pc := 6) (as := [.long a.toInt64, .long (0 : Int64), .long (2 : Int64)]) (st := []) t328_6 (by decide) mf228 rfl rfl ⟨by decide, by decide, Nat.le_of_ble_eq_true rfl, Nat.le_of_ble_eq_true rfl⟩ (K228T (zi2l rfl) ll0 ll2 (by omega) ?_) (fun _ _ q => q)
    show zGo X l 6 0 0 328 9 [(0, .ref 336), (1, .int a)] [.int (1 : Int32)] M _
    refine zs_if_neT (pc := 9) t328_9 li1 (by decide) ?_
    refine zs_iconst (pc := 14) t328_14 (v := -1) (by decide) ?_
    refine zs_istore_n (pc := 15) t328_15 (ls' := [(2, .int (-1 : Int32)), (0, .ref 336), (1, .int a)]) (zml mf328 (by decide)) rfl ?_
    refine zs_iconst (pc := 16) t328_16 (v := 0) (by decide) ?_
    refine zs_istore_n (pc := 17) t328_17 (ls' := [(3, .int (0 : Int32)), (2, .int (-1 : Int32)), (0, .ref 336), (1, .int a)]) (zml mf328 (by decide)) rfl ?_
    refine zs_iconst (pc := 18) t328_18 (v := 0) (by decide) ?_
    refine zs_istore (pc := 19) t328_19 (ls' := [(4, .int (0 : Int32)), (3, .int (0 : Int32)), (2, .int (-1 : Int32)), (0, .ref 336), (1, .int a)]) (zml mf328 (by decide)) rfl ?_
    refine zs_iconst (pc := 21) t328_21 (v := 2) (by decide) ?_
    refine zs_istore (pc := 22) t328_22 (ls' := [(5, .int (2 : Int32)), (4, .int (0 : Int32)), (3, .int (0 : Int32)), (2, .int (-1 : Int32)), (0, .ref 336), (1, .int a)]) (zml mf328 (by decide)) rfl ?_
    have w2L : ∀ (m : Nat) (w2x2 : Int32) (w2x3 : Int32) (w2x4 : Int32) (w2x5 : Int32) (w2M : zM), ((-1) ≤ w2x2.toInt ∧ w2x2.toInt ≤ 8) → (2 ≤ w2x5.toInt ∧ w2x5.toInt ≤ 9) → zSk zMm w2M → zIv mLo mHi w2M → zFr [(344, 344, none), (349, 349, none), (350, 350, none), (343, 343, none), (345, 345, none), (346, 346, none), (347, 347, none), (348, 348, none), (336, 336, some 22), (336, 336, some 18), (336, 336, some 19), (336, 336, some 20), (336, 336, some 21)] M w2M → zJ w2M 351 = zJ M 351 → 9 - w2x5.toInt ≤ (m : Int) → zGo X l 6 0 0 328 24 [(0, .ref 336), (1, .int a), (2, .int w2x2), (3, .int w2x3), (4, .int w2x4), (5, .int w2x5)] [] w2M Q := by
      intro m
      induction m using Nat.strongRecOn with
      | ind w2m w2ih =>
        intro w2x2 w2x3 w2x4 w2x5 w2M w2b2 w2b5 w2s w2I w2F w2J w2q
        have w2g3 := zrg w2x3
        have w2g4 := zrg w2x4
        refine zs_iload (pc := 24) t328_24 rfl ?_
        refine zs_bipush (pc := 26) t328_26 (v := 8) (by decide) ?_
        by_cases w3 : 8 < w2x5.toInt
        · refine zs_icmp_gtT (pc := 28) t328_28 rfl li8 (by omega) ?_
          refine zs_aload_n (pc := 86) t328_86 rfl ?_
          refine zs_iconst (pc := 87) t328_87 (v := 0) (by decide) ?_
          have w4 : zIv mLo mHi (zsI w2M 336 3 (0 : Int32)) := zIv.put w2I (show 0 ≤ (0 : Int32).toInt ∧ (0 : Int32).toInt ≤ 1 from ⟨by decide, by decide⟩)
          have w5 : zPF (zsI w2M 336 3 (0 : Int32)) := zPF.off
          refine zs_putI (pc := 88) t328_88 (zk1 (w2s.k fk_zMm_336)) (by decide) ?_
          refine zs_iload_n (pc := 91) t328_91 rfl ?_
          by_cases w6 : a.toInt ≠ 0
          · refine zs_if_neT (pc := 92) t328_92 rfl (by omega) ?_
            refine zs_iload_n (pc := 99) t328_99 rfl ?_
            refine zs_iconst (pc := 100) t328_100 (v := 1) (by decide) ?_
            by_cases w7 : a.toInt ≠ 1
            · refine zs_icmp_neT (pc := 101) t328_101 rfl li1 (by omega) ?_
              refine zs_iload (pc := 108) t328_108 rfl ?_
              have w8 := ib336_5 hI
              have w9 : (zI (zsI w2M 336 3 (0 : Int32)) 336 5).toInt = (zI M 336 5).toInt := (congrArg Int32.toInt ((zIoj (by decide)).trans ((w2F 336 5 rfl).trans rfl))).trans rfl
              exact zs_iret (pc := 110) t328_110 mr328 rfl (hQ _ _ w2s w4 (((zFr.refl).trans (w2F.mono rfl)).put rfl) (zPR.fr (M' := (zsI w2M 336 3 (0 : Int32))) (zPR.fr pR (w2F.eq rfl)) (zEq.put rfl)) (zPC.fr (M' := (zsI w2M 336 3 (0 : Int32))) (zPC.fr pC (w2F.eq rfl)) (zEq.put rfl)) w5 (by omega))
            · refine zs_icmp_neF (pc := 101) t328_101 rfl li1 (by omega) ?_
              refine zs_iload_n (pc := 104) t328_104 rfl ?_
              refine zs_goto (pc := 105) t328_105 ?_
              have w10 : (zI (zsI w2M 336 3 (0 : Int32)) 336 5).toInt = (zI M 336 5).toInt := (congrArg Int32.toInt ((zIoj (by decide)).trans ((w2F 336 5 rfl).trans rfl))).trans rfl
              exact zs_iret (pc := 110) t328_110 mr328 rfl (hQ _ _ w2s w4 (((zFr.refl).trans (w2F.mono rfl)).put rfl) (zPR.fr (M' := (zsI w2M 336 3 (0 : Int32))) (zPR.fr pR (w2F.eq rfl)) (zEq.put rfl)) (zPC.fr (M' := (zsI w2M 336 3 (0 : Int32))) (zPC.fr pC (w2F.eq rfl)) (zEq.put rfl)) w5 (by omega))
          · refine zs_if_neF (pc := 92) t328_92 rfl (by omega) ?_
            refine zs_iload_n (pc := 95) t328_95 rfl ?_
            refine zs_goto (pc := 96) t328_96 ?_
            have w11 : (zI (zsI w2M 336 3 (0 : Int32)) 336 5).toInt = (zI M 336 5).toInt := (congrArg Int32.toInt ((zIoj (by decide)).trans ((w2F 336 5 rfl).trans rfl))).trans rfl
            exact zs_iret (pc := 110) t328_110 mr328 rfl (hQ _ _ w2s w4 (((zFr.refl).trans (w2F.mono rfl)).put rfl) (zPR.fr (M' := (zsI w2M 336 3 (0 : Int32))) (zPR.fr pR (w2F.eq rfl)) (zEq.put rfl)) (zPC.fr (M' := (zsI w2M 336 3 (0 : Int32))) (zPC.fr pC (w2F.eq rfl)) (zEq.put rfl)) w5 (by omega))
        · refine zs_icmp_gtF (pc := 28) t328_28 rfl li8 (by omega) ?_
          refine zs_aload_n (pc := 31) t328_31 rfl ?_
          refine zs_iload (pc := 32) t328_32 rfl ?_
          refine zs_iconst (pc := 34) t328_34 (v := -1) (by decide) ?_
          refine zs_invV (pc := 35) (k := 336) (as' := [.int w2x5, .int (-1 : Int32)]) (st := []) t328_35 mf269 rfl rfl (Or.inl ⟨by decide, (zk1 (w2s.k fk_zMm_336))⟩) ⟨by decide, by decide, Nat.le_of_ble_eq_true rfl, Nat.le_of_ble_eq_true rfl⟩ (K269 w2s w2I (zPR.fr pR (w2F.eq rfl)) ⟨by omega, by omega⟩ ?_) (fun _ _ q => q)
          intro w12M w12s w12I w12F w12J w12PT
          show zGo X l 6 0 0 328 38 [(0, .ref 336), (1, .int a), (2, .int w2x2), (3, .int w2x3), (4, .int w2x4), (5, .int w2x5)] [] w12M _
          refine zs_aload_n (pc := 38) t328_38 rfl ?_
          refine zs_invV (pc := 39) (k := 336) (as' := []) (st := []) t328_39 mf329 rfl rfl (Or.inl ⟨by decide, (zk1 (w12s.k fk_zMm_336))⟩) ⟨by decide, by decide, Nat.le_of_ble_eq_true rfl, Nat.le_of_ble_eq_true rfl⟩ (K329 w12s w12I ?_) (fun _ _ q => q)
          intro w13v
          have w13g := zrg w13v
          show zGo X l 6 0 0 328 42 [(0, .ref 336), (1, .int a), (2, .int w2x2), (3, .int w2x3), (4, .int w2x4), (5, .int w2x5)] [.int w13v] w12M _
          refine zs_istore (pc := 42) t328_42 (ls' := [(6, .int w13v), (0, .ref 336), (1, .int a), (2, .int w2x2), (3, .int w2x3), (4, .int w2x4), (5, .int w2x5)]) (zml mf328 (by decide)) rfl ?_
          refine zs_aload_n (pc := 44) t328_44 rfl ?_
          refine zs_invV (pc := 45) (k := 336) (as' := []) (st := []) t328_45 mf330 rfl rfl (Or.inl ⟨by decide, (zk1 (w12s.k fk_zMm_336))⟩) ⟨by decide, by decide, Nat.le_of_ble_eq_true rfl, Nat.le_of_ble_eq_true rfl⟩ (K330 w12s w12I ?_) (fun _ _ q => q)
          intro w14v
          have w14g := zrg w14v
          show zGo X l 6 0 0 328 48 [(6, .int w13v), (0, .ref 336), (1, .int a), (2, .int w2x2), (3, .int w2x3), (4, .int w2x4), (5, .int w2x5)] [.int w14v] w12M _
          refine zs_istore (pc := 48) t328_48 (ls' := [(7, .int w14v), (6, .int w13v), (0, .ref 336), (1, .int a), (2, .int w2x2), (3, .int w2x3), (4, .int w2x4), (5, .int w2x5)]) (zml mf328 (by decide)) rfl ?_
          refine zs_iload_n (pc := 50) t328_50 rfl ?_
          refine zs_iconst (pc := 51) t328_51 (v := -1) (by decide) ?_
          by_cases w15 : w2x2.toInt = (-1)
          · refine zs_icmp_eqT (pc := 52) t328_52 rfl lin1 (by omega) ?_
            refine zs_iload (pc := 70) t328_70 rfl ?_
            refine zs_istore_n (pc := 72) t328_72 (ls' := [(2, .int w2x5), (7, .int w14v), (6, .int w13v), (0, .ref 336), (1, .int a), (3, .int w2x3), (4, .int w2x4), (5, .int w2x5)]) (zml mf328 (by decide)) rfl ?_
            refine zs_iload (pc := 73) t328_73 rfl ?_
            refine zs_istore_n (pc := 75) t328_75 (ls' := [(3, .int w13v), (2, .int w2x5), (7, .int w14v), (6, .int w13v), (0, .ref 336), (1, .int a), (4, .int w2x4), (5, .int w2x5)]) (zml mf328 (by decide)) rfl ?_
            refine zs_iload (pc := 76) t328_76 rfl ?_
            refine zs_istore (pc := 78) t328_78 (ls' := [(4, .int w14v), (3, .int w13v), (2, .int w2x5), (7, .int w14v), (6, .int w13v), (0, .ref 336), (1, .int a), (5, .int w2x5)]) (zml mf328 (by decide)) rfl ?_
            obtain ⟨w16v, w16e, w16⟩ := ziadd (a := w2x5) (b := Int32.ofInt 1) rfl (show (Int32.ofInt 1).toInt = 1 by decide) (by omega) (by omega)
            refine zs_iinc (pc := 80) t328_80 (ls' := [(5, .int w16v), (4, .int w14v), (3, .int w13v), (2, .int w2x5), (7, .int w14v), (6, .int w13v), (0, .ref 336), (1, .int a)]) (zml mf328 (by decide)) rfl (c := w16v) w16e rfl ?_
            refine zs_goto (pc := 83) t328_83 ?_
            refine zGo.locals (ls' := [(0, .ref 336), (1, .int a), (2, .int w2x5), (3, .int w13v), (4, .int w14v), (5, .int w16v)]) (by simp) ?_
            have w17 := w16
            exact w2ih (w2m - 1) (by omega) w2x5 w13v w14v w16v w12M ⟨by omega, by omega⟩ ⟨by omega, by omega⟩ w12s w12I (((zFr.refl).trans (w2F.mono rfl)).trans (w12F.mono rfl)) (w12J.trans w2J) (by omega)
          · refine zs_icmp_eqF (pc := 52) t328_52 rfl lin1 (by omega) ?_
            refine zs_iload (pc := 55) t328_55 rfl ?_
            refine zs_iload (pc := 57) t328_57 rfl ?_
            obtain ⟨w18v, w18⟩ : ∃ v, v = w13v - w14v := ⟨_, rfl⟩
            have w18g := zrg w18v
            refine zs_isub (pc := 59) t328_59 (c := w18v) w18.symm ?_
            refine zs_iload_n (pc := 60) t328_60 rfl ?_
            refine zs_iload (pc := 61) t328_61 rfl ?_
            obtain ⟨w19v, w19⟩ : ∃ v, v = w2x3 - w2x4 := ⟨_, rfl⟩
            have w19g := zrg w19v
            refine zs_isub (pc := 63) t328_63 (c := w19v) w19.symm ?_
            by_cases w20 : w19v.toInt < w18v.toInt
            · refine zs_icmp_gtT (pc := 64) t328_64 rfl rfl (by omega) ?_
              refine zs_iload (pc := 70) t328_70 rfl ?_
              refine zs_istore_n (pc := 72) t328_72 (ls' := [(2, .int w2x5), (7, .int w14v), (6, .int w13v), (0, .ref 336), (1, .int a), (3, .int w2x3), (4, .int w2x4), (5, .int w2x5)]) (zml mf328 (by decide)) rfl ?_
              refine zs_iload (pc := 73) t328_73 rfl ?_
              refine zs_istore_n (pc := 75) t328_75 (ls' := [(3, .int w13v), (2, .int w2x5), (7, .int w14v), (6, .int w13v), (0, .ref 336), (1, .int a), (4, .int w2x4), (5, .int w2x5)]) (zml mf328 (by decide)) rfl ?_
              refine zs_iload (pc := 76) t328_76 rfl ?_
              refine zs_istore (pc := 78) t328_78 (ls' := [(4, .int w14v), (3, .int w13v), (2, .int w2x5), (7, .int w14v), (6, .int w13v), (0, .ref 336), (1, .int a), (5, .int w2x5)]) (zml mf328 (by decide)) rfl ?_
              obtain ⟨w21v, w21e, w21⟩ := ziadd (a := w2x5) (b := Int32.ofInt 1) rfl (show (Int32.ofInt 1).toInt = 1 by decide) (by omega) (by omega)
              refine zs_iinc (pc := 80) t328_80 (ls' := [(5, .int w21v), (4, .int w14v), (3, .int w13v), (2, .int w2x5), (7, .int w14v), (6, .int w13v), (0, .ref 336), (1, .int a)]) (zml mf328 (by decide)) rfl (c := w21v) w21e rfl ?_
              refine zs_goto (pc := 83) t328_83 ?_
              refine zGo.locals (ls' := [(0, .ref 336), (1, .int a), (2, .int w2x5), (3, .int w13v), (4, .int w14v), (5, .int w21v)]) (by simp) ?_
              have w22 := w21
              exact w2ih (w2m - 1) (by omega) w2x5 w13v w14v w21v w12M ⟨by omega, by omega⟩ ⟨by omega, by omega⟩ w12s w12I (((zFr.refl).trans (w2F.mono rfl)).trans (w12F.mono rfl)) (w12J.trans w2J) (by omega)
            · refine zs_icmp_gtF (pc := 64) t328_64 rfl rfl (by omega) ?_
              refine zs_goto (pc := 67) t328_67 ?_
              obtain ⟨w23v, w23e, w23⟩ := ziadd (a := w2x5) (b := Int32.ofInt 1) rfl (show (Int32.ofInt 1).toInt = 1 by decide) (by omega) (by omega)
              refine zs_iinc (pc := 80) t328_80 (ls' := [(5, .int w23v), (7, .int w14v), (6, .int w13v), (0, .ref 336), (1, .int a), (2, .int w2x2), (3, .int w2x3), (4, .int w2x4)]) (zml mf328 (by decide)) rfl (c := w23v) w23e rfl ?_
              refine zs_goto (pc := 83) t328_83 ?_
              refine zGo.locals (ls' := [(0, .ref 336), (1, .int a), (2, .int w2x2), (3, .int w2x3), (4, .int w2x4), (5, .int w23v)]) (by simp) ?_
              have w24 := w23
              exact w2ih (w2m - 1) (by omega) w2x2 w2x3 w2x4 w23v w12M ⟨by omega, by omega⟩ ⟨by omega, by omega⟩ w12s w12I (((zFr.refl).trans (w2F.mono rfl)).trans (w12F.mono rfl)) (w12J.trans w2J) (by omega)
    refine zGo.locals (ls' := [(0, .ref 336), (1, .int a), (2, .int (-1 : Int32)), (3, .int (0 : Int32)), (4, .int (0 : Int32)), (5, .int (2 : Int32))]) (by simp) ?_
    have w25 := lin1
    have w26 := li0
    have w27 := li0
    have w28 := li2
    exact w2L ((9 - 2 : Int).toNat) (-1 : Int32) (0 : Int32) (0 : Int32) (2 : Int32) M ⟨by decide, by decide⟩ ⟨by decide, by decide⟩ hs hI zFr.refl rfl (by omega)
  · refine zs_invS (pc := 6) (as := [.long a.toInt64, .long (0 : Int64), .long (2 : Int64)]) (st := []) t328_6 (by decide) mf228 rfl rfl ⟨by decide, by decide, Nat.le_of_ble_eq_true rfl, Nat.le_of_ble_eq_true rfl⟩ (K228F (zi2l rfl) ll0 ll2 (by omega) ?_) (fun _ _ q => q)
    show zGo X l 6 0 0 328 9 [(0, .ref 336), (1, .int a)] [.int (0 : Int32)] M _
    refine zs_if_neF (pc := 9) t328_9 li0 (by decide) ?_
    refine zs_iconst (pc := 12) t328_12 (v := -1) (by decide) ?_
    have w29 := ib336_5 hI
    have w30 : (zI M 336 5).toInt = (zI M 336 5).toInt := (congrArg Int32.toInt rfl).trans rfl
    have w31 := lin1
    exact zs_iret (pc := 13) t328_13 mr328 (by decide) (hQ _ _ hs hI (zFr.refl) pR pC pF (by omega))
theorem L300 {X : zX} {l : Launch} {M : zM} {Q : Option Value → zM → Prop} {a b c : Int32} (hs : zSk zMm M) (hI : zIv mLo mHi M) (pR : zPR M) (pC : zPC M) (pF : zPF M) (hQ : ∀ (M' : zM) (v : Int64), zSk zMm M' → zIv mLo mHi M' → zFr [(336, 363, none)] M M' → zPR M' → zPC M' → zPF M' → ((zI M' 336 5).toInt = (zI M 336 5).toInt) → Q (some (.long v)) M') : zCall X l 7 0 0 300 [.ref 336, .int a, .int b, .int c] M Q := by
  have ga := zrg a
  have gb := zrg b
  have gc := zrg c
  refine zs_in (by decide) mf300 (Nat.le_of_ble_eq_true rfl) ?_
  show zGo X l 7 0 0 300 0 [(0, .ref 336), (1, .int a), (2, .int b), (3, .int c)] [] M _
  refine zs_aload_n (pc := 0) t300_0 rfl ?_
  refine zs_invV (pc := 1) (k := 336) (as' := []) (st := []) t300_1 mf268 rfl rfl (Or.inl ⟨by decide, (zk1 (hs.k fk_zMm_336))⟩) ⟨by decide, by decide, Nat.le_of_ble_eq_true rfl, Nat.le_of_ble_eq_true rfl⟩ (K268 hs hI pR pF ?_) (fun _ _ q => q)
  intro w1M w1s w1I w1F w1PF w1PD w1PV
  show zGo X l 7 0 0 300 4 [(0, .ref 336), (1, .int a), (2, .int b), (3, .int c)] [] w1M _
  refine zs_aload_n (pc := 4) t300_4 rfl ?_
  refine zs_iload_n (pc := 5) t300_5 rfl ?_
  refine zs_invV (pc := 6) (k := 336) (as' := [.int a]) (st := []) t300_6 mf297 rfl rfl (Or.inl ⟨by decide, (zk1 (w1s.k fk_zMm_336))⟩) ⟨by decide, by decide, Nat.le_of_ble_eq_true rfl, Nat.le_of_ble_eq_true rfl⟩ (zs_in (by decide) mf297 (Nat.le_of_ble_eq_true rfl) ?_) (fun _ _ q => q)
  show zGo X l 1 0 0 297 0 [(0, .ref 336), (1, .int a)] [] w1M _
  refine zs_iload_n (pc := 0) t297_0 rfl ?_
  refine zs_i2l (pc := 1) t297_1 rfl ?_
  refine zs_lconst (pc := 2) t297_2 (v := 0) (by decide) ?_
  refine zs_aload_n (pc := 3) t297_3 rfl ?_
  have w2 := ib336_22 w1I
  refine zs_get (pc := 4) t297_4 (by decide) (zk1 (w1s.k fk_zMm_336)) (zfvi rfl rfl) ?_
  refine zs_iconst (pc := 7) t297_7 (v := 1) (by decide) ?_
  obtain ⟨w3v, w3e, w3⟩ := zisub (a := (zI w1M 336 22)) (b := (1 : Int32)) rfl li1 (by omega) (by omega)
  refine zs_isub (pc := 8) t297_8 (c := w3v) w3e ?_
  refine zs_i2l (pc := 9) t297_9 rfl ?_
  by_cases w4 : 0 ≤ a.toInt ∧ a.toInt ≤ ((zI w1M 336 22).toInt - 1)
  · refine zs_invS (pc := 10) (as := [.long a.toInt64, .long (0 : Int64), .long w3v.toInt64]) (st := []) t297_10 (by decide) mf228 rfl rfl ⟨by decide, by decide, Nat.le_of_ble_eq_true rfl, Nat.le_of_ble_eq_true rfl⟩ (K228T (zi2l rfl) ll0 (zi2l w3) (by omega) ?_) (fun _ _ q => q)
    show zGo X l 1 0 0 297 13 [(0, .ref 336), (1, .int a)] [.int (1 : Int32)] w1M _
    refine zs_iret (pc := 13) t297_13 mr297 (by decide) ?_
    show zGo X l 7 0 0 300 9 [(0, .ref 336), (1, .int a), (2, .int b), (3, .int c)] [.int (1 : Int32)] w1M _
    refine zs_if_eqF (pc := 9) t300_9 li1 (by decide) ?_
    refine zs_aload_n (pc := 12) t300_12 rfl ?_
    refine zs_iload_n (pc := 13) t300_13 rfl ?_
    refine zs_invV (pc := 14) (k := 336) (as' := [.int b]) (st := []) t300_14 mf297 rfl rfl (Or.inl ⟨by decide, (zk1 (w1s.k fk_zMm_336))⟩) ⟨by decide, by decide, Nat.le_of_ble_eq_true rfl, Nat.le_of_ble_eq_true rfl⟩ (zs_in (by decide) mf297 (Nat.le_of_ble_eq_true rfl) ?_) (fun _ _ q => q)
    show zGo X l 1 0 0 297 0 [(0, .ref 336), (1, .int b)] [] w1M _
    refine zs_iload_n (pc := 0) t297_0 rfl ?_
    refine zs_i2l (pc := 1) t297_1 rfl ?_
    refine zs_lconst (pc := 2) t297_2 (v := 0) (by decide) ?_
    refine zs_aload_n (pc := 3) t297_3 rfl ?_
    refine zs_get (pc := 4) t297_4 (by decide) (zk1 (w1s.k fk_zMm_336)) (zfvi rfl rfl) ?_
    refine zs_iconst (pc := 7) t297_7 (v := 1) (by decide) ?_
    obtain ⟨w5v, w5e, w5⟩ := zisub (a := (zI w1M 336 22)) (b := (1 : Int32)) rfl li1 (by omega) (by omega)
    refine zs_isub (pc := 8) t297_8 (c := w5v) w5e ?_
    refine zs_i2l (pc := 9) t297_9 rfl ?_
    by_cases w6 : 0 ≤ b.toInt ∧ b.toInt ≤ ((zI w1M 336 22).toInt - 1)
    · refine zs_invS (pc := 10) (as := [.long b.toInt64, .long (0 : Int64), .long w5v.toInt64]) (st := []) t297_10 (by decide) mf228 rfl rfl ⟨by decide, by decide, Nat.le_of_ble_eq_true rfl, Nat.le_of_ble_eq_true rfl⟩ (K228T (zi2l rfl) ll0 (zi2l w5) (by omega) ?_) (fun _ _ q => q)
      show zGo X l 1 0 0 297 13 [(0, .ref 336), (1, .int b)] [.int (1 : Int32)] w1M _
      refine zs_iret (pc := 13) t297_13 mr297 (by decide) ?_
      show zGo X l 7 0 0 300 17 [(0, .ref 336), (1, .int a), (2, .int b), (3, .int c)] [.int (1 : Int32)] w1M _
      refine zs_if_eqF (pc := 17) t300_17 li1 (by decide) ?_
      refine zs_iload_n (pc := 20) t300_20 rfl ?_
      refine zs_iload_n (pc := 21) t300_21 rfl ?_
      by_cases w7 : a.toInt = b.toInt
      · refine zs_icmp_eqT (pc := 22) t300_22 rfl rfl (by omega) ?_
        refine zs_ldc2_w (pc := 35) t300_35 (v := -1000000000000) (by decide) ?_
        have w8 := ib336_5 hI
        have w9 : (zI w1M 336 5).toInt = (zI M 336 5).toInt := (congrArg Int32.toInt ((w1F 336 5 rfl).trans rfl)).trans rfl
        have w10 := lln1000000000000
        exact zs_lret (pc := 38) t300_38 mr300 (hQ _ _ w1s w1I ((zFr.refl).trans (w1F.mono rfl)) (zPR.fr pR (w1F.eq rfl)) (zPC.fr pC (w1F.eq rfl)) w1PF (by omega))
      · refine zs_icmp_eqF (pc := 22) t300_22 rfl rfl (by omega) ?_
        refine zs_iload_n (pc := 25) t300_25 rfl ?_
        refine zs_i2l (pc := 26) t300_26 rfl ?_
        refine zs_lconst (pc := 27) t300_27 (v := 0) (by decide) ?_
        refine zs_lconst (pc := 28) t300_28 (v := 1) (by decide) ?_
        by_cases w11 : 0 ≤ c.toInt ∧ c.toInt ≤ 1
        · refine zs_invS (pc := 29) (as := [.long c.toInt64, .long (0 : Int64), .long (1 : Int64)]) (st := []) t300_29 (by decide) mf228 rfl rfl ⟨by decide, by decide, Nat.le_of_ble_eq_true rfl, Nat.le_of_ble_eq_true rfl⟩ (K228T (zi2l rfl) ll0 ll1 (by omega) ?_) (fun _ _ q => q)
          show zGo X l 7 0 0 300 32 [(0, .ref 336), (1, .int a), (2, .int b), (3, .int c)] [.int (1 : Int32)] w1M _
          refine zs_if_neT (pc := 32) t300_32 li1 (by decide) ?_
          refine zs_aload_n (pc := 39) t300_39 rfl ?_
          refine zs_get (pc := 40) t300_40 (by decide) (zk1 (w1s.k fk_zMm_336)) (w1s.p rfl fv_zMm_336_31) ?_
          refine zs_iload_n (pc := 43) t300_43 rfl ?_
          obtain ⟨w12n, w12⟩ : ∃ n : Nat, a.toInt = (n : Int) := ⟨(a.toInt).toNat, by omega⟩
          have w13 := zrg64 (zJ w1M 353 w12n)
          refine zs_lald (pc := 44) t300_44 (j := w12n) (zk1 (w1s.k fk_zMm_353)) (show a.toInt = ((w12n : Nat) : Int) by omega) (zk2 (w1s.k fk_zMm_353) (by omega)) rfl ?_
          refine zs_aload_n (pc := 45) t300_45 rfl ?_
          refine zs_get (pc := 46) t300_46 (by decide) (zk1 (w1s.k fk_zMm_336)) (w1s.p rfl fv_zMm_336_29) ?_
          refine zs_iload_n (pc := 49) t300_49 rfl ?_
          obtain ⟨w14n, w14⟩ : ∃ n : Nat, b.toInt = (n : Int) := ⟨(b.toInt).toNat, by omega⟩
          have w15 := zrg64 (zJ w1M 351 w14n)
          have w16 : (zI w1M 336 22).toInt = (zI w1M 336 22).toInt := (congrArg Int32.toInt rfl).trans rfl
          have w17 : 0 < (zJ w1M 351 w14n).toInt := w1PD w14n (by omega)
          refine zs_lald (pc := 50) t300_50 (j := w14n) (zk1 (w1s.k fk_zMm_351)) (show b.toInt = ((w14n : Nat) : Int) by omega) (zk2 (w1s.k fk_zMm_351) (by omega)) rfl ?_
          obtain ⟨w18v, w18⟩ : ∃ v, (zJ w1M 353 w12n) * (zJ w1M 351 w14n) = v := ⟨_, rfl⟩
          have w18g := zrg64 w18v
          refine zs_lmul (pc := 51) t300_51 (c := w18v) w18 ?_
          refine zs_aload_n (pc := 52) t300_52 rfl ?_
          refine zs_get (pc := 53) t300_53 (by decide) (zk1 (w1s.k fk_zMm_336)) (w1s.p rfl fv_zMm_336_31) ?_
          refine zs_iload_n (pc := 56) t300_56 rfl ?_
          have w19 := zrg64 (zJ w1M 353 w14n)
          refine zs_lald (pc := 57) t300_57 (j := w14n) (zk1 (w1s.k fk_zMm_353)) (show b.toInt = ((w14n : Nat) : Int) by omega) (zk2 (w1s.k fk_zMm_353) (by omega)) rfl ?_
          refine zs_aload_n (pc := 58) t300_58 rfl ?_
          refine zs_get (pc := 59) t300_59 (by decide) (zk1 (w1s.k fk_zMm_336)) (w1s.p rfl fv_zMm_336_29) ?_
          refine zs_iload_n (pc := 62) t300_62 rfl ?_
          have w20 := zrg64 (zJ w1M 351 w12n)
          have w21 : (zI w1M 336 22).toInt = (zI w1M 336 22).toInt := (congrArg Int32.toInt rfl).trans rfl
          have w22 : 0 < (zJ w1M 351 w12n).toInt := w1PD w12n (by omega)
          refine zs_lald (pc := 63) t300_63 (j := w12n) (zk1 (w1s.k fk_zMm_351)) (show a.toInt = ((w12n : Nat) : Int) by omega) (zk2 (w1s.k fk_zMm_351) (by omega)) rfl ?_
          obtain ⟨w23v, w23⟩ : ∃ v, (zJ w1M 353 w14n) * (zJ w1M 351 w12n) = v := ⟨_, rfl⟩
          have w23g := zrg64 w23v
          refine zs_lmul (pc := 64) t300_64 (c := w23v) w23 ?_
          obtain ⟨w24v, w24⟩ : ∃ v, w18v - w23v = v := ⟨_, rfl⟩
          have w24g := zrg64 w24v
          refine zs_lsub (pc := 65) t300_65 (c := w24v) w24 ?_
          refine zs_lstore (pc := 66) t300_66 (ls' := [(4, .long w24v), (0, .ref 336), (1, .int a), (2, .int b), (3, .int c)]) (zml mf300 (by decide)) rfl ?_
          refine zs_lload (pc := 68) t300_68 rfl ?_
          refine zs_lconst (pc := 70) t300_70 (v := 0) (by decide) ?_
          by_cases w25 : w24v.toInt < 0
          · refine zs_lcmp (pc := 71) t300_71 (c := -1) (zlcL rfl ll0 (by omega)) ?_
            refine zs_if_neT (pc := 72) t300_72 lin1 (by decide) ?_
            refine zs_aload_n (pc := 81) t300_81 rfl ?_
            refine zs_get (pc := 82) t300_82 (by decide) (zk1 (w1s.k fk_zMm_336)) (w1s.p rfl fv_zMm_336_30) ?_
            refine zs_iload_n (pc := 85) t300_85 rfl ?_
            have w26 := zrg64 (zJ w1M 352 w14n)
            refine zs_lald (pc := 86) t300_86 (j := w14n) (zk1 (w1s.k fk_zMm_352)) (show b.toInt = ((w14n : Nat) : Int) by omega) (zk2 (w1s.k fk_zMm_352) (by omega)) rfl ?_
            refine zs_aload_n (pc := 87) t300_87 rfl ?_
            refine zs_get (pc := 88) t300_88 (by decide) (zk1 (w1s.k fk_zMm_336)) (w1s.p rfl fv_zMm_336_29) ?_
            refine zs_iload_n (pc := 91) t300_91 rfl ?_
            have w27 := zrg64 (zJ w1M 351 w12n)
            have w28 : (zI w1M 336 22).toInt = (zI w1M 336 22).toInt := (congrArg Int32.toInt rfl).trans rfl
            have w29 : 0 < (zJ w1M 351 w12n).toInt := w1PD w12n (by omega)
            refine zs_lald (pc := 92) t300_92 (j := w12n) (zk1 (w1s.k fk_zMm_351)) (show a.toInt = ((w12n : Nat) : Int) by omega) (zk2 (w1s.k fk_zMm_351) (by omega)) rfl ?_
            obtain ⟨w30v, w30⟩ : ∃ v, (zJ w1M 352 w14n) * (zJ w1M 351 w12n) = v := ⟨_, rfl⟩
            have w30g := zrg64 w30v
            refine zs_lmul (pc := 93) t300_93 (c := w30v) w30 ?_
            refine zs_aload_n (pc := 94) t300_94 rfl ?_
            refine zs_get (pc := 95) t300_95 (by decide) (zk1 (w1s.k fk_zMm_336)) (w1s.p rfl fv_zMm_336_30) ?_
            refine zs_iload_n (pc := 98) t300_98 rfl ?_
            have w31 := zrg64 (zJ w1M 352 w12n)
            refine zs_lald (pc := 99) t300_99 (j := w12n) (zk1 (w1s.k fk_zMm_352)) (show a.toInt = ((w12n : Nat) : Int) by omega) (zk2 (w1s.k fk_zMm_352) (by omega)) rfl ?_
            refine zs_aload_n (pc := 100) t300_100 rfl ?_
            refine zs_get (pc := 101) t300_101 (by decide) (zk1 (w1s.k fk_zMm_336)) (w1s.p rfl fv_zMm_336_29) ?_
            refine zs_iload_n (pc := 104) t300_104 rfl ?_
            have w32 := zrg64 (zJ w1M 351 w14n)
            have w33 : (zI w1M 336 22).toInt = (zI w1M 336 22).toInt := (congrArg Int32.toInt rfl).trans rfl
            have w34 : 0 < (zJ w1M 351 w14n).toInt := w1PD w14n (by omega)
            refine zs_lald (pc := 105) t300_105 (j := w14n) (zk1 (w1s.k fk_zMm_351)) (show b.toInt = ((w14n : Nat) : Int) by omega) (zk2 (w1s.k fk_zMm_351) (by omega)) rfl ?_
            obtain ⟨w35v, w35⟩ : ∃ v, (zJ w1M 352 w12n) * (zJ w1M 351 w14n) = v := ⟨_, rfl⟩
            have w35g := zrg64 w35v
            refine zs_lmul (pc := 106) t300_106 (c := w35v) w35 ?_
            obtain ⟨w36v, w36⟩ : ∃ v, w30v - w35v = v := ⟨_, rfl⟩
            have w36g := zrg64 w36v
            refine zs_lsub (pc := 107) t300_107 (c := w36v) w36 ?_
            refine zs_lload (pc := 108) t300_108 rfl ?_
            refine zs_iload_n (pc := 110) t300_110 rfl ?_
            refine zs_invS (pc := 111) (as := [.long w36v, .long w24v, .int c]) (st := []) t300_111 (by decide) mf298 rfl rfl ⟨by decide, by decide, Nat.le_of_ble_eq_true rfl, Nat.le_of_ble_eq_true rfl⟩ (K298 w1s w1I (by omega) ?_) (fun _ _ q => q)
            intro w37v
            have w37g := zrg64 w37v
            show zGo X l 7 0 0 300 114 [(4, .long w24v), (0, .ref 336), (1, .int a), (2, .int b), (3, .int c)] [.long w37v] w1M _
            have w38 : (zI w1M 336 5).toInt = (zI M 336 5).toInt := (congrArg Int32.toInt ((w1F 336 5 rfl).trans rfl)).trans rfl
            exact zs_lret (pc := 114) t300_114 mr300 (hQ _ _ w1s w1I ((zFr.refl).trans (w1F.mono rfl)) (zPR.fr pR (w1F.eq rfl)) (zPC.fr pC (w1F.eq rfl)) w1PF (by omega))
          by_cases w39 : w24v.toInt = 0
          · refine zs_lcmp (pc := 71) t300_71 (c := 0) (zlcE rfl ll0 (by omega)) ?_
            refine zs_if_neF (pc := 72) t300_72 li0 (by decide) ?_
            refine zs_ldc2_w (pc := 75) t300_75 (v := -2) (by decide) ?_
            refine zs_goto (pc := 78) t300_78 ?_
            have w40 : (zI w1M 336 5).toInt = (zI M 336 5).toInt := (congrArg Int32.toInt ((w1F 336 5 rfl).trans rfl)).trans rfl
            have w41 := lln2
            exact zs_lret (pc := 114) t300_114 mr300 (hQ _ _ w1s w1I ((zFr.refl).trans (w1F.mono rfl)) (zPR.fr pR (w1F.eq rfl)) (zPC.fr pC (w1F.eq rfl)) w1PF (by omega))
          refine zs_lcmp (pc := 71) t300_71 (c := 1) (zlcG rfl ll0 (by omega)) ?_
          refine zs_if_neT (pc := 72) t300_72 li1 (by decide) ?_
          refine zs_aload_n (pc := 81) t300_81 rfl ?_
          refine zs_get (pc := 82) t300_82 (by decide) (zk1 (w1s.k fk_zMm_336)) (w1s.p rfl fv_zMm_336_30) ?_
          refine zs_iload_n (pc := 85) t300_85 rfl ?_
          have w43 := zrg64 (zJ w1M 352 w14n)
          refine zs_lald (pc := 86) t300_86 (j := w14n) (zk1 (w1s.k fk_zMm_352)) (show b.toInt = ((w14n : Nat) : Int) by omega) (zk2 (w1s.k fk_zMm_352) (by omega)) rfl ?_
          refine zs_aload_n (pc := 87) t300_87 rfl ?_
          refine zs_get (pc := 88) t300_88 (by decide) (zk1 (w1s.k fk_zMm_336)) (w1s.p rfl fv_zMm_336_29) ?_
          refine zs_iload_n (pc := 91) t300_91 rfl ?_
          have w44 := zrg64 (zJ w1M 351 w12n)
          have w45 : (zI w1M 336 22).toInt = (zI w1M 336 22).toInt := (congrArg Int32.toInt rfl).trans rfl
          have w46 : 0 < (zJ w1M 351 w12n).toInt := w1PD w12n (by omega)
          refine zs_lald (pc := 92) t300_92 (j := w12n) (zk1 (w1s.k fk_zMm_351)) (show a.toInt = ((w12n : Nat) : Int) by omega) (zk2 (w1s.k fk_zMm_351) (by omega)) rfl ?_
          obtain ⟨w47v, w47⟩ : ∃ v, (zJ w1M 352 w14n) * (zJ w1M 351 w12n) = v := ⟨_, rfl⟩
          have w47g := zrg64 w47v
          refine zs_lmul (pc := 93) t300_93 (c := w47v) w47 ?_
          refine zs_aload_n (pc := 94) t300_94 rfl ?_
          refine zs_get (pc := 95) t300_95 (by decide) (zk1 (w1s.k fk_zMm_336)) (w1s.p rfl fv_zMm_336_30) ?_
          refine zs_iload_n (pc := 98) t300_98 rfl ?_
          have w48 := zrg64 (zJ w1M 352 w12n)
          refine zs_lald (pc := 99) t300_99 (j := w12n) (zk1 (w1s.k fk_zMm_352)) (show a.toInt = ((w12n : Nat) : Int) by omega) (zk2 (w1s.k fk_zMm_352) (by omega)) rfl ?_
          refine zs_aload_n (pc := 100) t300_100 rfl ?_
          refine zs_get (pc := 101) t300_101 (by decide) (zk1 (w1s.k fk_zMm_336)) (w1s.p rfl fv_zMm_336_29) ?_
          refine zs_iload_n (pc := 104) t300_104 rfl ?_
          have w49 := zrg64 (zJ w1M 351 w14n)
          have w50 : (zI w1M 336 22).toInt = (zI w1M 336 22).toInt := (congrArg Int32.toInt rfl).trans rfl
          have w51 : 0 < (zJ w1M 351 w14n).toInt := w1PD w14n (by omega)
          refine zs_lald (pc := 105) t300_105 (j := w14n) (zk1 (w1s.k fk_zMm_351)) (show b.toInt = ((w14n : Nat) : Int) by omega) (zk2 (w1s.k fk_zMm_351) (by omega)) rfl ?_
          obtain ⟨w52v, w52⟩ : ∃ v, (zJ w1M 352 w12n) * (zJ w1M 351 w14n) = v := ⟨_, rfl⟩
          have w52g := zrg64 w52v
          refine zs_lmul (pc := 106) t300_106 (c := w52v) w52 ?_
          obtain ⟨w53v, w53⟩ : ∃ v, w47v - w52v = v := ⟨_, rfl⟩
          have w53g := zrg64 w53v
          refine zs_lsub (pc := 107) t300_107 (c := w53v) w53 ?_
          refine zs_lload (pc := 108) t300_108 rfl ?_
          refine zs_iload_n (pc := 110) t300_110 rfl ?_
          refine zs_invS (pc := 111) (as := [.long w53v, .long w24v, .int c]) (st := []) t300_111 (by decide) mf298 rfl rfl ⟨by decide, by decide, Nat.le_of_ble_eq_true rfl, Nat.le_of_ble_eq_true rfl⟩ (K298 w1s w1I (by omega) ?_) (fun _ _ q => q)
          intro w54v
          have w54g := zrg64 w54v
          show zGo X l 7 0 0 300 114 [(4, .long w24v), (0, .ref 336), (1, .int a), (2, .int b), (3, .int c)] [.long w54v] w1M _
          have w55 : (zI w1M 336 5).toInt = (zI M 336 5).toInt := (congrArg Int32.toInt ((w1F 336 5 rfl).trans rfl)).trans rfl
          exact zs_lret (pc := 114) t300_114 mr300 (hQ _ _ w1s w1I ((zFr.refl).trans (w1F.mono rfl)) (zPR.fr pR (w1F.eq rfl)) (zPC.fr pC (w1F.eq rfl)) w1PF (by omega))
        · refine zs_invS (pc := 29) (as := [.long c.toInt64, .long (0 : Int64), .long (1 : Int64)]) (st := []) t300_29 (by decide) mf228 rfl rfl ⟨by decide, by decide, Nat.le_of_ble_eq_true rfl, Nat.le_of_ble_eq_true rfl⟩ (K228F (zi2l rfl) ll0 ll1 (by omega) ?_) (fun _ _ q => q)
          show zGo X l 7 0 0 300 32 [(0, .ref 336), (1, .int a), (2, .int b), (3, .int c)] [.int (0 : Int32)] w1M _
          refine zs_if_neF (pc := 32) t300_32 li0 (by decide) ?_
          refine zs_ldc2_w (pc := 35) t300_35 (v := -1000000000000) (by decide) ?_
          have w56 : (zI w1M 336 5).toInt = (zI M 336 5).toInt := (congrArg Int32.toInt ((w1F 336 5 rfl).trans rfl)).trans rfl
          have w57 := lln1000000000000
          exact zs_lret (pc := 38) t300_38 mr300 (hQ _ _ w1s w1I ((zFr.refl).trans (w1F.mono rfl)) (zPR.fr pR (w1F.eq rfl)) (zPC.fr pC (w1F.eq rfl)) w1PF (by omega))
    · refine zs_invS (pc := 10) (as := [.long b.toInt64, .long (0 : Int64), .long w5v.toInt64]) (st := []) t297_10 (by decide) mf228 rfl rfl ⟨by decide, by decide, Nat.le_of_ble_eq_true rfl, Nat.le_of_ble_eq_true rfl⟩ (K228F (zi2l rfl) ll0 (zi2l w5) (by omega) ?_) (fun _ _ q => q)
      show zGo X l 1 0 0 297 13 [(0, .ref 336), (1, .int b)] [.int (0 : Int32)] w1M _
      refine zs_iret (pc := 13) t297_13 mr297 (by decide) ?_
      show zGo X l 7 0 0 300 17 [(0, .ref 336), (1, .int a), (2, .int b), (3, .int c)] [.int (0 : Int32)] w1M _
      refine zs_if_eqT (pc := 17) t300_17 li0 (by decide) ?_
      refine zs_ldc2_w (pc := 35) t300_35 (v := -1000000000000) (by decide) ?_
      have w58 : (zI w1M 336 5).toInt = (zI M 336 5).toInt := (congrArg Int32.toInt ((w1F 336 5 rfl).trans rfl)).trans rfl
      have w59 := lln1000000000000
      exact zs_lret (pc := 38) t300_38 mr300 (hQ _ _ w1s w1I ((zFr.refl).trans (w1F.mono rfl)) (zPR.fr pR (w1F.eq rfl)) (zPC.fr pC (w1F.eq rfl)) w1PF (by omega))
  · refine zs_invS (pc := 10) (as := [.long a.toInt64, .long (0 : Int64), .long w3v.toInt64]) (st := []) t297_10 (by decide) mf228 rfl rfl ⟨by decide, by decide, Nat.le_of_ble_eq_true rfl, Nat.le_of_ble_eq_true rfl⟩ (K228F (zi2l rfl) ll0 (zi2l w3) (by omega) ?_) (fun _ _ q => q)
    show zGo X l 1 0 0 297 13 [(0, .ref 336), (1, .int a)] [.int (0 : Int32)] w1M _
    refine zs_iret (pc := 13) t297_13 mr297 (by decide) ?_
    show zGo X l 7 0 0 300 9 [(0, .ref 336), (1, .int a), (2, .int b), (3, .int c)] [.int (0 : Int32)] w1M _
    refine zs_if_eqT (pc := 9) t300_9 li0 (by decide) ?_
    refine zs_ldc2_w (pc := 35) t300_35 (v := -1000000000000) (by decide) ?_
    have w60 : (zI w1M 336 5).toInt = (zI M 336 5).toInt := (congrArg Int32.toInt ((w1F 336 5 rfl).trans rfl)).trans rfl
    have w61 := lln1000000000000
    exact zs_lret (pc := 38) t300_38 mr300 (hQ _ _ w1s w1I ((zFr.refl).trans (w1F.mono rfl)) (zPR.fr pR (w1F.eq rfl)) (zPC.fr pC (w1F.eq rfl)) w1PF (by omega))
theorem L336 {X : zX} {l : Launch} {M : zM} {Q : Option Value → zM → Prop} {a b : Int32} (hs : zSk zMm M) (hI : zIv mLo mHi M) (pR : zPR M) (pC : zPC M) (pF : zPF M) (hQ : ∀ (M' : zM) (v : Int32), zSk zMm M' → zIv mLo mHi M' → zFr [(336, 363, none)] M M' → zPR M' → zPC M' → zPF M' → ((zI M' 336 5).toInt = (zI M 336 5).toInt) → Q (some (.int v)) M') : zCall X l 7 0 0 336 [.ref 336, .int a, .int b] M Q := by
  have ga := zrg a
  have gb := zrg b
  refine zs_in (by decide) mf336 (Nat.le_of_ble_eq_true rfl) ?_
  show zGo X l 7 0 0 336 0 [(0, .ref 336), (1, .int a), (2, .int b)] [] M _
  refine zs_aload_n (pc := 0) t336_0 rfl ?_
  refine zs_invV (pc := 1) (k := 336) (as' := []) (st := []) t336_1 mf268 rfl rfl (Or.inl ⟨by decide, (zk1 (hs.k fk_zMm_336))⟩) ⟨by decide, by decide, Nat.le_of_ble_eq_true rfl, Nat.le_of_ble_eq_true rfl⟩ (K268 hs hI pR pF ?_) (fun _ _ q => q)
  intro w1M w1s w1I w1F w1PF w1PD w1PV
  show zGo X l 7 0 0 336 4 [(0, .ref 336), (1, .int a), (2, .int b)] [] w1M _
  refine zs_aload_n (pc := 4) t336_4 rfl ?_
  refine zs_iload_n (pc := 5) t336_5 rfl ?_
  refine zs_invV (pc := 6) (k := 336) (as' := [.int a]) (st := []) t336_6 mf297 rfl rfl (Or.inl ⟨by decide, (zk1 (w1s.k fk_zMm_336))⟩) ⟨by decide, by decide, Nat.le_of_ble_eq_true rfl, Nat.le_of_ble_eq_true rfl⟩ (zs_in (by decide) mf297 (Nat.le_of_ble_eq_true rfl) ?_) (fun _ _ q => q)
  show zGo X l 1 0 0 297 0 [(0, .ref 336), (1, .int a)] [] w1M _
  refine zs_iload_n (pc := 0) t297_0 rfl ?_
  refine zs_i2l (pc := 1) t297_1 rfl ?_
  refine zs_lconst (pc := 2) t297_2 (v := 0) (by decide) ?_
  refine zs_aload_n (pc := 3) t297_3 rfl ?_
  have w2 := ib336_22 w1I
  refine zs_get (pc := 4) t297_4 (by decide) (zk1 (w1s.k fk_zMm_336)) (zfvi rfl rfl) ?_
  refine zs_iconst (pc := 7) t297_7 (v := 1) (by decide) ?_
  obtain ⟨w3v, w3e, w3⟩ := zisub (a := (zI w1M 336 22)) (b := (1 : Int32)) rfl li1 (by omega) (by omega)
  refine zs_isub (pc := 8) t297_8 (c := w3v) w3e ?_
  refine zs_i2l (pc := 9) t297_9 rfl ?_
  by_cases w4 : 0 ≤ a.toInt ∧ a.toInt ≤ ((zI w1M 336 22).toInt - 1)
  · refine zs_invS (pc := 10) (as := [.long a.toInt64, .long (0 : Int64), .long w3v.toInt64]) (st := []) t297_10 (by decide) mf228 rfl rfl ⟨by decide, by decide, Nat.le_of_ble_eq_true rfl, Nat.le_of_ble_eq_true rfl⟩ (K228T (zi2l rfl) ll0 (zi2l w3) (by omega) ?_) (fun _ _ q => q)
    show zGo X l 1 0 0 297 13 [(0, .ref 336), (1, .int a)] [.int (1 : Int32)] w1M _
    refine zs_iret (pc := 13) t297_13 mr297 (by decide) ?_
    show zGo X l 7 0 0 336 9 [(0, .ref 336), (1, .int a), (2, .int b)] [.int (1 : Int32)] w1M _
    refine zs_if_eqF (pc := 9) t336_9 li1 (by decide) ?_
    refine zs_aload_n (pc := 12) t336_12 rfl ?_
    refine zs_iload_n (pc := 13) t336_13 rfl ?_
    refine zs_invV (pc := 14) (k := 336) (as' := [.int b]) (st := []) t336_14 mf306 rfl rfl (Or.inl ⟨by decide, (zk1 (w1s.k fk_zMm_336))⟩) ⟨by decide, by decide, Nat.le_of_ble_eq_true rfl, Nat.le_of_ble_eq_true rfl⟩ (zs_in (by decide) mf306 (Nat.le_of_ble_eq_true rfl) ?_) (fun _ _ q => q)
    show zGo X l 1 0 0 306 0 [(0, .ref 336), (1, .int b)] [] w1M _
    refine zs_iload_n (pc := 0) t306_0 rfl ?_
    refine zs_i2l (pc := 1) t306_1 rfl ?_
    refine zs_lconst (pc := 2) t306_2 (v := 0) (by decide) ?_
    refine zs_aload_n (pc := 3) t306_3 rfl ?_
    refine zs_get (pc := 4) t306_4 (by decide) (zk1 (w1s.k fk_zMm_336)) (w1s.p rfl fv_zMm_336_0) ?_
    refine zs_iconst (pc := 7) t306_7 (v := 0) (by decide) ?_
    have w5 := ibA0 hI
    refine zs_iald (pc := 8) t306_8 (j := 0) (by decide) (zk1 (w1s.k fk_zMm_337)) li0 (zk2 (w1s.k fk_zMm_337) (by decide)) ((w1F 337 0 rfl).trans rfl) ?_
    refine zs_iconst (pc := 9) t306_9 (v := 1) (by decide) ?_
    obtain ⟨w6v, w6e, w6⟩ := zisub (a := (zI M 337 0)) (b := (1 : Int32)) rfl li1 (by omega) (by omega)
    refine zs_isub (pc := 10) t306_10 (c := w6v) w6e ?_
    refine zs_i2l (pc := 11) t306_11 rfl ?_
    by_cases w7 : 0 ≤ b.toInt ∧ b.toInt ≤ ((zI M 337 0).toInt - 1)
    · refine zs_invS (pc := 12) (as := [.long b.toInt64, .long (0 : Int64), .long w6v.toInt64]) (st := []) t306_12 (by decide) mf228 rfl rfl ⟨by decide, by decide, Nat.le_of_ble_eq_true rfl, Nat.le_of_ble_eq_true rfl⟩ (K228T (zi2l rfl) ll0 (zi2l w6) (by omega) ?_) (fun _ _ q => q)
      show zGo X l 1 0 0 306 15 [(0, .ref 336), (1, .int b)] [.int (1 : Int32)] w1M _
      refine zs_iret (pc := 15) t306_15 mr306 (by decide) ?_
      show zGo X l 7 0 0 336 17 [(0, .ref 336), (1, .int a), (2, .int b)] [.int (1 : Int32)] w1M _
      refine zs_if_eqF (pc := 17) t336_17 li1 (by decide) ?_
      refine zs_aload_n (pc := 20) t336_20 rfl ?_
      refine zs_iload_n (pc := 21) t336_21 rfl ?_
      refine zs_iload_n (pc := 22) t336_22 rfl ?_
      have w8 : (zI w1M 336 22).toInt = (zI w1M 336 22).toInt := (congrArg Int32.toInt rfl).trans rfl
      refine zs_invV (pc := 23) (k := 336) (as' := [.int a, .int b]) (st := []) t336_23 mf337 rfl rfl (Or.inl ⟨by decide, (zk1 (w1s.k fk_zMm_336))⟩) ⟨by decide, by decide, Nat.le_of_ble_eq_true rfl, Nat.le_of_ble_eq_true rfl⟩ (K337 w1s w1I w1PD ⟨by omega, by omega⟩ ⟨by omega, by omega⟩ (by omega) ?_) (fun _ _ q => q)
      intro w9v
      have w9g := zrg w9v
      show zGo X l 7 0 0 336 26 [(0, .ref 336), (1, .int a), (2, .int b)] [.int w9v] w1M _
      refine zs_goto (pc := 26) t336_26 ?_
      have w10 := ib336_5 hI
      have w11 : (zI w1M 336 5).toInt = (zI M 336 5).toInt := (congrArg Int32.toInt ((w1F 336 5 rfl).trans rfl)).trans rfl
      exact zs_iret (pc := 32) t336_32 mr336 rfl (hQ _ _ w1s w1I ((zFr.refl).trans (w1F.mono rfl)) (zPR.fr pR (w1F.eq rfl)) (zPC.fr pC (w1F.eq rfl)) w1PF (by omega))
    · refine zs_invS (pc := 12) (as := [.long b.toInt64, .long (0 : Int64), .long w6v.toInt64]) (st := []) t306_12 (by decide) mf228 rfl rfl ⟨by decide, by decide, Nat.le_of_ble_eq_true rfl, Nat.le_of_ble_eq_true rfl⟩ (K228F (zi2l rfl) ll0 (zi2l w6) (by omega) ?_) (fun _ _ q => q)
      show zGo X l 1 0 0 306 15 [(0, .ref 336), (1, .int b)] [.int (0 : Int32)] w1M _
      refine zs_iret (pc := 15) t306_15 mr306 (by decide) ?_
      show zGo X l 7 0 0 336 17 [(0, .ref 336), (1, .int a), (2, .int b)] [.int (0 : Int32)] w1M _
      refine zs_if_eqT (pc := 17) t336_17 li0 (by decide) ?_
      refine zs_ldc_w (pc := 29) t336_29 (v := -100000) rfl (by decide) ?_
      have w12 : (zI w1M 336 5).toInt = (zI M 336 5).toInt := (congrArg Int32.toInt ((w1F 336 5 rfl).trans rfl)).trans rfl
      have w13 := lin100000
      exact zs_iret (pc := 32) t336_32 mr336 (by decide) (hQ _ _ w1s w1I ((zFr.refl).trans (w1F.mono rfl)) (zPR.fr pR (w1F.eq rfl)) (zPC.fr pC (w1F.eq rfl)) w1PF (by omega))
  · refine zs_invS (pc := 10) (as := [.long a.toInt64, .long (0 : Int64), .long w3v.toInt64]) (st := []) t297_10 (by decide) mf228 rfl rfl ⟨by decide, by decide, Nat.le_of_ble_eq_true rfl, Nat.le_of_ble_eq_true rfl⟩ (K228F (zi2l rfl) ll0 (zi2l w3) (by omega) ?_) (fun _ _ q => q)
    show zGo X l 1 0 0 297 13 [(0, .ref 336), (1, .int a)] [.int (0 : Int32)] w1M _
    refine zs_iret (pc := 13) t297_13 mr297 (by decide) ?_
    show zGo X l 7 0 0 336 9 [(0, .ref 336), (1, .int a), (2, .int b)] [.int (0 : Int32)] w1M _
    refine zs_if_eqT (pc := 9) t336_9 li0 (by decide) ?_
    refine zs_ldc_w (pc := 29) t336_29 (v := -100000) rfl (by decide) ?_
    have w14 : (zI w1M 336 5).toInt = (zI M 336 5).toInt := (congrArg Int32.toInt ((w1F 336 5 rfl).trans rfl)).trans rfl
    have w15 := lin100000
    exact zs_iret (pc := 32) t336_32 mr336 (by decide) (hQ _ _ w1s w1I ((zFr.refl).trans (w1F.mono rfl)) (zPR.fr pR (w1F.eq rfl)) (zPC.fr pC (w1F.eq rfl)) w1PF (by omega))
theorem L338 {X : zX} {l : Launch} {M : zM} {Q : Option Value → zM → Prop} {a : Int32} (hs : zSk zMm M) (hI : zIv mLo mHi M) (pR : zPR M) (pC : zPC M) (pF : zPF M) (hQ : ∀ (M' : zM) (v : Int32), zSk zMm M' → zIv mLo mHi M' → zFr [(336, 363, none)] M M' → zPR M' → zPC M' → zPF M' → ((zI M' 336 5).toInt = (zI M 336 5).toInt) → Q (some (.int v)) M') : zCall X l 7 0 0 338 [.ref 336, .int a] M Q := by
  have ga := zrg a
  refine zs_in (by decide) mf338 (Nat.le_of_ble_eq_true rfl) ?_
  show zGo X l 7 0 0 338 0 [(0, .ref 336), (1, .int a)] [] M _
  refine zs_aload_n (pc := 0) t338_0 rfl ?_
  refine zs_invV (pc := 1) (k := 336) (as' := []) (st := []) t338_1 mf268 rfl rfl (Or.inl ⟨by decide, (zk1 (hs.k fk_zMm_336))⟩) ⟨by decide, by decide, Nat.le_of_ble_eq_true rfl, Nat.le_of_ble_eq_true rfl⟩ (K268 hs hI pR pF ?_) (fun _ _ q => q)
  intro w1M w1s w1I w1F w1PF w1PD w1PV
  show zGo X l 7 0 0 338 4 [(0, .ref 336), (1, .int a)] [] w1M _
  refine zs_aload_n (pc := 4) t338_4 rfl ?_
  refine zs_iload_n (pc := 5) t338_5 rfl ?_
  refine zs_invV (pc := 6) (k := 336) (as' := [.int a]) (st := []) t338_6 mf297 rfl rfl (Or.inl ⟨by decide, (zk1 (w1s.k fk_zMm_336))⟩) ⟨by decide, by decide, Nat.le_of_ble_eq_true rfl, Nat.le_of_ble_eq_true rfl⟩ (zs_in (by decide) mf297 (Nat.le_of_ble_eq_true rfl) ?_) (fun _ _ q => q)
  show zGo X l 1 0 0 297 0 [(0, .ref 336), (1, .int a)] [] w1M _
  refine zs_iload_n (pc := 0) t297_0 rfl ?_
  refine zs_i2l (pc := 1) t297_1 rfl ?_
  refine zs_lconst (pc := 2) t297_2 (v := 0) (by decide) ?_
  refine zs_aload_n (pc := 3) t297_3 rfl ?_
  have w2 := ib336_22 w1I
  refine zs_get (pc := 4) t297_4 (by decide) (zk1 (w1s.k fk_zMm_336)) (zfvi rfl rfl) ?_
  refine zs_iconst (pc := 7) t297_7 (v := 1) (by decide) ?_
  obtain ⟨w3v, w3e, w3⟩ := zisub (a := (zI w1M 336 22)) (b := (1 : Int32)) rfl li1 (by omega) (by omega)
  refine zs_isub (pc := 8) t297_8 (c := w3v) w3e ?_
  refine zs_i2l (pc := 9) t297_9 rfl ?_
  by_cases w4 : 0 ≤ a.toInt ∧ a.toInt ≤ ((zI w1M 336 22).toInt - 1)
  · refine zs_invS (pc := 10) (as := [.long a.toInt64, .long (0 : Int64), .long w3v.toInt64]) (st := []) t297_10 (by decide) mf228 rfl rfl ⟨by decide, by decide, Nat.le_of_ble_eq_true rfl, Nat.le_of_ble_eq_true rfl⟩ (K228T (zi2l rfl) ll0 (zi2l w3) (by omega) ?_) (fun _ _ q => q)
    show zGo X l 1 0 0 297 13 [(0, .ref 336), (1, .int a)] [.int (1 : Int32)] w1M _
    refine zs_iret (pc := 13) t297_13 mr297 (by decide) ?_
    show zGo X l 7 0 0 338 9 [(0, .ref 336), (1, .int a)] [.int (1 : Int32)] w1M _
    refine zs_if_neT (pc := 9) t338_9 li1 (by decide) ?_
    refine zs_iconst (pc := 14) t338_14 (v := 0) (by decide) ?_
    refine zs_istore_n (pc := 15) t338_15 (ls' := [(2, .int (0 : Int32)), (0, .ref 336), (1, .int a)]) (zml mf338 (by decide)) rfl ?_
    refine zs_iconst (pc := 16) t338_16 (v := 0) (by decide) ?_
    refine zs_istore_n (pc := 17) t338_17 (ls' := [(3, .int (0 : Int32)), (2, .int (0 : Int32)), (0, .ref 336), (1, .int a)]) (zml mf338 (by decide)) rfl ?_
    have w5L : ∀ (m : Nat) (w5x2 : Int32) (w5x3 : Int32), (0 ≤ w5x3.toInt ∧ w5x3.toInt ≤ 8) → 8 - w5x3.toInt ≤ (m : Int) → zGo X l 7 0 0 338 18 [(0, .ref 336), (1, .int a), (2, .int w5x2), (3, .int w5x3)] [] w1M Q := by
      intro m
      induction m using Nat.strongRecOn with
      | ind w5m w5ih =>
        intro w5x2 w5x3 w5b3 w5q
        have w5g2 := zrg w5x2
        refine zs_iload_n (pc := 18) t338_18 rfl ?_
        refine zs_aload_n (pc := 19) t338_19 rfl ?_
        refine zs_get (pc := 20) t338_20 (by decide) (zk1 (w1s.k fk_zMm_336)) (w1s.p rfl fv_zMm_336_0) ?_
        refine zs_iconst (pc := 23) t338_23 (v := 0) (by decide) ?_
        have w6 := ibA0 hI
        refine zs_iald (pc := 24) t338_24 (j := 0) (by decide) (zk1 (w1s.k fk_zMm_337)) li0 (zk2 (w1s.k fk_zMm_337) (by decide)) ((w1F 337 0 rfl).trans rfl) ?_
        by_cases w7 : (zI M 337 0).toInt ≤ w5x3.toInt
        · refine zs_icmp_geT (pc := 25) t338_25 rfl rfl (by omega) ?_
          refine zs_iload_n (pc := 68) t338_68 rfl ?_
          have w8 := ib336_5 hI
          have w9 : (zI w1M 336 5).toInt = (zI M 336 5).toInt := (congrArg Int32.toInt ((w1F 336 5 rfl).trans rfl)).trans rfl
          exact zs_iret (pc := 69) t338_69 mr338 rfl (hQ _ _ w1s w1I ((zFr.refl).trans (w1F.mono rfl)) (zPR.fr pR (w1F.eq rfl)) (zPC.fr pC (w1F.eq rfl)) w1PF (by omega))
        · refine zs_icmp_geF (pc := 25) t338_25 rfl rfl (by omega) ?_
          refine zs_iload_n (pc := 28) t338_28 rfl ?_
          refine zs_aload_n (pc := 29) t338_29 rfl ?_
          refine zs_iload_n (pc := 30) t338_30 rfl ?_
          refine zs_invV (pc := 31) (k := 336) (as' := [.int w5x3]) (st := [.int w5x2]) t338_31 mf273 rfl rfl (Or.inl ⟨by decide, (zk1 (w1s.k fk_zMm_336))⟩) ⟨by decide, by decide, Nat.le_of_ble_eq_true rfl, Nat.le_of_ble_eq_true rfl⟩ (zs_in (by decide) mf273 (Nat.le_of_ble_eq_true rfl) ?_) (fun _ _ q => q)
          show zGo X l 0 0 0 273 0 [(0, .ref 336), (1, .int w5x3)] [] w1M _
          refine zs_aload_n (pc := 0) t273_0 rfl ?_
          refine zs_get (pc := 1) t273_1 (by decide) (zk1 (w1s.k fk_zMm_336)) (w1s.p rfl fv_zMm_336_0) ?_
          refine zs_bipush (pc := 4) t273_4 (v := 14) (by decide) ?_
          refine zs_iconst (pc := 6) t273_6 (v := 2) (by decide) ?_
          refine zs_iload_n (pc := 7) t273_7 rfl ?_
          obtain ⟨w10v, w10⟩ : ∃ v, (2 : Int32) * w5x3 = v := ⟨_, rfl⟩
          have w10g : w10v.toInt = 2 * w5x3.toInt := by rw [← w10]; exact zmulc li2 rfl (by omega) (by omega)
          refine zs_imul (pc := 8) t273_8 (c := w10v) w10 ?_
          obtain ⟨w11v, w11e, w11⟩ := ziadd (a := (14 : Int32)) (b := w10v) li14 w10g (by omega) (by omega)
          refine zs_iadd (pc := 9) t273_9 (c := w11v) w11e ?_
          refine zs_iconst (pc := 10) t273_10 (v := 1) (by decide) ?_
          obtain ⟨w12v, w12e, w12⟩ := ziadd (a := w11v) (b := (1 : Int32)) w11 li1 (by omega) (by omega)
          refine zs_iadd (pc := 11) t273_11 (c := w12v) w12e ?_
          obtain ⟨w13n, w13⟩ : ∃ n : Nat, w5x3.toInt = (n : Int) := ⟨(w5x3.toInt).toNat, by omega⟩
          have w14 := zrg (zI M 337 (15 + 2 * w13n))
          refine zs_iald (pc := 12) t273_12 (j := (15 + 2 * w13n)) (by decide) (zk1 (w1s.k fk_zMm_337)) (show w12v.toInt = (((15 + 2 * w13n) : Nat) : Int) by omega) (zk2 (w1s.k fk_zMm_337) (by omega)) ((w1F 337 (15 + 2 * w13n) rfl).trans rfl) ?_
          refine zs_iconst (pc := 13) t273_13 (v := 1) (by decide) ?_
          by_cases w15 : (zI M 337 (15 + 2 * w13n)).toInt ≠ 1
          · refine zs_icmp_neT (pc := 14) t273_14 rfl li1 (by omega) ?_
            refine zs_iconst (pc := 21) t273_21 (v := 0) (by decide) ?_
            refine zs_iret (pc := 22) t273_22 mr273 (by decide) ?_
            show zGo X l 7 0 0 338 34 [(0, .ref 336), (1, .int a), (2, .int w5x2), (3, .int w5x3)] [.int (0 : Int32), .int w5x2] w1M _
            refine zs_if_eqT (pc := 34) t338_34 li0 (by decide) ?_
            refine zs_iconst (pc := 59) t338_59 (v := 0) (by decide) ?_
            obtain ⟨w16v, w16⟩ : ∃ v, w5x2 ||| (0 : Int32) = v := ⟨_, rfl⟩
            have w16g := zrg w16v
            refine zs_ior (pc := 60) t338_60 (c := w16v) w16 ?_
            refine zs_istore_n (pc := 61) t338_61 (ls' := [(2, .int w16v), (0, .ref 336), (1, .int a), (3, .int w5x3)]) (zml mf338 (by decide)) rfl ?_
            obtain ⟨w17v, w17e, w17⟩ := ziadd (a := w5x3) (b := Int32.ofInt 1) rfl (show (Int32.ofInt 1).toInt = 1 by decide) (by omega) (by omega)
            refine zs_iinc (pc := 62) t338_62 (ls' := [(3, .int w17v), (2, .int w16v), (0, .ref 336), (1, .int a)]) (zml mf338 (by decide)) rfl (c := w17v) w17e rfl ?_
            refine zs_goto (pc := 65) t338_65 ?_
            refine zGo.locals (ls' := [(0, .ref 336), (1, .int a), (2, .int w16v), (3, .int w17v)]) (by simp) ?_
            have w18 := w17
            exact w5ih (w5m - 1) (by omega) w16v w17v ⟨by omega, by omega⟩ (by omega)
          · refine zs_icmp_neF (pc := 14) t273_14 rfl li1 (by omega) ?_
            refine zs_iconst (pc := 17) t273_17 (v := 1) (by decide) ?_
            refine zs_goto (pc := 18) t273_18 ?_
            refine zs_iret (pc := 22) t273_22 mr273 (by decide) ?_
            show zGo X l 7 0 0 338 34 [(0, .ref 336), (1, .int a), (2, .int w5x2), (3, .int w5x3)] [.int (1 : Int32), .int w5x2] w1M _
            refine zs_if_eqF (pc := 34) t338_34 li1 (by decide) ?_
            refine zs_aload_n (pc := 37) t338_37 rfl ?_
            refine zs_get (pc := 38) t338_38 (by decide) (zk1 (w1s.k fk_zMm_336)) (w1s.p rfl fv_zMm_336_27) ?_
            refine zs_bipush (pc := 41) t338_41 (v := 8) (by decide) ?_
            refine zs_iload_n (pc := 43) t338_43 rfl ?_
            obtain ⟨w19v, w19⟩ : ∃ v, (8 : Int32) * a = v := ⟨_, rfl⟩
            have w19g : w19v.toInt = 8 * a.toInt := by rw [← w19]; exact zmulc li8 rfl (by omega) (by omega)
            refine zs_imul (pc := 44) t338_44 (c := w19v) w19 ?_
            refine zs_iload_n (pc := 45) t338_45 rfl ?_
            obtain ⟨w20v, w20e, w20⟩ := ziadd (a := w19v) (b := w5x3) w19g rfl (by omega) (by omega)
            refine zs_iadd (pc := 46) t338_46 (c := w20v) w20e ?_
            obtain ⟨w21n, w21⟩ : ∃ n : Nat, a.toInt = (n : Int) := ⟨(a.toInt).toNat, by omega⟩
            have w22 := ib349 w1I (8 * w21n + w13n)
            refine zs_iald (pc := 47) t338_47 (j := (8 * w21n + w13n)) (by decide) (zk1 (w1s.k fk_zMm_349)) (show w20v.toInt = (((8 * w21n + w13n) : Nat) : Int) by omega) (zk2 (w1s.k fk_zMm_349) (by omega)) rfl ?_
            refine zs_bipush (pc := 48) t338_48 (v := -2) (by decide) ?_
            by_cases w23 : (zI w1M 349 (8 * w21n + w13n)).toInt ≠ (-2)
            · refine zs_icmp_neT (pc := 50) t338_50 rfl lin2 (by omega) ?_
              refine zs_iconst (pc := 59) t338_59 (v := 0) (by decide) ?_
              obtain ⟨w24v, w24⟩ : ∃ v, w5x2 ||| (0 : Int32) = v := ⟨_, rfl⟩
              have w24g := zrg w24v
              refine zs_ior (pc := 60) t338_60 (c := w24v) w24 ?_
              refine zs_istore_n (pc := 61) t338_61 (ls' := [(2, .int w24v), (0, .ref 336), (1, .int a), (3, .int w5x3)]) (zml mf338 (by decide)) rfl ?_
              obtain ⟨w25v, w25e, w25⟩ := ziadd (a := w5x3) (b := Int32.ofInt 1) rfl (show (Int32.ofInt 1).toInt = 1 by decide) (by omega) (by omega)
              refine zs_iinc (pc := 62) t338_62 (ls' := [(3, .int w25v), (2, .int w24v), (0, .ref 336), (1, .int a)]) (zml mf338 (by decide)) rfl (c := w25v) w25e rfl ?_
              refine zs_goto (pc := 65) t338_65 ?_
              refine zGo.locals (ls' := [(0, .ref 336), (1, .int a), (2, .int w24v), (3, .int w25v)]) (by simp) ?_
              have w26 := w25
              exact w5ih (w5m - 1) (by omega) w24v w25v ⟨by omega, by omega⟩ (by omega)
            · refine zs_icmp_neF (pc := 50) t338_50 rfl lin2 (by omega) ?_
              refine zs_iconst (pc := 53) t338_53 (v := 1) (by decide) ?_
              refine zs_iload_n (pc := 54) t338_54 rfl ?_
              obtain ⟨w27v, w27⟩ : ∃ v, (1 : Int32) <<< (w5x3 &&& 31) = v := ⟨_, rfl⟩
              have w27g := zrg w27v
              refine zs_ishl (pc := 55) t338_55 (c := w27v) w27 ?_
              refine zs_goto (pc := 56) t338_56 ?_
              obtain ⟨w28v, w28⟩ : ∃ v, w5x2 ||| w27v = v := ⟨_, rfl⟩
              have w28g := zrg w28v
              refine zs_ior (pc := 60) t338_60 (c := w28v) w28 ?_
              refine zs_istore_n (pc := 61) t338_61 (ls' := [(2, .int w28v), (0, .ref 336), (1, .int a), (3, .int w5x3)]) (zml mf338 (by decide)) rfl ?_
              obtain ⟨w29v, w29e, w29⟩ := ziadd (a := w5x3) (b := Int32.ofInt 1) rfl (show (Int32.ofInt 1).toInt = 1 by decide) (by omega) (by omega)
              refine zs_iinc (pc := 62) t338_62 (ls' := [(3, .int w29v), (2, .int w28v), (0, .ref 336), (1, .int a)]) (zml mf338 (by decide)) rfl (c := w29v) w29e rfl ?_
              refine zs_goto (pc := 65) t338_65 ?_
              refine zGo.locals (ls' := [(0, .ref 336), (1, .int a), (2, .int w28v), (3, .int w29v)]) (by simp) ?_
              have w30 := w29
              exact w5ih (w5m - 1) (by omega) w28v w29v ⟨by omega, by omega⟩ (by omega)
    refine zGo.locals (ls' := [(0, .ref 336), (1, .int a), (2, .int (0 : Int32)), (3, .int (0 : Int32))]) (by simp) ?_
    have w31 := li0
    have w32 := li0
    exact w5L ((8 - 0 : Int).toNat) (0 : Int32) (0 : Int32) ⟨by decide, by decide⟩ (by omega)
  · refine zs_invS (pc := 10) (as := [.long a.toInt64, .long (0 : Int64), .long w3v.toInt64]) (st := []) t297_10 (by decide) mf228 rfl rfl ⟨by decide, by decide, Nat.le_of_ble_eq_true rfl, Nat.le_of_ble_eq_true rfl⟩ (K228F (zi2l rfl) ll0 (zi2l w3) (by omega) ?_) (fun _ _ q => q)
    show zGo X l 1 0 0 297 13 [(0, .ref 336), (1, .int a)] [.int (0 : Int32)] w1M _
    refine zs_iret (pc := 13) t297_13 mr297 (by decide) ?_
    show zGo X l 7 0 0 338 9 [(0, .ref 336), (1, .int a)] [.int (0 : Int32)] w1M _
    refine zs_if_neF (pc := 9) t338_9 li0 (by decide) ?_
    refine zs_iconst (pc := 12) t338_12 (v := -1) (by decide) ?_
    have w33 : (zI w1M 336 5).toInt = (zI M 336 5).toInt := (congrArg Int32.toInt ((w1F 336 5 rfl).trans rfl)).trans rfl
    have w34 := lin1
    exact zs_iret (pc := 13) t338_13 mr338 (by decide) (hQ _ _ w1s w1I ((zFr.refl).trans (w1F.mono rfl)) (zPR.fr pR (w1F.eq rfl)) (zPC.fr pC (w1F.eq rfl)) w1PF (by omega))
theorem L339 {X : zX} {l : Launch} {M : zM} {Q : Option Value → zM → Prop} {a b : Int32} (hs : zSk zMm M) (hI : zIv mLo mHi M) (pR : zPR M) (pC : zPC M) (pF : zPF M) (hQ : ∀ (M' : zM) (v : Int32), zSk zMm M' → zIv mLo mHi M' → zFr [(336, 363, none)] M M' → zPR M' → zPC M' → zPF M' → ((zI M' 336 5).toInt = (zI M 336 5).toInt) → Q (some (.int v)) M') : zCall X l 7 0 0 339 [.ref 336, .int a, .int b] M Q := by
  have ga := zrg a
  have gb := zrg b
  refine zs_in (by decide) mf339 (Nat.le_of_ble_eq_true rfl) ?_
  show zGo X l 7 0 0 339 0 [(0, .ref 336), (1, .int a), (2, .int b)] [] M _
  refine zs_aload_n (pc := 0) t339_0 rfl ?_
  refine zs_invV (pc := 1) (k := 336) (as' := []) (st := []) t339_1 mf268 rfl rfl (Or.inl ⟨by decide, (zk1 (hs.k fk_zMm_336))⟩) ⟨by decide, by decide, Nat.le_of_ble_eq_true rfl, Nat.le_of_ble_eq_true rfl⟩ (K268 hs hI pR pF ?_) (fun _ _ q => q)
  intro w1M w1s w1I w1F w1PF w1PD w1PV
  show zGo X l 7 0 0 339 4 [(0, .ref 336), (1, .int a), (2, .int b)] [] w1M _
  refine zs_aload_n (pc := 4) t339_4 rfl ?_
  refine zs_iload_n (pc := 5) t339_5 rfl ?_
  refine zs_invV (pc := 6) (k := 336) (as' := [.int a]) (st := []) t339_6 mf297 rfl rfl (Or.inl ⟨by decide, (zk1 (w1s.k fk_zMm_336))⟩) ⟨by decide, by decide, Nat.le_of_ble_eq_true rfl, Nat.le_of_ble_eq_true rfl⟩ (zs_in (by decide) mf297 (Nat.le_of_ble_eq_true rfl) ?_) (fun _ _ q => q)
  show zGo X l 1 0 0 297 0 [(0, .ref 336), (1, .int a)] [] w1M _
  refine zs_iload_n (pc := 0) t297_0 rfl ?_
  refine zs_i2l (pc := 1) t297_1 rfl ?_
  refine zs_lconst (pc := 2) t297_2 (v := 0) (by decide) ?_
  refine zs_aload_n (pc := 3) t297_3 rfl ?_
  have w2 := ib336_22 w1I
  refine zs_get (pc := 4) t297_4 (by decide) (zk1 (w1s.k fk_zMm_336)) (zfvi rfl rfl) ?_
  refine zs_iconst (pc := 7) t297_7 (v := 1) (by decide) ?_
  obtain ⟨w3v, w3e, w3⟩ := zisub (a := (zI w1M 336 22)) (b := (1 : Int32)) rfl li1 (by omega) (by omega)
  refine zs_isub (pc := 8) t297_8 (c := w3v) w3e ?_
  refine zs_i2l (pc := 9) t297_9 rfl ?_
  by_cases w4 : 0 ≤ a.toInt ∧ a.toInt ≤ ((zI w1M 336 22).toInt - 1)
  · refine zs_invS (pc := 10) (as := [.long a.toInt64, .long (0 : Int64), .long w3v.toInt64]) (st := []) t297_10 (by decide) mf228 rfl rfl ⟨by decide, by decide, Nat.le_of_ble_eq_true rfl, Nat.le_of_ble_eq_true rfl⟩ (K228T (zi2l rfl) ll0 (zi2l w3) (by omega) ?_) (fun _ _ q => q)
    show zGo X l 1 0 0 297 13 [(0, .ref 336), (1, .int a)] [.int (1 : Int32)] w1M _
    refine zs_iret (pc := 13) t297_13 mr297 (by decide) ?_
    show zGo X l 7 0 0 339 9 [(0, .ref 336), (1, .int a), (2, .int b)] [.int (1 : Int32)] w1M _
    refine zs_if_eqF (pc := 9) t339_9 li1 (by decide) ?_
    refine zs_aload_n (pc := 12) t339_12 rfl ?_
    refine zs_iload_n (pc := 13) t339_13 rfl ?_
    refine zs_invV (pc := 14) (k := 336) (as' := [.int b]) (st := []) t339_14 mf306 rfl rfl (Or.inl ⟨by decide, (zk1 (w1s.k fk_zMm_336))⟩) ⟨by decide, by decide, Nat.le_of_ble_eq_true rfl, Nat.le_of_ble_eq_true rfl⟩ (zs_in (by decide) mf306 (Nat.le_of_ble_eq_true rfl) ?_) (fun _ _ q => q)
    show zGo X l 1 0 0 306 0 [(0, .ref 336), (1, .int b)] [] w1M _
    refine zs_iload_n (pc := 0) t306_0 rfl ?_
    refine zs_i2l (pc := 1) t306_1 rfl ?_
    refine zs_lconst (pc := 2) t306_2 (v := 0) (by decide) ?_
    refine zs_aload_n (pc := 3) t306_3 rfl ?_
    refine zs_get (pc := 4) t306_4 (by decide) (zk1 (w1s.k fk_zMm_336)) (w1s.p rfl fv_zMm_336_0) ?_
    refine zs_iconst (pc := 7) t306_7 (v := 0) (by decide) ?_
    have w5 := ibA0 hI
    refine zs_iald (pc := 8) t306_8 (j := 0) (by decide) (zk1 (w1s.k fk_zMm_337)) li0 (zk2 (w1s.k fk_zMm_337) (by decide)) ((w1F 337 0 rfl).trans rfl) ?_
    refine zs_iconst (pc := 9) t306_9 (v := 1) (by decide) ?_
    obtain ⟨w6v, w6e, w6⟩ := zisub (a := (zI M 337 0)) (b := (1 : Int32)) rfl li1 (by omega) (by omega)
    refine zs_isub (pc := 10) t306_10 (c := w6v) w6e ?_
    refine zs_i2l (pc := 11) t306_11 rfl ?_
    by_cases w7 : 0 ≤ b.toInt ∧ b.toInt ≤ ((zI M 337 0).toInt - 1)
    · refine zs_invS (pc := 12) (as := [.long b.toInt64, .long (0 : Int64), .long w6v.toInt64]) (st := []) t306_12 (by decide) mf228 rfl rfl ⟨by decide, by decide, Nat.le_of_ble_eq_true rfl, Nat.le_of_ble_eq_true rfl⟩ (K228T (zi2l rfl) ll0 (zi2l w6) (by omega) ?_) (fun _ _ q => q)
      show zGo X l 1 0 0 306 15 [(0, .ref 336), (1, .int b)] [.int (1 : Int32)] w1M _
      refine zs_iret (pc := 15) t306_15 mr306 (by decide) ?_
      show zGo X l 7 0 0 339 17 [(0, .ref 336), (1, .int a), (2, .int b)] [.int (1 : Int32)] w1M _
      refine zs_if_neT (pc := 17) t339_17 li1 (by decide) ?_
      refine zs_bipush (pc := 22) t339_22 (v := -2) (by decide) ?_
      refine zs_istore_n (pc := 24) t339_24 (ls' := [(3, .int (-2 : Int32)), (0, .ref 336), (1, .int a), (2, .int b)]) (zml mf339 (by decide)) rfl ?_
      refine zs_iconst (pc := 25) t339_25 (v := 0) (by decide) ?_
      refine zs_istore (pc := 26) t339_26 (ls' := [(4, .int (0 : Int32)), (3, .int (-2 : Int32)), (0, .ref 336), (1, .int a), (2, .int b)]) (zml mf339 (by decide)) rfl ?_
      refine zs_iconst (pc := 28) t339_28 (v := 0) (by decide) ?_
      refine zs_istore (pc := 29) t339_29 (ls' := [(5, .int (0 : Int32)), (4, .int (0 : Int32)), (3, .int (-2 : Int32)), (0, .ref 336), (1, .int a), (2, .int b)]) (zml mf339 (by decide)) rfl ?_
      have w8L : ∀ (m : Nat) (w8x3 : Int32) (w8x4 : Int32) (w8x5 : Int32), (0 ≤ w8x5.toInt ∧ w8x5.toInt ≤ 60) → 60 - w8x5.toInt ≤ (m : Int) → zGo X l 7 0 0 339 31 [(0, .ref 336), (1, .int a), (2, .int b), (3, .int w8x3), (4, .int w8x4), (5, .int w8x5)] [] w1M Q := by
        intro m
        induction m using Nat.strongRecOn with
        | ind w8m w8ih =>
          intro w8x3 w8x4 w8x5 w8b5 w8q
          have w8g3 := zrg w8x3
          have w8g4 := zrg w8x4
          refine zs_iload (pc := 31) t339_31 rfl ?_
          refine zs_aload_n (pc := 33) t339_33 rfl ?_
          refine zs_get (pc := 34) t339_34 (by decide) (zk1 (w1s.k fk_zMm_336)) (w1s.p rfl fv_zMm_336_0) ?_
          refine zs_iconst (pc := 37) t339_37 (v := 1) (by decide) ?_
          have w9 := ibA1 hI
          refine zs_iald (pc := 38) t339_38 (j := 1) (by decide) (zk1 (w1s.k fk_zMm_337)) li1 (zk2 (w1s.k fk_zMm_337) (by decide)) ((w1F 337 1 rfl).trans rfl) ?_
          by_cases w10 : (zI M 337 1).toInt ≤ w8x5.toInt
          · refine zs_icmp_geT (pc := 39) t339_39 rfl rfl (by omega) ?_
            refine zs_iload_n (pc := 126) t339_126 rfl ?_
            have w11 := ib336_5 hI
            have w12 : (zI w1M 336 5).toInt = (zI M 336 5).toInt := (congrArg Int32.toInt ((w1F 336 5 rfl).trans rfl)).trans rfl
            exact zs_iret (pc := 127) t339_127 mr339 rfl (hQ _ _ w1s w1I ((zFr.refl).trans (w1F.mono rfl)) (zPR.fr pR (w1F.eq rfl)) (zPC.fr pC (w1F.eq rfl)) w1PF (by omega))
          · refine zs_icmp_geF (pc := 39) t339_39 rfl rfl (by omega) ?_
            refine zs_aload_n (pc := 42) t339_42 rfl ?_
            refine zs_iload (pc := 43) t339_43 rfl ?_
            refine zs_iconst (pc := 45) t339_45 (v := 0) (by decide) ?_
            refine zs_invV (pc := 46) (k := 336) (as' := [.int w8x5, .int (0 : Int32)]) (st := []) t339_46 mf272 rfl rfl (Or.inl ⟨by decide, (zk1 (w1s.k fk_zMm_336))⟩) ⟨by decide, by decide, Nat.le_of_ble_eq_true rfl, Nat.le_of_ble_eq_true rfl⟩ (zs_in (by decide) mf272 (Nat.le_of_ble_eq_true rfl) ?_) (fun _ _ q => q)
            show zGo X l 0 0 0 272 0 [(0, .ref 336), (1, .int w8x5), (2, .int (0 : Int32))] [] w1M _
            refine zs_aload_n (pc := 0) t272_0 rfl ?_
            refine zs_get (pc := 1) t272_1 (by decide) (zk1 (w1s.k fk_zMm_336)) (w1s.p rfl fv_zMm_336_0) ?_
            refine zs_bipush (pc := 4) t272_4 (v := 30) (by decide) ?_
            refine zs_iconst (pc := 6) t272_6 (v := 4) (by decide) ?_
            refine zs_iload_n (pc := 7) t272_7 rfl ?_
            obtain ⟨w13v, w13⟩ : ∃ v, (4 : Int32) * w8x5 = v := ⟨_, rfl⟩
            have w13g : w13v.toInt = 4 * w8x5.toInt := by rw [← w13]; exact zmulc li4 rfl (by omega) (by omega)
            refine zs_imul (pc := 8) t272_8 (c := w13v) w13 ?_
            obtain ⟨w14v, w14e, w14⟩ := ziadd (a := (30 : Int32)) (b := w13v) li30 w13g (by omega) (by omega)
            refine zs_iadd (pc := 9) t272_9 (c := w14v) w14e ?_
            refine zs_iload_n (pc := 10) t272_10 rfl ?_
            obtain ⟨w15v, w15e, w15⟩ := ziadd (a := w14v) (b := (0 : Int32)) w14 li0 (by omega) (by omega)
            refine zs_iadd (pc := 11) t272_11 (c := w15v) w15e ?_
            obtain ⟨w16n, w16⟩ : ∃ n : Nat, w8x5.toInt = (n : Int) := ⟨(w8x5.toInt).toNat, by omega⟩
            have w17 := ibL (j := (30 + 4 * w16n)) hI (by omega) (by omega) (by omega)
            refine zs_iald (pc := 12) t272_12 (j := (30 + 4 * w16n)) (by decide) (zk1 (w1s.k fk_zMm_337)) (show w15v.toInt = (((30 + 4 * w16n) : Nat) : Int) by omega) (zk2 (w1s.k fk_zMm_337) (by omega)) ((w1F 337 (30 + 4 * w16n) rfl).trans rfl) ?_
            refine zs_iret (pc := 13) t272_13 mr272 rfl ?_
            show zGo X l 7 0 0 339 49 [(0, .ref 336), (1, .int a), (2, .int b), (3, .int w8x3), (4, .int w8x4), (5, .int w8x5)] [.int (zI M 337 (30 + 4 * w16n))] w1M _
            refine zs_iload_n (pc := 49) t339_49 rfl ?_
            by_cases w18 : (zI M 337 (30 + 4 * w16n)).toInt ≠ b.toInt
            · refine zs_icmp_neT (pc := 50) t339_50 rfl rfl (by omega) ?_
              obtain ⟨w19v, w19e, w19⟩ := ziadd (a := w8x5) (b := Int32.ofInt 1) rfl (show (Int32.ofInt 1).toInt = 1 by decide) (by omega) (by omega)
              refine zs_iinc (pc := 120) t339_120 (ls' := [(5, .int w19v), (0, .ref 336), (1, .int a), (2, .int b), (3, .int w8x3), (4, .int w8x4)]) (zml mf339 (by decide)) rfl (c := w19v) w19e rfl ?_
              refine zs_goto (pc := 123) t339_123 ?_
              refine zGo.locals (ls' := [(0, .ref 336), (1, .int a), (2, .int b), (3, .int w8x3), (4, .int w8x4), (5, .int w19v)]) (by simp) ?_
              have w20 := w19
              exact w8ih (w8m - 1) (by omega) w8x3 w8x4 w19v ⟨by omega, by omega⟩ (by omega)
            · refine zs_icmp_neF (pc := 50) t339_50 rfl rfl (by omega) ?_
              refine zs_aload_n (pc := 53) t339_53 rfl ?_
              refine zs_iload (pc := 54) t339_54 rfl ?_
              refine zs_iconst (pc := 56) t339_56 (v := -1) (by decide) ?_
              refine zs_invV (pc := 57) (k := 336) (as' := [.int w8x5, .int (-1 : Int32)]) (st := []) t339_57 mf271 rfl rfl (Or.inl ⟨by decide, (zk1 (w1s.k fk_zMm_336))⟩) ⟨by decide, by decide, Nat.le_of_ble_eq_true rfl, Nat.le_of_ble_eq_true rfl⟩ (K271 w1s w1I ⟨by omega, by omega⟩ ?_) (fun _ _ q => q)
              intro w21v  w21a w21b
              show zGo X l 7 0 0 339 60 [(0, .ref 336), (1, .int a), (2, .int b), (3, .int w8x3), (4, .int w8x4), (5, .int w8x5)] [.int w21v] w1M _
              by_cases w22 : w21v.toInt = 0
              · refine zs_if_eqT (pc := 60) t339_60 rfl (by omega) ?_
                obtain ⟨w23v, w23e, w23⟩ := ziadd (a := w8x5) (b := Int32.ofInt 1) rfl (show (Int32.ofInt 1).toInt = 1 by decide) (by omega) (by omega)
                refine zs_iinc (pc := 120) t339_120 (ls' := [(5, .int w23v), (0, .ref 336), (1, .int a), (2, .int b), (3, .int w8x3), (4, .int w8x4)]) (zml mf339 (by decide)) rfl (c := w23v) w23e rfl ?_
                refine zs_goto (pc := 123) t339_123 ?_
                refine zGo.locals (ls' := [(0, .ref 336), (1, .int a), (2, .int b), (3, .int w8x3), (4, .int w8x4), (5, .int w23v)]) (by simp) ?_
                have w24 := w23
                exact w8ih (w8m - 1) (by omega) w8x3 w8x4 w23v ⟨by omega, by omega⟩ (by omega)
              · refine zs_if_eqF (pc := 60) t339_60 rfl (by omega) ?_
                refine zs_aload_n (pc := 63) t339_63 rfl ?_
                refine zs_get (pc := 64) t339_64 (by decide) (zk1 (w1s.k fk_zMm_336)) (w1s.p rfl fv_zMm_336_28) ?_
                refine zs_iload (pc := 67) t339_67 rfl ?_
                have w25 := zrg (zI w1M 350 w16n)
                refine zs_iald (pc := 69) t339_69 (j := w16n) (by decide) (zk1 (w1s.k fk_zMm_350)) (show w8x5.toInt = ((w16n : Nat) : Int) by omega) (zk2 (w1s.k fk_zMm_350) (by omega)) rfl ?_
                refine zs_bipush (pc := 70) t339_70 (v := -2) (by decide) ?_
                by_cases w26 : (zI w1M 350 w16n).toInt = (-2)
                · refine zs_icmp_eqT (pc := 72) t339_72 rfl lin2 (by omega) ?_
                  refine zs_aload_n (pc := 78) t339_78 rfl ?_
                  refine zs_iload (pc := 79) t339_79 rfl ?_
                  refine zs_iconst (pc := 81) t339_81 (v := 1) (by decide) ?_
                  refine zs_invV (pc := 82) (k := 336) (as' := [.int w8x5, .int (1 : Int32)]) (st := []) t339_82 mf272 rfl rfl (Or.inl ⟨by decide, (zk1 (w1s.k fk_zMm_336))⟩) ⟨by decide, by decide, Nat.le_of_ble_eq_true rfl, Nat.le_of_ble_eq_true rfl⟩ (zs_in (by decide) mf272 (Nat.le_of_ble_eq_true rfl) ?_) (fun _ _ q => q)
                  show zGo X l 0 0 0 272 0 [(0, .ref 336), (1, .int w8x5), (2, .int (1 : Int32))] [] w1M _
                  refine zs_aload_n (pc := 0) t272_0 rfl ?_
                  refine zs_get (pc := 1) t272_1 (by decide) (zk1 (w1s.k fk_zMm_336)) (w1s.p rfl fv_zMm_336_0) ?_
                  refine zs_bipush (pc := 4) t272_4 (v := 30) (by decide) ?_
                  refine zs_iconst (pc := 6) t272_6 (v := 4) (by decide) ?_
                  refine zs_iload_n (pc := 7) t272_7 rfl ?_
                  obtain ⟨w27v, w27⟩ : ∃ v, (4 : Int32) * w8x5 = v := ⟨_, rfl⟩
                  have w27g : w27v.toInt = 4 * w8x5.toInt := by rw [← w27]; exact zmulc li4 rfl (by omega) (by omega)
                  refine zs_imul (pc := 8) t272_8 (c := w27v) w27 ?_
                  obtain ⟨w28v, w28e, w28⟩ := ziadd (a := (30 : Int32)) (b := w27v) li30 w27g (by omega) (by omega)
                  refine zs_iadd (pc := 9) t272_9 (c := w28v) w28e ?_
                  refine zs_iload_n (pc := 10) t272_10 rfl ?_
                  obtain ⟨w29v, w29e, w29⟩ := ziadd (a := w28v) (b := (1 : Int32)) w28 li1 (by omega) (by omega)
                  refine zs_iadd (pc := 11) t272_11 (c := w29v) w29e ?_
                  have w30 := zrg (zI M 337 (31 + 4 * w16n))
                  refine zs_iald (pc := 12) t272_12 (j := (31 + 4 * w16n)) (by decide) (zk1 (w1s.k fk_zMm_337)) (show w29v.toInt = (((31 + 4 * w16n) : Nat) : Int) by omega) (zk2 (w1s.k fk_zMm_337) (by omega)) ((w1F 337 (31 + 4 * w16n) rfl).trans rfl) ?_
                  refine zs_iret (pc := 13) t272_13 mr272 rfl ?_
                  show zGo X l 7 0 0 339 85 [(0, .ref 336), (1, .int a), (2, .int b), (3, .int w8x3), (4, .int w8x4), (5, .int w8x5)] [.int (zI M 337 (31 + 4 * w16n))] w1M _
                  refine zs_aload_n (pc := 85) t339_85 rfl ?_
                  refine zs_iload_n (pc := 86) t339_86 rfl ?_
                  refine zs_iload_n (pc := 87) t339_87 rfl ?_
                  have w31 : (zI w1M 336 22).toInt = (zI w1M 336 22).toInt := (congrArg Int32.toInt rfl).trans rfl
                  refine zs_invV (pc := 88) (k := 336) (as' := [.int a, .int b]) (st := [.int (zI M 337 (31 + 4 * w16n))]) t339_88 mf337 rfl rfl (Or.inl ⟨by decide, (zk1 (w1s.k fk_zMm_336))⟩) ⟨by decide, by decide, Nat.le_of_ble_eq_true rfl, Nat.le_of_ble_eq_true rfl⟩ (K337 w1s w1I w1PD ⟨by omega, by omega⟩ ⟨by omega, by omega⟩ (by omega) ?_) (fun _ _ q => q)
                  intro w32v
                  have w32g := zrg w32v
                  show zGo X l 7 0 0 339 91 [(0, .ref 336), (1, .int a), (2, .int b), (3, .int w8x3), (4, .int w8x4), (5, .int w8x5)] [.int w32v, .int (zI M 337 (31 + 4 * w16n))] w1M _
                  obtain ⟨w33v, w33⟩ : ∃ v, v = (zI M 337 (31 + 4 * w16n)) - w32v := ⟨_, rfl⟩
                  have w33g := zrg w33v
                  refine zs_isub (pc := 91) t339_91 (c := w33v) w33.symm ?_
                  refine zs_invS (pc := 92) (as := [.int w33v]) (st := []) t339_92 (by decide) mf280 rfl rfl ⟨by decide, by decide, Nat.le_of_ble_eq_true rfl, Nat.le_of_ble_eq_true rfl⟩ (zs_in (by decide) mf280 (Nat.le_of_ble_eq_true rfl) ?_) (fun _ _ q => q)
                  show zGo X l 0 0 0 280 0 [(0, .int w33v)] [] w1M _
                  refine zs_iload_n (pc := 0) t280_0 rfl ?_
                  by_cases w34 : 0 ≤ w33v.toInt
                  · refine zs_if_geT (pc := 1) t280_1 rfl (by omega) ?_
                    refine zs_iload_n (pc := 9) t280_9 rfl ?_
                    refine zs_iret (pc := 10) t280_10 mr280 rfl ?_
                    show zGo X l 7 0 0 339 95 [(0, .ref 336), (1, .int a), (2, .int b), (3, .int w8x3), (4, .int w8x4), (5, .int w8x5)] [.int w33v] w1M _
                    refine zs_istore (pc := 95) t339_95 (ls' := [(6, .int w33v), (0, .ref 336), (1, .int a), (2, .int b), (3, .int w8x3), (4, .int w8x4), (5, .int w8x5)]) (zml mf339 (by decide)) rfl ?_
                    refine zs_iload_n (pc := 97) t339_97 rfl ?_
                    refine zs_bipush (pc := 98) t339_98 (v := -2) (by decide) ?_
                    by_cases w35 : w8x3.toInt = (-2)
                    · refine zs_icmp_eqT (pc := 100) t339_100 rfl lin2 (by omega) ?_
                      refine zs_iload (pc := 113) t339_113 rfl ?_
                      refine zs_istore_n (pc := 115) t339_115 (ls' := [(3, .int w8x5), (6, .int w33v), (0, .ref 336), (1, .int a), (2, .int b), (4, .int w8x4), (5, .int w8x5)]) (zml mf339 (by decide)) rfl ?_
                      refine zs_iload (pc := 116) t339_116 rfl ?_
                      refine zs_istore (pc := 118) t339_118 (ls' := [(4, .int w33v), (3, .int w8x5), (6, .int w33v), (0, .ref 336), (1, .int a), (2, .int b), (5, .int w8x5)]) (zml mf339 (by decide)) rfl ?_
                      obtain ⟨w36v, w36e, w36⟩ := ziadd (a := w8x5) (b := Int32.ofInt 1) rfl (show (Int32.ofInt 1).toInt = 1 by decide) (by omega) (by omega)
                      refine zs_iinc (pc := 120) t339_120 (ls' := [(5, .int w36v), (4, .int w33v), (3, .int w8x5), (6, .int w33v), (0, .ref 336), (1, .int a), (2, .int b)]) (zml mf339 (by decide)) rfl (c := w36v) w36e rfl ?_
                      refine zs_goto (pc := 123) t339_123 ?_
                      refine zGo.locals (ls' := [(0, .ref 336), (1, .int a), (2, .int b), (3, .int w8x5), (4, .int w33v), (5, .int w36v)]) (by simp) ?_
                      have w37 := w36
                      exact w8ih (w8m - 1) (by omega) w8x5 w33v w36v ⟨by omega, by omega⟩ (by omega)
                    · refine zs_icmp_eqF (pc := 100) t339_100 rfl lin2 (by omega) ?_
                      refine zs_iload (pc := 103) t339_103 rfl ?_
                      refine zs_iload (pc := 105) t339_105 rfl ?_
                      by_cases w38 : w33v.toInt < w8x4.toInt
                      · refine zs_icmp_ltT (pc := 107) t339_107 rfl rfl (by omega) ?_
                        refine zs_iload (pc := 113) t339_113 rfl ?_
                        refine zs_istore_n (pc := 115) t339_115 (ls' := [(3, .int w8x5), (6, .int w33v), (0, .ref 336), (1, .int a), (2, .int b), (4, .int w8x4), (5, .int w8x5)]) (zml mf339 (by decide)) rfl ?_
                        refine zs_iload (pc := 116) t339_116 rfl ?_
                        refine zs_istore (pc := 118) t339_118 (ls' := [(4, .int w33v), (3, .int w8x5), (6, .int w33v), (0, .ref 336), (1, .int a), (2, .int b), (5, .int w8x5)]) (zml mf339 (by decide)) rfl ?_
                        obtain ⟨w39v, w39e, w39⟩ := ziadd (a := w8x5) (b := Int32.ofInt 1) rfl (show (Int32.ofInt 1).toInt = 1 by decide) (by omega) (by omega)
                        refine zs_iinc (pc := 120) t339_120 (ls' := [(5, .int w39v), (4, .int w33v), (3, .int w8x5), (6, .int w33v), (0, .ref 336), (1, .int a), (2, .int b)]) (zml mf339 (by decide)) rfl (c := w39v) w39e rfl ?_
                        refine zs_goto (pc := 123) t339_123 ?_
                        refine zGo.locals (ls' := [(0, .ref 336), (1, .int a), (2, .int b), (3, .int w8x5), (4, .int w33v), (5, .int w39v)]) (by simp) ?_
                        have w40 := w39
                        exact w8ih (w8m - 1) (by omega) w8x5 w33v w39v ⟨by omega, by omega⟩ (by omega)
                      · refine zs_icmp_ltF (pc := 107) t339_107 rfl rfl (by omega) ?_
                        refine zs_goto (pc := 110) t339_110 ?_
                        obtain ⟨w41v, w41e, w41⟩ := ziadd (a := w8x5) (b := Int32.ofInt 1) rfl (show (Int32.ofInt 1).toInt = 1 by decide) (by omega) (by omega)
                        refine zs_iinc (pc := 120) t339_120 (ls' := [(5, .int w41v), (6, .int w33v), (0, .ref 336), (1, .int a), (2, .int b), (3, .int w8x3), (4, .int w8x4)]) (zml mf339 (by decide)) rfl (c := w41v) w41e rfl ?_
                        refine zs_goto (pc := 123) t339_123 ?_
                        refine zGo.locals (ls' := [(0, .ref 336), (1, .int a), (2, .int b), (3, .int w8x3), (4, .int w8x4), (5, .int w41v)]) (by simp) ?_
                        have w42 := w41
                        exact w8ih (w8m - 1) (by omega) w8x3 w8x4 w41v ⟨by omega, by omega⟩ (by omega)
                  · refine zs_if_geF (pc := 1) t280_1 rfl (by omega) ?_
                    refine zs_iload_n (pc := 4) t280_4 rfl ?_
                    obtain ⟨w43v, w43e⟩ : ∃ v, -w33v = v := ⟨_, rfl⟩
                    have w43 := zrg w43v
                    refine zs_ineg (pc := 5) t280_5 (c := w43v) w43e ?_
                    refine zs_goto (pc := 6) t280_6 ?_
                    refine zs_iret (pc := 10) t280_10 mr280 rfl ?_
                    show zGo X l 7 0 0 339 95 [(0, .ref 336), (1, .int a), (2, .int b), (3, .int w8x3), (4, .int w8x4), (5, .int w8x5)] [.int w43v] w1M _
                    refine zs_istore (pc := 95) t339_95 (ls' := [(6, .int w43v), (0, .ref 336), (1, .int a), (2, .int b), (3, .int w8x3), (4, .int w8x4), (5, .int w8x5)]) (zml mf339 (by decide)) rfl ?_
                    refine zs_iload_n (pc := 97) t339_97 rfl ?_
                    refine zs_bipush (pc := 98) t339_98 (v := -2) (by decide) ?_
                    by_cases w44 : w8x3.toInt = (-2)
                    · refine zs_icmp_eqT (pc := 100) t339_100 rfl lin2 (by omega) ?_
                      refine zs_iload (pc := 113) t339_113 rfl ?_
                      refine zs_istore_n (pc := 115) t339_115 (ls' := [(3, .int w8x5), (6, .int w43v), (0, .ref 336), (1, .int a), (2, .int b), (4, .int w8x4), (5, .int w8x5)]) (zml mf339 (by decide)) rfl ?_
                      refine zs_iload (pc := 116) t339_116 rfl ?_
                      refine zs_istore (pc := 118) t339_118 (ls' := [(4, .int w43v), (3, .int w8x5), (6, .int w43v), (0, .ref 336), (1, .int a), (2, .int b), (5, .int w8x5)]) (zml mf339 (by decide)) rfl ?_
                      obtain ⟨w45v, w45e, w45⟩ := ziadd (a := w8x5) (b := Int32.ofInt 1) rfl (show (Int32.ofInt 1).toInt = 1 by decide) (by omega) (by omega)
                      refine zs_iinc (pc := 120) t339_120 (ls' := [(5, .int w45v), (4, .int w43v), (3, .int w8x5), (6, .int w43v), (0, .ref 336), (1, .int a), (2, .int b)]) (zml mf339 (by decide)) rfl (c := w45v) w45e rfl ?_
                      refine zs_goto (pc := 123) t339_123 ?_
                      refine zGo.locals (ls' := [(0, .ref 336), (1, .int a), (2, .int b), (3, .int w8x5), (4, .int w43v), (5, .int w45v)]) (by simp) ?_
                      have w46 := w45
                      exact w8ih (w8m - 1) (by omega) w8x5 w43v w45v ⟨by omega, by omega⟩ (by omega)
                    · refine zs_icmp_eqF (pc := 100) t339_100 rfl lin2 (by omega) ?_
                      refine zs_iload (pc := 103) t339_103 rfl ?_
                      refine zs_iload (pc := 105) t339_105 rfl ?_
                      by_cases w47 : w43v.toInt < w8x4.toInt
                      · refine zs_icmp_ltT (pc := 107) t339_107 rfl rfl (by omega) ?_
                        refine zs_iload (pc := 113) t339_113 rfl ?_
                        refine zs_istore_n (pc := 115) t339_115 (ls' := [(3, .int w8x5), (6, .int w43v), (0, .ref 336), (1, .int a), (2, .int b), (4, .int w8x4), (5, .int w8x5)]) (zml mf339 (by decide)) rfl ?_
                        refine zs_iload (pc := 116) t339_116 rfl ?_
                        refine zs_istore (pc := 118) t339_118 (ls' := [(4, .int w43v), (3, .int w8x5), (6, .int w43v), (0, .ref 336), (1, .int a), (2, .int b), (5, .int w8x5)]) (zml mf339 (by decide)) rfl ?_
                        obtain ⟨w48v, w48e, w48⟩ := ziadd (a := w8x5) (b := Int32.ofInt 1) rfl (show (Int32.ofInt 1).toInt = 1 by decide) (by omega) (by omega)
                        refine zs_iinc (pc := 120) t339_120 (ls' := [(5, .int w48v), (4, .int w43v), (3, .int w8x5), (6, .int w43v), (0, .ref 336), (1, .int a), (2, .int b)]) (zml mf339 (by decide)) rfl (c := w48v) w48e rfl ?_
                        refine zs_goto (pc := 123) t339_123 ?_
                        refine zGo.locals (ls' := [(0, .ref 336), (1, .int a), (2, .int b), (3, .int w8x5), (4, .int w43v), (5, .int w48v)]) (by simp) ?_
                        have w49 := w48
                        exact w8ih (w8m - 1) (by omega) w8x5 w43v w48v ⟨by omega, by omega⟩ (by omega)
                      · refine zs_icmp_ltF (pc := 107) t339_107 rfl rfl (by omega) ?_
                        refine zs_goto (pc := 110) t339_110 ?_
                        obtain ⟨w50v, w50e, w50⟩ := ziadd (a := w8x5) (b := Int32.ofInt 1) rfl (show (Int32.ofInt 1).toInt = 1 by decide) (by omega) (by omega)
                        refine zs_iinc (pc := 120) t339_120 (ls' := [(5, .int w50v), (6, .int w43v), (0, .ref 336), (1, .int a), (2, .int b), (3, .int w8x3), (4, .int w8x4)]) (zml mf339 (by decide)) rfl (c := w50v) w50e rfl ?_
                        refine zs_goto (pc := 123) t339_123 ?_
                        refine zGo.locals (ls' := [(0, .ref 336), (1, .int a), (2, .int b), (3, .int w8x3), (4, .int w8x4), (5, .int w50v)]) (by simp) ?_
                        have w51 := w50
                        exact w8ih (w8m - 1) (by omega) w8x3 w8x4 w50v ⟨by omega, by omega⟩ (by omega)
                · refine zs_icmp_eqF (pc := 72) t339_72 rfl lin2 (by omega) ?_
                  refine zs_goto (pc := 75) t339_75 ?_
                  obtain ⟨w52v, w52e, w52⟩ := ziadd (a := w8x5) (b := Int32.ofInt 1) rfl (show (Int32.ofInt 1).toInt = 1 by decide) (by omega) (by omega)
                  refine zs_iinc (pc := 120) t339_120 (ls' := [(5, .int w52v), (0, .ref 336), (1, .int a), (2, .int b), (3, .int w8x3), (4, .int w8x4)]) (zml mf339 (by decide)) rfl (c := w52v) w52e rfl ?_
                  refine zs_goto (pc := 123) t339_123 ?_
                  refine zGo.locals (ls' := [(0, .ref 336), (1, .int a), (2, .int b), (3, .int w8x3), (4, .int w8x4), (5, .int w52v)]) (by simp) ?_
                  have w53 := w52
                  exact w8ih (w8m - 1) (by omega) w8x3 w8x4 w52v ⟨by omega, by omega⟩ (by omega)
      refine zGo.locals (ls' := [(0, .ref 336), (1, .int a), (2, .int b), (3, .int (-2 : Int32)), (4, .int (0 : Int32)), (5, .int (0 : Int32))]) (by simp) ?_
      have w54 := lin2
      have w55 := li0
      have w56 := li0
      exact w8L ((60 - 0 : Int).toNat) (-2 : Int32) (0 : Int32) (0 : Int32) ⟨by decide, by decide⟩ (by omega)
    · refine zs_invS (pc := 12) (as := [.long b.toInt64, .long (0 : Int64), .long w6v.toInt64]) (st := []) t306_12 (by decide) mf228 rfl rfl ⟨by decide, by decide, Nat.le_of_ble_eq_true rfl, Nat.le_of_ble_eq_true rfl⟩ (K228F (zi2l rfl) ll0 (zi2l w6) (by omega) ?_) (fun _ _ q => q)
      show zGo X l 1 0 0 306 15 [(0, .ref 336), (1, .int b)] [.int (0 : Int32)] w1M _
      refine zs_iret (pc := 15) t306_15 mr306 (by decide) ?_
      show zGo X l 7 0 0 339 17 [(0, .ref 336), (1, .int a), (2, .int b)] [.int (0 : Int32)] w1M _
      refine zs_if_neF (pc := 17) t339_17 li0 (by decide) ?_
      refine zs_iconst (pc := 20) t339_20 (v := -1) (by decide) ?_
      have w57 : (zI w1M 336 5).toInt = (zI M 336 5).toInt := (congrArg Int32.toInt ((w1F 336 5 rfl).trans rfl)).trans rfl
      have w58 := lin1
      exact zs_iret (pc := 21) t339_21 mr339 (by decide) (hQ _ _ w1s w1I ((zFr.refl).trans (w1F.mono rfl)) (zPR.fr pR (w1F.eq rfl)) (zPC.fr pC (w1F.eq rfl)) w1PF (by omega))
  · refine zs_invS (pc := 10) (as := [.long a.toInt64, .long (0 : Int64), .long w3v.toInt64]) (st := []) t297_10 (by decide) mf228 rfl rfl ⟨by decide, by decide, Nat.le_of_ble_eq_true rfl, Nat.le_of_ble_eq_true rfl⟩ (K228F (zi2l rfl) ll0 (zi2l w3) (by omega) ?_) (fun _ _ q => q)
    show zGo X l 1 0 0 297 13 [(0, .ref 336), (1, .int a)] [.int (0 : Int32)] w1M _
    refine zs_iret (pc := 13) t297_13 mr297 (by decide) ?_
    show zGo X l 7 0 0 339 9 [(0, .ref 336), (1, .int a), (2, .int b)] [.int (0 : Int32)] w1M _
    refine zs_if_eqT (pc := 9) t339_9 li0 (by decide) ?_
    refine zs_iconst (pc := 20) t339_20 (v := -1) (by decide) ?_
    have w59 : (zI w1M 336 5).toInt = (zI M 336 5).toInt := (congrArg Int32.toInt ((w1F 336 5 rfl).trans rfl)).trans rfl
    have w60 := lin1
    exact zs_iret (pc := 21) t339_21 mr339 (by decide) (hQ _ _ w1s w1I ((zFr.refl).trans (w1F.mono rfl)) (zPR.fr pR (w1F.eq rfl)) (zPC.fr pC (w1F.eq rfl)) w1PF (by omega))
theorem L340 {X : zX} {l : Launch} {M : zM} {Q : Option Value → zM → Prop} {a b : Int32} (hs : zSk zMm M) (hI : zIv mLo mHi M) (pR : zPR M) (pC : zPC M) (pF : zPF M) (hQ : ∀ (M' : zM) (v : Int32), zSk zMm M' → zIv mLo mHi M' → zFr [(336, 363, none)] M M' → zPR M' → zPC M' → zPF M' → ((zI M' 336 5).toInt = (zI M 336 5).toInt) → Q (some (.int v)) M') : zCall X l 7 0 0 340 [.ref 336, .int a, .int b] M Q := by
  have ga := zrg a
  have gb := zrg b
  refine zs_in (by decide) mf340 (Nat.le_of_ble_eq_true rfl) ?_
  show zGo X l 7 0 0 340 0 [(0, .ref 336), (1, .int a), (2, .int b)] [] M _
  refine zs_aload_n (pc := 0) t340_0 rfl ?_
  refine zs_iload_n (pc := 1) t340_1 rfl ?_
  refine zs_invV (pc := 2) (k := 336) (as' := [.int a]) (st := []) t340_2 mf306 rfl rfl (Or.inl ⟨by decide, (zk1 (hs.k fk_zMm_336))⟩) ⟨by decide, by decide, Nat.le_of_ble_eq_true rfl, Nat.le_of_ble_eq_true rfl⟩ (zs_in (by decide) mf306 (Nat.le_of_ble_eq_true rfl) ?_) (fun _ _ q => q)
  show zGo X l 1 0 0 306 0 [(0, .ref 336), (1, .int a)] [] M _
  refine zs_iload_n (pc := 0) t306_0 rfl ?_
  refine zs_i2l (pc := 1) t306_1 rfl ?_
  refine zs_lconst (pc := 2) t306_2 (v := 0) (by decide) ?_
  refine zs_aload_n (pc := 3) t306_3 rfl ?_
  refine zs_get (pc := 4) t306_4 (by decide) (zk1 (hs.k fk_zMm_336)) (hs.p rfl fv_zMm_336_0) ?_
  refine zs_iconst (pc := 7) t306_7 (v := 0) (by decide) ?_
  have w1 := ibA0 hI
  refine zs_iald (pc := 8) t306_8 (j := 0) (by decide) (zk1 (hs.k fk_zMm_337)) li0 (zk2 (hs.k fk_zMm_337) (by decide)) rfl ?_
  refine zs_iconst (pc := 9) t306_9 (v := 1) (by decide) ?_
  obtain ⟨w2v, w2e, w2⟩ := zisub (a := (zI M 337 0)) (b := (1 : Int32)) rfl li1 (by omega) (by omega)
  refine zs_isub (pc := 10) t306_10 (c := w2v) w2e ?_
  refine zs_i2l (pc := 11) t306_11 rfl ?_
  by_cases w3 : 0 ≤ a.toInt ∧ a.toInt ≤ ((zI M 337 0).toInt - 1)
  · refine zs_invS (pc := 12) (as := [.long a.toInt64, .long (0 : Int64), .long w2v.toInt64]) (st := []) t306_12 (by decide) mf228 rfl rfl ⟨by decide, by decide, Nat.le_of_ble_eq_true rfl, Nat.le_of_ble_eq_true rfl⟩ (K228T (zi2l rfl) ll0 (zi2l w2) (by omega) ?_) (fun _ _ q => q)
    show zGo X l 1 0 0 306 15 [(0, .ref 336), (1, .int a)] [.int (1 : Int32)] M _
    refine zs_iret (pc := 15) t306_15 mr306 (by decide) ?_
    show zGo X l 7 0 0 340 5 [(0, .ref 336), (1, .int a), (2, .int b)] [.int (1 : Int32)] M _
    refine zs_if_eqF (pc := 5) t340_5 li1 (by decide) ?_
    refine zs_iload_n (pc := 8) t340_8 rfl ?_
    refine zs_i2l (pc := 9) t340_9 rfl ?_
    refine zs_lconst (pc := 10) t340_10 (v := 0) (by decide) ?_
    refine zs_lconst (pc := 11) t340_11 (v := 1) (by decide) ?_
    by_cases w4 : 0 ≤ b.toInt ∧ b.toInt ≤ 1
    · refine zs_invS (pc := 12) (as := [.long b.toInt64, .long (0 : Int64), .long (1 : Int64)]) (st := []) t340_12 (by decide) mf228 rfl rfl ⟨by decide, by decide, Nat.le_of_ble_eq_true rfl, Nat.le_of_ble_eq_true rfl⟩ (K228T (zi2l rfl) ll0 ll1 (by omega) ?_) (fun _ _ q => q)
      show zGo X l 7 0 0 340 15 [(0, .ref 336), (1, .int a), (2, .int b)] [.int (1 : Int32)] M _
      refine zs_if_neT (pc := 15) t340_15 li1 (by decide) ?_
      refine zs_aload_n (pc := 22) t340_22 rfl ?_
      refine zs_invV (pc := 23) (k := 336) (as' := []) (st := []) t340_23 mf268 rfl rfl (Or.inl ⟨by decide, (zk1 (hs.k fk_zMm_336))⟩) ⟨by decide, by decide, Nat.le_of_ble_eq_true rfl, Nat.le_of_ble_eq_true rfl⟩ (K268 hs hI pR pF ?_) (fun _ _ q => q)
      intro w5M w5s w5I w5F w5PF w5PD w5PV
      show zGo X l 7 0 0 340 26 [(0, .ref 336), (1, .int a), (2, .int b)] [] w5M _
      refine zs_lconst (pc := 26) t340_26 (v := 0) (by decide) ?_
      refine zs_lstore_n (pc := 27) t340_27 (ls' := [(3, .long (0 : Int64)), (0, .ref 336), (1, .int a), (2, .int b)]) (zml mf340 (by decide)) rfl ?_
      refine zs_iconst (pc := 28) t340_28 (v := 0) (by decide) ?_
      refine zs_istore (pc := 29) t340_29 (ls' := [(5, .int (0 : Int32)), (3, .long (0 : Int64)), (0, .ref 336), (1, .int a), (2, .int b)]) (zml mf340 (by decide)) rfl ?_
      refine zs_iconst (pc := 31) t340_31 (v := 0) (by decide) ?_
      refine zs_istore (pc := 32) t340_32 (ls' := [(6, .int (0 : Int32)), (5, .int (0 : Int32)), (3, .long (0 : Int64)), (0, .ref 336), (1, .int a), (2, .int b)]) (zml mf340 (by decide)) rfl ?_
      have w6L : ∀ (m : Nat) (w6x3 : Int64) (w6x5 : Int32) (w6x6 : Int32), (0 ≤ w6x5.toInt ∧ w6x5.toInt ≤ 20) → (0 ≤ w6x6.toInt ∧ w6x6.toInt ≤ 20) → (w6x5.toInt ≤ w6x6.toInt) → 20 - w6x6.toInt ≤ (m : Int) → zGo X l 7 0 0 340 34 [(0, .ref 336), (1, .int a), (2, .int b), (3, .long w6x3), (5, .int w6x5), (6, .int w6x6)] [] w5M Q := by
        intro m
        induction m using Nat.strongRecOn with
        | ind w6m w6ih =>
          intro w6x3 w6x5 w6x6 w6b5 w6b6 w6r0 w6q
          have w6g3 := zrg64 w6x3
          refine zs_iload (pc := 34) t340_34 rfl ?_
          refine zs_aload_n (pc := 36) t340_36 rfl ?_
          have w7 := ib336_22 w5I
          refine zs_get (pc := 37) t340_37 (by decide) (zk1 (w5s.k fk_zMm_336)) (zfvi rfl rfl) ?_
          by_cases w8 : (zI w5M 336 22).toInt ≤ w6x6.toInt
          · refine zs_icmp_geT (pc := 40) t340_40 rfl rfl (by omega) ?_
            refine zs_iload_n (pc := 95) t340_95 rfl ?_
            refine zs_iconst (pc := 96) t340_96 (v := 1) (by decide) ?_
            by_cases w9 : b.toInt ≠ 1
            · refine zs_icmp_neT (pc := 97) t340_97 rfl li1 (by omega) ?_
              refine zs_iload (pc := 105) t340_105 rfl ?_
              by_cases w10 : w6x5.toInt ≠ 0
              · refine zs_if_neT (pc := 107) t340_107 rfl (by omega) ?_
                refine zs_lload_n (pc := 114) t340_114 rfl ?_
                refine zs_iload (pc := 115) t340_115 rfl ?_
                refine zs_i2l (pc := 117) t340_117 rfl ?_
                have w11 : w6x5.toInt64.toInt = w6x5.toInt := (zi2l rfl)
                refine zs_invS (pc := 118) (as := [.long w6x3, .long w6x5.toInt64]) (st := []) t340_118 (by decide) mf286 rfl rfl ⟨by decide, by decide, Nat.le_of_ble_eq_true rfl, Nat.le_of_ble_eq_true rfl⟩ (K286 w5s w5I ⟨by omega, by omega⟩ ?_) (fun _ _ q => q)
                intro w12v
                have w12g := zrg64 w12v
                show zGo X l 7 0 0 340 121 [(0, .ref 336), (1, .int a), (2, .int b), (3, .long w6x3), (5, .int w6x5), (6, .int w6x6)] [.long w12v] w5M _
                obtain ⟨w13v, w13⟩ : ∃ v, w12v.toInt32 = v := ⟨_, rfl⟩
                have w13g := zrg w13v
                refine zs_l2i (pc := 121) t340_121 (c := w13v) w13 ?_
                have w14 := ib336_5 hI
                have w15 : (zI w5M 336 5).toInt = (zI M 336 5).toInt := (congrArg Int32.toInt ((w5F 336 5 rfl).trans rfl)).trans rfl
                exact zs_iret (pc := 122) t340_122 mr340 rfl (hQ _ _ w5s w5I ((zFr.refl).trans (w5F.mono rfl)) (zPR.fr pR (w5F.eq rfl)) (zPC.fr pC (w5F.eq rfl)) w5PF (by omega))
              · refine zs_if_neF (pc := 107) t340_107 rfl (by omega) ?_
                refine zs_iconst (pc := 110) t340_110 (v := 0) (by decide) ?_
                refine zs_goto (pc := 111) t340_111 ?_
                have w16 : (zI w5M 336 5).toInt = (zI M 336 5).toInt := (congrArg Int32.toInt ((w5F 336 5 rfl).trans rfl)).trans rfl
                have w17 := li0
                exact zs_iret (pc := 122) t340_122 mr340 (by decide) (hQ _ _ w5s w5I ((zFr.refl).trans (w5F.mono rfl)) (zPR.fr pR (w5F.eq rfl)) (zPC.fr pC (w5F.eq rfl)) w5PF (by omega))
            · refine zs_icmp_neF (pc := 97) t340_97 rfl li1 (by omega) ?_
              refine zs_iload (pc := 100) t340_100 rfl ?_
              refine zs_goto (pc := 102) t340_102 ?_
              have w18 : (zI w5M 336 5).toInt = (zI M 336 5).toInt := (congrArg Int32.toInt ((w5F 336 5 rfl).trans rfl)).trans rfl
              exact zs_iret (pc := 122) t340_122 mr340 rfl (hQ _ _ w5s w5I ((zFr.refl).trans (w5F.mono rfl)) (zPR.fr pR (w5F.eq rfl)) (zPC.fr pC (w5F.eq rfl)) w5PF (by omega))
          · refine zs_icmp_geF (pc := 40) t340_40 rfl rfl (by omega) ?_
            refine zs_aload_n (pc := 43) t340_43 rfl ?_
            refine zs_get (pc := 44) t340_44 (by decide) (zk1 (w5s.k fk_zMm_336)) (w5s.p rfl fv_zMm_336_27) ?_
            refine zs_bipush (pc := 47) t340_47 (v := 8) (by decide) ?_
            refine zs_iload (pc := 49) t340_49 rfl ?_
            obtain ⟨w19v, w19⟩ : ∃ v, (8 : Int32) * w6x6 = v := ⟨_, rfl⟩
            have w19g : w19v.toInt = 8 * w6x6.toInt := by rw [← w19]; exact zmulc li8 rfl (by omega) (by omega)
            refine zs_imul (pc := 51) t340_51 (c := w19v) w19 ?_
            refine zs_iload_n (pc := 52) t340_52 rfl ?_
            obtain ⟨w20v, w20e, w20⟩ := ziadd (a := w19v) (b := a) w19g rfl (by omega) (by omega)
            refine zs_iadd (pc := 53) t340_53 (c := w20v) w20e ?_
            obtain ⟨w21n, w21⟩ : ∃ n : Nat, w6x6.toInt = (n : Int) := ⟨(w6x6.toInt).toNat, by omega⟩
            obtain ⟨w22n, w22⟩ : ∃ n : Nat, a.toInt = (n : Int) := ⟨(a.toInt).toNat, by omega⟩
            have w23 := ib349 w5I (8 * w21n + w22n)
            refine zs_iald (pc := 54) t340_54 (j := (8 * w21n + w22n)) (by decide) (zk1 (w5s.k fk_zMm_349)) (show w20v.toInt = (((8 * w21n + w22n) : Nat) : Int) by omega) (zk2 (w5s.k fk_zMm_349) (by omega)) rfl ?_
            refine zs_istore (pc := 55) t340_55 (ls' := [(7, .int (zI w5M 349 (8 * w21n + w22n))), (0, .ref 336), (1, .int a), (2, .int b), (3, .long w6x3), (5, .int w6x5), (6, .int w6x6)]) (zml mf340 (by decide)) rfl ?_
            refine zs_iload (pc := 57) t340_57 rfl ?_
            refine zs_bipush (pc := 59) t340_59 (v := -2) (by decide) ?_
            by_cases w24 : (zI w5M 349 (8 * w21n + w22n)).toInt ≠ (-2)
            · refine zs_icmp_neT (pc := 61) t340_61 rfl lin2 (by omega) ?_
              refine zs_lload_n (pc := 67) t340_67 rfl ?_
              refine zs_aload_n (pc := 68) t340_68 rfl ?_
              refine zs_iload (pc := 69) t340_69 rfl ?_
              refine zs_iconst (pc := 71) t340_71 (v := 1) (by decide) ?_
              refine zs_invV (pc := 72) (k := 336) (as' := [.int (zI w5M 349 (8 * w21n + w22n)), .int (1 : Int32)]) (st := [.long w6x3]) t340_72 mf272 rfl rfl (Or.inl ⟨by decide, (zk1 (w5s.k fk_zMm_336))⟩) ⟨by decide, by decide, Nat.le_of_ble_eq_true rfl, Nat.le_of_ble_eq_true rfl⟩ (zs_in (by decide) mf272 (Nat.le_of_ble_eq_true rfl) ?_) (fun _ _ q => q)
              show zGo X l 0 0 0 272 0 [(0, .ref 336), (1, .int (zI w5M 349 (8 * w21n + w22n))), (2, .int (1 : Int32))] [] w5M _
              refine zs_aload_n (pc := 0) t272_0 rfl ?_
              refine zs_get (pc := 1) t272_1 (by decide) (zk1 (w5s.k fk_zMm_336)) (w5s.p rfl fv_zMm_336_0) ?_
              refine zs_bipush (pc := 4) t272_4 (v := 30) (by decide) ?_
              refine zs_iconst (pc := 6) t272_6 (v := 4) (by decide) ?_
              refine zs_iload_n (pc := 7) t272_7 rfl ?_
              obtain ⟨w25v, w25⟩ : ∃ v, (4 : Int32) * (zI w5M 349 (8 * w21n + w22n)) = v := ⟨_, rfl⟩
              have w25g : w25v.toInt = 4 * (zI w5M 349 (8 * w21n + w22n)).toInt := by rw [← w25]; exact zmulc li4 rfl (by omega) (by omega)
              refine zs_imul (pc := 8) t272_8 (c := w25v) w25 ?_
              obtain ⟨w26v, w26e, w26⟩ := ziadd (a := (30 : Int32)) (b := w25v) li30 w25g (by omega) (by omega)
              refine zs_iadd (pc := 9) t272_9 (c := w26v) w26e ?_
              refine zs_iload_n (pc := 10) t272_10 rfl ?_
              obtain ⟨w27v, w27e, w27⟩ := ziadd (a := w26v) (b := (1 : Int32)) w26 li1 (by omega) (by omega)
              refine zs_iadd (pc := 11) t272_11 (c := w27v) w27e ?_
              obtain ⟨w28n, w28⟩ : ∃ n : Nat, w27v.toInt = (n : Int) := ⟨w27v.toInt.toNat, by omega⟩
              have w29 := zrg (zI M 337 w28n)
              refine zs_iald (pc := 12) t272_12 (j := w28n) (by decide) (zk1 (w5s.k fk_zMm_337)) w28 (zk2 (w5s.k fk_zMm_337) (by omega)) ((w5F 337 w28n rfl).trans rfl) ?_
              refine zs_iret (pc := 13) t272_13 mr272 rfl ?_
              show zGo X l 7 0 0 340 75 [(7, .int (zI w5M 349 (8 * w21n + w22n))), (0, .ref 336), (1, .int a), (2, .int b), (3, .long w6x3), (5, .int w6x5), (6, .int w6x6)] [.int (zI M 337 w28n), .long w6x3] w5M _
              refine zs_aload_n (pc := 75) t340_75 rfl ?_
              refine zs_iload (pc := 76) t340_76 rfl ?_
              refine zs_iload_n (pc := 78) t340_78 rfl ?_
              have w30 : (zI w5M 336 22).toInt = (zI w5M 336 22).toInt := (congrArg Int32.toInt rfl).trans rfl
              refine zs_invV (pc := 79) (k := 336) (as' := [.int w6x6, .int a]) (st := [.int (zI M 337 w28n), .long w6x3]) t340_79 mf337 rfl rfl (Or.inl ⟨by decide, (zk1 (w5s.k fk_zMm_336))⟩) ⟨by decide, by decide, Nat.le_of_ble_eq_true rfl, Nat.le_of_ble_eq_true rfl⟩ (K337 w5s w5I w5PD ⟨by omega, by omega⟩ ⟨by omega, by omega⟩ (by omega) ?_) (fun _ _ q => q)
              intro w31v
              have w31g := zrg w31v
              show zGo X l 7 0 0 340 82 [(7, .int (zI w5M 349 (8 * w21n + w22n))), (0, .ref 336), (1, .int a), (2, .int b), (3, .long w6x3), (5, .int w6x5), (6, .int w6x6)] [.int w31v, .int (zI M 337 w28n), .long w6x3] w5M _
              obtain ⟨w32v, w32⟩ : ∃ v, v = (zI M 337 w28n) - w31v := ⟨_, rfl⟩
              have w32g := zrg w32v
              refine zs_isub (pc := 82) t340_82 (c := w32v) w32.symm ?_
              refine zs_i2l (pc := 83) t340_83 rfl ?_
              obtain ⟨w33v, w33⟩ : ∃ v, w6x3 + w32v.toInt64 = v := ⟨_, rfl⟩
              have w33g := zrg64 w33v
              refine zs_ladd (pc := 84) t340_84 (c := w33v) w33 ?_
              refine zs_lstore_n (pc := 85) t340_85 (ls' := [(3, .long w33v), (7, .int (zI w5M 349 (8 * w21n + w22n))), (0, .ref 336), (1, .int a), (2, .int b), (5, .int w6x5), (6, .int w6x6)]) (zml mf340 (by decide)) rfl ?_
              obtain ⟨w34v, w34e, w34⟩ := ziadd (a := w6x5) (b := Int32.ofInt 1) rfl (show (Int32.ofInt 1).toInt = 1 by decide) (by omega) (by omega)
              refine zs_iinc (pc := 86) t340_86 (ls' := [(5, .int w34v), (3, .long w33v), (7, .int (zI w5M 349 (8 * w21n + w22n))), (0, .ref 336), (1, .int a), (2, .int b), (6, .int w6x6)]) (zml mf340 (by decide)) rfl (c := w34v) w34e rfl ?_
              obtain ⟨w35v, w35e, w35⟩ := ziadd (a := w6x6) (b := Int32.ofInt 1) rfl (show (Int32.ofInt 1).toInt = 1 by decide) (by omega) (by omega)
              refine zs_iinc (pc := 89) t340_89 (ls' := [(6, .int w35v), (5, .int w34v), (3, .long w33v), (7, .int (zI w5M 349 (8 * w21n + w22n))), (0, .ref 336), (1, .int a), (2, .int b)]) (zml mf340 (by decide)) rfl (c := w35v) w35e rfl ?_
              refine zs_goto (pc := 92) t340_92 ?_
              refine zGo.locals (ls' := [(0, .ref 336), (1, .int a), (2, .int b), (3, .long w33v), (5, .int w34v), (6, .int w35v)]) (by simp) ?_
              have w36 := w34
              have w37 := w35
              exact w6ih (w6m - 1) (by omega) w33v w34v w35v ⟨by omega, by omega⟩ ⟨by omega, by omega⟩ (by omega) (by omega)
            · refine zs_icmp_neF (pc := 61) t340_61 rfl lin2 (by omega) ?_
              refine zs_goto (pc := 64) t340_64 ?_
              obtain ⟨w38v, w38e, w38⟩ := ziadd (a := w6x6) (b := Int32.ofInt 1) rfl (show (Int32.ofInt 1).toInt = 1 by decide) (by omega) (by omega)
              refine zs_iinc (pc := 89) t340_89 (ls' := [(6, .int w38v), (7, .int (zI w5M 349 (8 * w21n + w22n))), (0, .ref 336), (1, .int a), (2, .int b), (3, .long w6x3), (5, .int w6x5)]) (zml mf340 (by decide)) rfl (c := w38v) w38e rfl ?_
              refine zs_goto (pc := 92) t340_92 ?_
              refine zGo.locals (ls' := [(0, .ref 336), (1, .int a), (2, .int b), (3, .long w6x3), (5, .int w6x5), (6, .int w38v)]) (by simp) ?_
              have w39 := w38
              exact w6ih (w6m - 1) (by omega) w6x3 w6x5 w38v ⟨by omega, by omega⟩ ⟨by omega, by omega⟩ (by omega) (by omega)
      refine zGo.locals (ls' := [(0, .ref 336), (1, .int a), (2, .int b), (3, .long (0 : Int64)), (5, .int (0 : Int32)), (6, .int (0 : Int32))]) (by simp) ?_
      have w40 := ll0
      have w41 := li0
      have w42 := li0
      exact w6L ((20 - 0 : Int).toNat) (0 : Int64) (0 : Int32) (0 : Int32) ⟨by decide, by decide⟩ ⟨by decide, by decide⟩ (by omega) (by omega)
    · refine zs_invS (pc := 12) (as := [.long b.toInt64, .long (0 : Int64), .long (1 : Int64)]) (st := []) t340_12 (by decide) mf228 rfl rfl ⟨by decide, by decide, Nat.le_of_ble_eq_true rfl, Nat.le_of_ble_eq_true rfl⟩ (K228F (zi2l rfl) ll0 ll1 (by omega) ?_) (fun _ _ q => q)
      show zGo X l 7 0 0 340 15 [(0, .ref 336), (1, .int a), (2, .int b)] [.int (0 : Int32)] M _
      refine zs_if_neF (pc := 15) t340_15 li0 (by decide) ?_
      refine zs_ldc_w (pc := 18) t340_18 (v := -100000) rfl (by decide) ?_
      have w43 := ib336_5 hI
      have w44 : (zI M 336 5).toInt = (zI M 336 5).toInt := (congrArg Int32.toInt rfl).trans rfl
      have w45 := lin100000
      exact zs_iret (pc := 21) t340_21 mr340 (by decide) (hQ _ _ hs hI (zFr.refl) pR pC pF (by omega))
  · refine zs_invS (pc := 12) (as := [.long a.toInt64, .long (0 : Int64), .long w2v.toInt64]) (st := []) t306_12 (by decide) mf228 rfl rfl ⟨by decide, by decide, Nat.le_of_ble_eq_true rfl, Nat.le_of_ble_eq_true rfl⟩ (K228F (zi2l rfl) ll0 (zi2l w2) (by omega) ?_) (fun _ _ q => q)
    show zGo X l 1 0 0 306 15 [(0, .ref 336), (1, .int a)] [.int (0 : Int32)] M _
    refine zs_iret (pc := 15) t306_15 mr306 (by decide) ?_
    show zGo X l 7 0 0 340 5 [(0, .ref 336), (1, .int a), (2, .int b)] [.int (0 : Int32)] M _
    refine zs_if_eqT (pc := 5) t340_5 li0 (by decide) ?_
    refine zs_ldc_w (pc := 18) t340_18 (v := -100000) rfl (by decide) ?_
    have w46 := ib336_5 hI
    have w47 : (zI M 336 5).toInt = (zI M 336 5).toInt := (congrArg Int32.toInt rfl).trans rfl
    have w48 := lin100000
    exact zs_iret (pc := 21) t340_21 mr340 (by decide) (hQ _ _ hs hI (zFr.refl) pR pC pF (by omega))
