theorem K237 {X : zX} {l : Launch} {M : zM} {Q : Option Value → zM → Prop} (hs : zSk zMm M) (hI : zIv mLo mHi M) (pR : zPR M) (pC : zPC M) (u0 : (zI M 336 7).toInt = -1) (u1 : (zI M 336 6).toInt < (zI M 336 5).toInt) (hQ : ∀ (M' : zM) (v : Int32), zSk zMm M' → zIv mLo mHi M' → zFr [(336, 336, some 6), (336, 336, some 7), (336, 336, some 8), (337, 337, none)] M M' → zJ M' 351 = zJ M 351 → zUp M M' → zPR M' → zPC M' → ((0 ≤ (zI M' 336 7).toInt) ∨ ((zI M' 336 7).toInt = -1 ∧ (zI M 336 6).toInt < (zI M' 336 6).toInt)) → 0 ≤ v.toInt → v.toInt ≤ 1 → Q (some (.int v)) M') : zCall X l 5 0 0 237 [.ref 336] M Q := by
  refine zs_in (by decide) mf237 (Nat.le_of_ble_eq_true rfl) ?_
  show zGo X l 5 0 0 237 0 [(0, .ref 336)] [] M _
  refine zs_aload_n (pc := 0) t237_0 rfl ?_
  have w1 := ib336_6 hI
  have w2 : (zI M 336 6).toInt = (zI M 336 6).toInt := (congrArg Int32.toInt rfl).trans rfl
  have w3 := ib336_5 hI
  have w4 : (zI M 336 5).toInt = (zI M 336 5).toInt := (congrArg Int32.toInt rfl).trans rfl
  refine zs_invV (pc := 1) (k := 336) (as' := []) (st := []) t237_1 mf238 rfl rfl (Or.inl ⟨by decide, (zk1 (hs.k fk_zMm_336))⟩) ⟨by decide, by decide, Nat.le_of_ble_eq_true rfl, Nat.le_of_ble_eq_true rfl⟩ (K238 hs hI ?_) (fun _ _ q => q)
  intro w5v w5t0 w5a w5b
  show zGo X l 5 0 0 237 4 [(0, .ref 336)] [.int w5v] M _
  refine zs_istore_n (pc := 4) t237_4 (ls' := [(1, .int w5v), (0, .ref 336)]) (zml mf237 (by decide)) rfl ?_
  refine zs_iload_n (pc := 5) t237_5 rfl ?_
  refine zs_bipush (pc := 6) t237_6 (v := 114) (by decide) ?_
  by_cases w6 : w5v.toInt ≠ 114
  · refine zs_icmp_neT (pc := 8) t237_8 rfl li114 (by omega) ?_
    refine zs_iload_n (pc := 22) t237_22 rfl ?_
    refine zs_bipush (pc := 23) t237_23 (v := 104) (by decide) ?_
    by_cases w7 : w5v.toInt ≠ 104
    · refine zs_icmp_neT (pc := 25) t237_25 rfl li104 (by omega) ?_
      refine zs_iload_n (pc := 39) t237_39 rfl ?_
      refine zs_bipush (pc := 40) t237_40 (v := 112) (by decide) ?_
      by_cases w8 : w5v.toInt ≠ 112
      · refine zs_icmp_neT (pc := 42) t237_42 rfl li112 (by omega) ?_
        refine zs_aload_n (pc := 65) t237_65 rfl ?_
        refine zs_dup (pc := 66) t237_66 rfl ?_
        refine zs_get (pc := 67) t237_67 (by decide) (zk1 (hs.k fk_zMm_336)) (zfvi rfl rfl) ?_
        refine zs_iconst (pc := 70) t237_70 (v := 1) (by decide) ?_
        obtain ⟨w9v, w9e, w9⟩ := ziadd (a := (zI M 336 6)) (b := (1 : Int32)) rfl li1 (by omega) (by omega)
        refine zs_iadd (pc := 71) t237_71 (c := w9v) w9e ?_
        have w10 : zIv mLo mHi (zsI M 336 6 w9v) := zIv.put hI (show 0 ≤ w9v.toInt ∧ w9v.toInt ≤ 500 from ⟨by omega, by omega⟩)
        refine zs_putI (pc := 72) t237_72 (zk1 (hs.k fk_zMm_336)) rfl ?_
        refine zs_iload_n (pc := 75) t237_75 rfl ?_
        by_cases w11 : w5v.toInt = 103
        · refine zs_tswI (pc := 76) t237_76 ((rfl : w5v.toInt = w5v.toInt).trans w11) (by decide) rfl (pc2 := 242) rfl ?_
          refine zs_aload_n (pc := 242) t237_242 rfl ?_
          refine zs_bipush (pc := 243) t237_243 (v := 9) (by decide) ?_
          refine zs_iconst (pc := 245) t237_245 (v := 0) (by decide) ?_
          refine zs_sipush (pc := 246) t237_246 (v := 999) (by decide) ?_
          refine zs_bipush (pc := 249) t237_249 (v := 59) (by decide) ?_
          have w12 : (9 : Int32).toInt = 9 := li9
          have w13 : (0 : Int32).toInt = 0 := li0
          have w14 : (999 : Int32).toInt = 999 := li999
          have w15 : (59 : Int32).toInt = 59 := li59
          have w16 := ibA1 hI
          have w17 : (zI (zsI M 336 6 w9v) 337 1).toInt = (zI M 337 1).toInt := (congrArg Int32.toInt ((zIo (by decide)).trans rfl)).trans rfl
          have w18 := ibA0 hI
          have w19 : (zI (zsI M 336 6 w9v) 337 0).toInt = (zI M 337 0).toInt := (congrArg Int32.toInt ((zIo (by decide)).trans rfl)).trans rfl
          have w20 : (zI (zsI M 336 6 w9v) 336 6).toInt = ((zI M 336 6).toInt + 1) := (congrArg Int32.toInt zIs).trans w9
          have w21 : (zI (zsI M 336 6 w9v) 337 1).toInt = (zI M 337 1).toInt := (congrArg Int32.toInt ((zIo (by decide)).trans rfl)).trans rfl
          have w22 : (zI (zsI M 336 6 w9v) 337 0).toInt = (zI M 337 0).toInt := (congrArg Int32.toInt ((zIo (by decide)).trans rfl)).trans rfl
          have w23 := ibA2 hI
          have w24 : (zI (zsI M 336 6 w9v) 337 2).toInt = (zI M 337 2).toInt := (congrArg Int32.toInt ((zIo (by decide)).trans rfl)).trans rfl
          have w25 := ib336_7 hI
          have w26 : (zI (zsI M 336 6 w9v) 336 7).toInt = (zI M 336 7).toInt := (congrArg Int32.toInt ((zIoj (by decide)).trans rfl)).trans rfl
          refine zs_invV (pc := 251) (k := 336) (as' := [.int (9 : Int32), .int (0 : Int32), .int (999 : Int32), .int (59 : Int32)]) (st := []) t237_251 mf242 rfl rfl (Or.inl ⟨by decide, (zk1 (hs.k fk_zMm_336))⟩) ⟨by decide, by decide, Nat.le_of_ble_eq_true rfl, Nat.le_of_ble_eq_true rfl⟩ (K242 hs w10 (zPR.fr (M' := (zsI M 336 6 w9v)) pR (zEq.put rfl)) (zPC.fr (M' := (zsI M 336 6 w9v)) pC (zEq.put rfl)) ⟨by decide, by decide⟩ ⟨by decide, by decide⟩ (by omega) (by omega) (show 0 ≤ (0 : Int32).toInt ∧ (999 : Int32).toInt ≤ 999 from ⟨by omega, by omega⟩) ?_) (fun _ _ q => q)
          intro w27M w27v w27s w27I w27F w27J w27U w27PR w27PC w27t0 w27t1 w27t2 w27t3 w27t4 w27x0 w27x1 w27a w27b
          have w28 := ib336_6 w27I
          have w29 := ibA1 w27I
          have w30 := ibA0 w27I
          have w31 := ibA2 w27I
          have w32 := ib336_7 w27I
          show zGo X l 5 0 0 237 254 [(1, .int w5v), (0, .ref 336)] [.int w27v] w27M _
          have w33 : (zI w27M 336 6).toInt = (zI w27M 336 6).toInt := (congrArg Int32.toInt rfl).trans rfl
          have w34 : (zI w27M 336 7).toInt = (zI w27M 336 7).toInt := (congrArg Int32.toInt rfl).trans rfl
          exact zs_iret (pc := 254) t237_254 mr237 (zfb01 (by omega)) (hQ _ _ w27s w27I (((zFr.refl).put rfl).trans (w27F.mono rfl)) w27J (((zUp.refl).put (Or.inl (by decide))).trans w27U) w27PR w27PC (by omega) (by omega) (by omega))
        by_cases w35 : w5v.toInt = 105
        · refine zs_tswI (pc := 76) t237_76 ((rfl : w5v.toInt = w5v.toInt).trans w35) (by decide) rfl (pc2 := 333) rfl ?_
          refine zs_aload_n (pc := 333) t237_333 rfl ?_
          refine zs_aload_n (pc := 334) t237_334 rfl ?_
          refine zs_get (pc := 335) t237_335 (by decide) (zk1 (hs.k fk_zMm_336)) (zfvi rfl zIs) ?_
          refine zs_iconst (pc := 338) t237_338 (v := 1) (by decide) ?_
          obtain ⟨w36v, w36e, w36⟩ := zisub (a := w9v) (b := (1 : Int32)) w9 li1 (by omega) (by omega)
          refine zs_isub (pc := 339) t237_339 (c := w36v) w36e ?_
          refine zs_invV (pc := 340) (k := 336) (as' := [.int w36v]) (st := []) t237_340 mf239 rfl rfl (Or.inl ⟨by decide, (zk1 (hs.k fk_zMm_336))⟩) ⟨by decide, by decide, Nat.le_of_ble_eq_true rfl, Nat.le_of_ble_eq_true rfl⟩ (zs_in (by decide) mf239 (Nat.le_of_ble_eq_true rfl) ?_) (fun _ _ q => q)
          show zGo X l 0 0 0 239 0 [(0, .ref 336), (1, .int w36v)] [] (zsI M 336 6 w9v) _
          refine zs_aload_n (pc := 0) t239_0 rfl ?_
          refine zs_iload_n (pc := 1) t239_1 rfl ?_
          have w37 : zIv mLo mHi (zsI (zsI M 336 6 w9v) 336 7 w36v) := zIv.put w10 (show (-1) ≤ w36v.toInt ∧ w36v.toInt ≤ 500 from ⟨by omega, by omega⟩)
          refine zs_putI (pc := 2) t239_2 (zk1 (hs.k fk_zMm_336)) rfl ?_
          refine zs_iconst (pc := 5) t239_5 (v := 0) (by decide) ?_
          refine zs_iret (pc := 6) t239_6 mr239 (by decide) ?_
          show zGo X l 5 0 0 237 343 [(1, .int w5v), (0, .ref 336)] [.int (0 : Int32)] (zsI (zsI M 336 6 w9v) 336 7 w36v) _
          have w38 : (zI (zsI (zsI M 336 6 w9v) 336 7 w36v) 336 6).toInt = ((zI M 336 6).toInt + 1) := (congrArg Int32.toInt ((zIoj (by decide)).trans zIs)).trans w9
          have w39 : (zI (zsI (zsI M 336 6 w9v) 336 7 w36v) 336 7).toInt = (((zI M 336 6).toInt + 1) - 1) := (congrArg Int32.toInt zIs).trans w36
          have w40 := li0
          exact zs_iret (pc := 343) t237_343 mr237 (by decide) (hQ _ _ hs w37 (((zFr.refl).put rfl).put rfl) rfl (((zUp.refl).put (Or.inl (by decide))).put (Or.inl (by decide))) (zPR.fr (M' := (zsI (zsI M 336 6 w9v) 336 7 w36v)) (zPR.fr (M' := (zsI M 336 6 w9v)) pR (zEq.put rfl)) (zEq.put rfl)) (zPC.fr (M' := (zsI (zsI M 336 6 w9v) 336 7 w36v)) (zPC.fr (M' := (zsI M 336 6 w9v)) pC (zEq.put rfl)) (zEq.put rfl)) (by omega) (by decide) (by decide))
        by_cases w41 : w5v.toInt = 106
        · refine zs_tswI (pc := 76) t237_76 ((rfl : w5v.toInt = w5v.toInt).trans w41) (by decide) rfl (pc2 := 333) rfl ?_
          refine zs_aload_n (pc := 333) t237_333 rfl ?_
          refine zs_aload_n (pc := 334) t237_334 rfl ?_
          refine zs_get (pc := 335) t237_335 (by decide) (zk1 (hs.k fk_zMm_336)) (zfvi rfl zIs) ?_
          refine zs_iconst (pc := 338) t237_338 (v := 1) (by decide) ?_
          obtain ⟨w42v, w42e, w42⟩ := zisub (a := w9v) (b := (1 : Int32)) w9 li1 (by omega) (by omega)
          refine zs_isub (pc := 339) t237_339 (c := w42v) w42e ?_
          refine zs_invV (pc := 340) (k := 336) (as' := [.int w42v]) (st := []) t237_340 mf239 rfl rfl (Or.inl ⟨by decide, (zk1 (hs.k fk_zMm_336))⟩) ⟨by decide, by decide, Nat.le_of_ble_eq_true rfl, Nat.le_of_ble_eq_true rfl⟩ (zs_in (by decide) mf239 (Nat.le_of_ble_eq_true rfl) ?_) (fun _ _ q => q)
          show zGo X l 0 0 0 239 0 [(0, .ref 336), (1, .int w42v)] [] (zsI M 336 6 w9v) _
          refine zs_aload_n (pc := 0) t239_0 rfl ?_
          refine zs_iload_n (pc := 1) t239_1 rfl ?_
          have w43 : zIv mLo mHi (zsI (zsI M 336 6 w9v) 336 7 w42v) := zIv.put w10 (show (-1) ≤ w42v.toInt ∧ w42v.toInt ≤ 500 from ⟨by omega, by omega⟩)
          refine zs_putI (pc := 2) t239_2 (zk1 (hs.k fk_zMm_336)) rfl ?_
          refine zs_iconst (pc := 5) t239_5 (v := 0) (by decide) ?_
          refine zs_iret (pc := 6) t239_6 mr239 (by decide) ?_
          show zGo X l 5 0 0 237 343 [(1, .int w5v), (0, .ref 336)] [.int (0 : Int32)] (zsI (zsI M 336 6 w9v) 336 7 w42v) _
          have w44 : (zI (zsI (zsI M 336 6 w9v) 336 7 w42v) 336 6).toInt = ((zI M 336 6).toInt + 1) := (congrArg Int32.toInt ((zIoj (by decide)).trans zIs)).trans w9
          have w45 : (zI (zsI (zsI M 336 6 w9v) 336 7 w42v) 336 7).toInt = (((zI M 336 6).toInt + 1) - 1) := (congrArg Int32.toInt zIs).trans w42
          have w46 := li0
          exact zs_iret (pc := 343) t237_343 mr237 (by decide) (hQ _ _ hs w43 (((zFr.refl).put rfl).put rfl) rfl (((zUp.refl).put (Or.inl (by decide))).put (Or.inl (by decide))) (zPR.fr (M' := (zsI (zsI M 336 6 w9v) 336 7 w42v)) (zPR.fr (M' := (zsI M 336 6 w9v)) pR (zEq.put rfl)) (zEq.put rfl)) (zPC.fr (M' := (zsI (zsI M 336 6 w9v) 336 7 w42v)) (zPC.fr (M' := (zsI M 336 6 w9v)) pC (zEq.put rfl)) (zEq.put rfl)) (by omega) (by decide) (by decide))
        by_cases w47 : w5v.toInt = 107
        · refine zs_tswI (pc := 76) t237_76 ((rfl : w5v.toInt = w5v.toInt).trans w47) (by decide) rfl (pc2 := 333) rfl ?_
          refine zs_aload_n (pc := 333) t237_333 rfl ?_
          refine zs_aload_n (pc := 334) t237_334 rfl ?_
          refine zs_get (pc := 335) t237_335 (by decide) (zk1 (hs.k fk_zMm_336)) (zfvi rfl zIs) ?_
          refine zs_iconst (pc := 338) t237_338 (v := 1) (by decide) ?_
          obtain ⟨w48v, w48e, w48⟩ := zisub (a := w9v) (b := (1 : Int32)) w9 li1 (by omega) (by omega)
          refine zs_isub (pc := 339) t237_339 (c := w48v) w48e ?_
          refine zs_invV (pc := 340) (k := 336) (as' := [.int w48v]) (st := []) t237_340 mf239 rfl rfl (Or.inl ⟨by decide, (zk1 (hs.k fk_zMm_336))⟩) ⟨by decide, by decide, Nat.le_of_ble_eq_true rfl, Nat.le_of_ble_eq_true rfl⟩ (zs_in (by decide) mf239 (Nat.le_of_ble_eq_true rfl) ?_) (fun _ _ q => q)
          show zGo X l 0 0 0 239 0 [(0, .ref 336), (1, .int w48v)] [] (zsI M 336 6 w9v) _
          refine zs_aload_n (pc := 0) t239_0 rfl ?_
          refine zs_iload_n (pc := 1) t239_1 rfl ?_
          have w49 : zIv mLo mHi (zsI (zsI M 336 6 w9v) 336 7 w48v) := zIv.put w10 (show (-1) ≤ w48v.toInt ∧ w48v.toInt ≤ 500 from ⟨by omega, by omega⟩)
          refine zs_putI (pc := 2) t239_2 (zk1 (hs.k fk_zMm_336)) rfl ?_
          refine zs_iconst (pc := 5) t239_5 (v := 0) (by decide) ?_
          refine zs_iret (pc := 6) t239_6 mr239 (by decide) ?_
          show zGo X l 5 0 0 237 343 [(1, .int w5v), (0, .ref 336)] [.int (0 : Int32)] (zsI (zsI M 336 6 w9v) 336 7 w48v) _
          have w50 : (zI (zsI (zsI M 336 6 w9v) 336 7 w48v) 336 6).toInt = ((zI M 336 6).toInt + 1) := (congrArg Int32.toInt ((zIoj (by decide)).trans zIs)).trans w9
          have w51 : (zI (zsI (zsI M 336 6 w9v) 336 7 w48v) 336 7).toInt = (((zI M 336 6).toInt + 1) - 1) := (congrArg Int32.toInt zIs).trans w48
          have w52 := li0
          exact zs_iret (pc := 343) t237_343 mr237 (by decide) (hQ _ _ hs w49 (((zFr.refl).put rfl).put rfl) rfl (((zUp.refl).put (Or.inl (by decide))).put (Or.inl (by decide))) (zPR.fr (M' := (zsI (zsI M 336 6 w9v) 336 7 w48v)) (zPR.fr (M' := (zsI M 336 6 w9v)) pR (zEq.put rfl)) (zEq.put rfl)) (zPC.fr (M' := (zsI (zsI M 336 6 w9v) 336 7 w48v)) (zPC.fr (M' := (zsI M 336 6 w9v)) pC (zEq.put rfl)) (zEq.put rfl)) (by omega) (by decide) (by decide))
        by_cases w53 : w5v.toInt = 108
        · refine zs_tswI (pc := 76) t237_76 ((rfl : w5v.toInt = w5v.toInt).trans w53) (by decide) rfl (pc2 := 333) rfl ?_
          refine zs_aload_n (pc := 333) t237_333 rfl ?_
          refine zs_aload_n (pc := 334) t237_334 rfl ?_
          refine zs_get (pc := 335) t237_335 (by decide) (zk1 (hs.k fk_zMm_336)) (zfvi rfl zIs) ?_
          refine zs_iconst (pc := 338) t237_338 (v := 1) (by decide) ?_
          obtain ⟨w54v, w54e, w54⟩ := zisub (a := w9v) (b := (1 : Int32)) w9 li1 (by omega) (by omega)
          refine zs_isub (pc := 339) t237_339 (c := w54v) w54e ?_
          refine zs_invV (pc := 340) (k := 336) (as' := [.int w54v]) (st := []) t237_340 mf239 rfl rfl (Or.inl ⟨by decide, (zk1 (hs.k fk_zMm_336))⟩) ⟨by decide, by decide, Nat.le_of_ble_eq_true rfl, Nat.le_of_ble_eq_true rfl⟩ (zs_in (by decide) mf239 (Nat.le_of_ble_eq_true rfl) ?_) (fun _ _ q => q)
          show zGo X l 0 0 0 239 0 [(0, .ref 336), (1, .int w54v)] [] (zsI M 336 6 w9v) _
          refine zs_aload_n (pc := 0) t239_0 rfl ?_
          refine zs_iload_n (pc := 1) t239_1 rfl ?_
          have w55 : zIv mLo mHi (zsI (zsI M 336 6 w9v) 336 7 w54v) := zIv.put w10 (show (-1) ≤ w54v.toInt ∧ w54v.toInt ≤ 500 from ⟨by omega, by omega⟩)
          refine zs_putI (pc := 2) t239_2 (zk1 (hs.k fk_zMm_336)) rfl ?_
          refine zs_iconst (pc := 5) t239_5 (v := 0) (by decide) ?_
          refine zs_iret (pc := 6) t239_6 mr239 (by decide) ?_
          show zGo X l 5 0 0 237 343 [(1, .int w5v), (0, .ref 336)] [.int (0 : Int32)] (zsI (zsI M 336 6 w9v) 336 7 w54v) _
          have w56 : (zI (zsI (zsI M 336 6 w9v) 336 7 w54v) 336 6).toInt = ((zI M 336 6).toInt + 1) := (congrArg Int32.toInt ((zIoj (by decide)).trans zIs)).trans w9
          have w57 : (zI (zsI (zsI M 336 6 w9v) 336 7 w54v) 336 7).toInt = (((zI M 336 6).toInt + 1) - 1) := (congrArg Int32.toInt zIs).trans w54
          have w58 := li0
          exact zs_iret (pc := 343) t237_343 mr237 (by decide) (hQ _ _ hs w55 (((zFr.refl).put rfl).put rfl) rfl (((zUp.refl).put (Or.inl (by decide))).put (Or.inl (by decide))) (zPR.fr (M' := (zsI (zsI M 336 6 w9v) 336 7 w54v)) (zPR.fr (M' := (zsI M 336 6 w9v)) pR (zEq.put rfl)) (zEq.put rfl)) (zPC.fr (M' := (zsI (zsI M 336 6 w9v) 336 7 w54v)) (zPC.fr (M' := (zsI M 336 6 w9v)) pC (zEq.put rfl)) (zEq.put rfl)) (by omega) (by decide) (by decide))
        by_cases w59 : w5v.toInt = 109
        · refine zs_tswI (pc := 76) t237_76 ((rfl : w5v.toInt = w5v.toInt).trans w59) (by decide) rfl (pc2 := 333) rfl ?_
          refine zs_aload_n (pc := 333) t237_333 rfl ?_
          refine zs_aload_n (pc := 334) t237_334 rfl ?_
          refine zs_get (pc := 335) t237_335 (by decide) (zk1 (hs.k fk_zMm_336)) (zfvi rfl zIs) ?_
          refine zs_iconst (pc := 338) t237_338 (v := 1) (by decide) ?_
          obtain ⟨w60v, w60e, w60⟩ := zisub (a := w9v) (b := (1 : Int32)) w9 li1 (by omega) (by omega)
          refine zs_isub (pc := 339) t237_339 (c := w60v) w60e ?_
          refine zs_invV (pc := 340) (k := 336) (as' := [.int w60v]) (st := []) t237_340 mf239 rfl rfl (Or.inl ⟨by decide, (zk1 (hs.k fk_zMm_336))⟩) ⟨by decide, by decide, Nat.le_of_ble_eq_true rfl, Nat.le_of_ble_eq_true rfl⟩ (zs_in (by decide) mf239 (Nat.le_of_ble_eq_true rfl) ?_) (fun _ _ q => q)
          show zGo X l 0 0 0 239 0 [(0, .ref 336), (1, .int w60v)] [] (zsI M 336 6 w9v) _
          refine zs_aload_n (pc := 0) t239_0 rfl ?_
          refine zs_iload_n (pc := 1) t239_1 rfl ?_
          have w61 : zIv mLo mHi (zsI (zsI M 336 6 w9v) 336 7 w60v) := zIv.put w10 (show (-1) ≤ w60v.toInt ∧ w60v.toInt ≤ 500 from ⟨by omega, by omega⟩)
          refine zs_putI (pc := 2) t239_2 (zk1 (hs.k fk_zMm_336)) rfl ?_
          refine zs_iconst (pc := 5) t239_5 (v := 0) (by decide) ?_
          refine zs_iret (pc := 6) t239_6 mr239 (by decide) ?_
          show zGo X l 5 0 0 237 343 [(1, .int w5v), (0, .ref 336)] [.int (0 : Int32)] (zsI (zsI M 336 6 w9v) 336 7 w60v) _
          have w62 : (zI (zsI (zsI M 336 6 w9v) 336 7 w60v) 336 6).toInt = ((zI M 336 6).toInt + 1) := (congrArg Int32.toInt ((zIoj (by decide)).trans zIs)).trans w9
          have w63 : (zI (zsI (zsI M 336 6 w9v) 336 7 w60v) 336 7).toInt = (((zI M 336 6).toInt + 1) - 1) := (congrArg Int32.toInt zIs).trans w60
          have w64 := li0
          exact zs_iret (pc := 343) t237_343 mr237 (by decide) (hQ _ _ hs w61 (((zFr.refl).put rfl).put rfl) rfl (((zUp.refl).put (Or.inl (by decide))).put (Or.inl (by decide))) (zPR.fr (M' := (zsI (zsI M 336 6 w9v) 336 7 w60v)) (zPR.fr (M' := (zsI M 336 6 w9v)) pR (zEq.put rfl)) (zEq.put rfl)) (zPC.fr (M' := (zsI (zsI M 336 6 w9v) 336 7 w60v)) (zPC.fr (M' := (zsI M 336 6 w9v)) pC (zEq.put rfl)) (zEq.put rfl)) (by omega) (by decide) (by decide))
        by_cases w65 : w5v.toInt = 110
        · refine zs_tswI (pc := 76) t237_76 ((rfl : w5v.toInt = w5v.toInt).trans w65) (by decide) rfl (pc2 := 333) rfl ?_
          refine zs_aload_n (pc := 333) t237_333 rfl ?_
          refine zs_aload_n (pc := 334) t237_334 rfl ?_
          refine zs_get (pc := 335) t237_335 (by decide) (zk1 (hs.k fk_zMm_336)) (zfvi rfl zIs) ?_
          refine zs_iconst (pc := 338) t237_338 (v := 1) (by decide) ?_
          obtain ⟨w66v, w66e, w66⟩ := zisub (a := w9v) (b := (1 : Int32)) w9 li1 (by omega) (by omega)
          refine zs_isub (pc := 339) t237_339 (c := w66v) w66e ?_
          refine zs_invV (pc := 340) (k := 336) (as' := [.int w66v]) (st := []) t237_340 mf239 rfl rfl (Or.inl ⟨by decide, (zk1 (hs.k fk_zMm_336))⟩) ⟨by decide, by decide, Nat.le_of_ble_eq_true rfl, Nat.le_of_ble_eq_true rfl⟩ (zs_in (by decide) mf239 (Nat.le_of_ble_eq_true rfl) ?_) (fun _ _ q => q)
          show zGo X l 0 0 0 239 0 [(0, .ref 336), (1, .int w66v)] [] (zsI M 336 6 w9v) _
          refine zs_aload_n (pc := 0) t239_0 rfl ?_
          refine zs_iload_n (pc := 1) t239_1 rfl ?_
          have w67 : zIv mLo mHi (zsI (zsI M 336 6 w9v) 336 7 w66v) := zIv.put w10 (show (-1) ≤ w66v.toInt ∧ w66v.toInt ≤ 500 from ⟨by omega, by omega⟩)
          refine zs_putI (pc := 2) t239_2 (zk1 (hs.k fk_zMm_336)) rfl ?_
          refine zs_iconst (pc := 5) t239_5 (v := 0) (by decide) ?_
          refine zs_iret (pc := 6) t239_6 mr239 (by decide) ?_
          show zGo X l 5 0 0 237 343 [(1, .int w5v), (0, .ref 336)] [.int (0 : Int32)] (zsI (zsI M 336 6 w9v) 336 7 w66v) _
          have w68 : (zI (zsI (zsI M 336 6 w9v) 336 7 w66v) 336 6).toInt = ((zI M 336 6).toInt + 1) := (congrArg Int32.toInt ((zIoj (by decide)).trans zIs)).trans w9
          have w69 : (zI (zsI (zsI M 336 6 w9v) 336 7 w66v) 336 7).toInt = (((zI M 336 6).toInt + 1) - 1) := (congrArg Int32.toInt zIs).trans w66
          have w70 := li0
          exact zs_iret (pc := 343) t237_343 mr237 (by decide) (hQ _ _ hs w67 (((zFr.refl).put rfl).put rfl) rfl (((zUp.refl).put (Or.inl (by decide))).put (Or.inl (by decide))) (zPR.fr (M' := (zsI (zsI M 336 6 w9v) 336 7 w66v)) (zPR.fr (M' := (zsI M 336 6 w9v)) pR (zEq.put rfl)) (zEq.put rfl)) (zPC.fr (M' := (zsI (zsI M 336 6 w9v) 336 7 w66v)) (zPC.fr (M' := (zsI M 336 6 w9v)) pC (zEq.put rfl)) (zEq.put rfl)) (by omega) (by decide) (by decide))
        by_cases w71 : w5v.toInt = 111
        · refine zs_tswI (pc := 76) t237_76 ((rfl : w5v.toInt = w5v.toInt).trans w71) (by decide) rfl (pc2 := 333) rfl ?_
          refine zs_aload_n (pc := 333) t237_333 rfl ?_
          refine zs_aload_n (pc := 334) t237_334 rfl ?_
          refine zs_get (pc := 335) t237_335 (by decide) (zk1 (hs.k fk_zMm_336)) (zfvi rfl zIs) ?_
          refine zs_iconst (pc := 338) t237_338 (v := 1) (by decide) ?_
          obtain ⟨w72v, w72e, w72⟩ := zisub (a := w9v) (b := (1 : Int32)) w9 li1 (by omega) (by omega)
          refine zs_isub (pc := 339) t237_339 (c := w72v) w72e ?_
          refine zs_invV (pc := 340) (k := 336) (as' := [.int w72v]) (st := []) t237_340 mf239 rfl rfl (Or.inl ⟨by decide, (zk1 (hs.k fk_zMm_336))⟩) ⟨by decide, by decide, Nat.le_of_ble_eq_true rfl, Nat.le_of_ble_eq_true rfl⟩ (zs_in (by decide) mf239 (Nat.le_of_ble_eq_true rfl) ?_) (fun _ _ q => q)
          show zGo X l 0 0 0 239 0 [(0, .ref 336), (1, .int w72v)] [] (zsI M 336 6 w9v) _
          refine zs_aload_n (pc := 0) t239_0 rfl ?_
          refine zs_iload_n (pc := 1) t239_1 rfl ?_
          have w73 : zIv mLo mHi (zsI (zsI M 336 6 w9v) 336 7 w72v) := zIv.put w10 (show (-1) ≤ w72v.toInt ∧ w72v.toInt ≤ 500 from ⟨by omega, by omega⟩)
          refine zs_putI (pc := 2) t239_2 (zk1 (hs.k fk_zMm_336)) rfl ?_
          refine zs_iconst (pc := 5) t239_5 (v := 0) (by decide) ?_
          refine zs_iret (pc := 6) t239_6 mr239 (by decide) ?_
          show zGo X l 5 0 0 237 343 [(1, .int w5v), (0, .ref 336)] [.int (0 : Int32)] (zsI (zsI M 336 6 w9v) 336 7 w72v) _
          have w74 : (zI (zsI (zsI M 336 6 w9v) 336 7 w72v) 336 6).toInt = ((zI M 336 6).toInt + 1) := (congrArg Int32.toInt ((zIoj (by decide)).trans zIs)).trans w9
          have w75 : (zI (zsI (zsI M 336 6 w9v) 336 7 w72v) 336 7).toInt = (((zI M 336 6).toInt + 1) - 1) := (congrArg Int32.toInt zIs).trans w72
          have w76 := li0
          exact zs_iret (pc := 343) t237_343 mr237 (by decide) (hQ _ _ hs w73 (((zFr.refl).put rfl).put rfl) rfl (((zUp.refl).put (Or.inl (by decide))).put (Or.inl (by decide))) (zPR.fr (M' := (zsI (zsI M 336 6 w9v) 336 7 w72v)) (zPR.fr (M' := (zsI M 336 6 w9v)) pR (zEq.put rfl)) (zEq.put rfl)) (zPC.fr (M' := (zsI (zsI M 336 6 w9v) 336 7 w72v)) (zPC.fr (M' := (zsI M 336 6 w9v)) pC (zEq.put rfl)) (zEq.put rfl)) (by omega) (by decide) (by decide))
        by_cases w77 : w5v.toInt = 113
        · refine zs_tswI (pc := 76) t237_76 ((rfl : w5v.toInt = w5v.toInt).trans w77) (by decide) rfl (pc2 := 297) rfl ?_
          refine zs_aload_n (pc := 297) t237_297 rfl ?_
          refine zs_bipush (pc := 298) t237_298 (v := 12) (by decide) ?_
          refine zs_iconst (pc := 300) t237_300 (v := 1) (by decide) ?_
          refine zs_sipush (pc := 301) t237_301 (v := 9999) (by decide) ?_
          refine zs_bipush (pc := 304) t237_304 (v := 44) (by decide) ?_
          have w78 : (12 : Int32).toInt = 12 := li12
          have w79 : (1 : Int32).toInt = 1 := li1
          have w80 : (9999 : Int32).toInt = 9999 := li9999
          have w81 : (44 : Int32).toInt = 44 := li44
          have w82 := ibA1 hI
          have w83 : (zI (zsI M 336 6 w9v) 337 1).toInt = (zI M 337 1).toInt := (congrArg Int32.toInt ((zIo (by decide)).trans rfl)).trans rfl
          have w84 := ibA0 hI
          have w85 : (zI (zsI M 336 6 w9v) 337 0).toInt = (zI M 337 0).toInt := (congrArg Int32.toInt ((zIo (by decide)).trans rfl)).trans rfl
          have w86 : (zI (zsI M 336 6 w9v) 336 6).toInt = ((zI M 336 6).toInt + 1) := (congrArg Int32.toInt zIs).trans w9
          have w87 : (zI (zsI M 336 6 w9v) 337 1).toInt = (zI M 337 1).toInt := (congrArg Int32.toInt ((zIo (by decide)).trans rfl)).trans rfl
          have w88 : (zI (zsI M 336 6 w9v) 337 0).toInt = (zI M 337 0).toInt := (congrArg Int32.toInt ((zIo (by decide)).trans rfl)).trans rfl
          have w89 := ibA2 hI
          have w90 : (zI (zsI M 336 6 w9v) 337 2).toInt = (zI M 337 2).toInt := (congrArg Int32.toInt ((zIo (by decide)).trans rfl)).trans rfl
          have w91 := ib336_7 hI
          have w92 : (zI (zsI M 336 6 w9v) 336 7).toInt = (zI M 336 7).toInt := (congrArg Int32.toInt ((zIoj (by decide)).trans rfl)).trans rfl
          refine zs_invV (pc := 306) (k := 336) (as' := [.int (12 : Int32), .int (1 : Int32), .int (9999 : Int32), .int (44 : Int32)]) (st := []) t237_306 mf242 rfl rfl (Or.inl ⟨by decide, (zk1 (hs.k fk_zMm_336))⟩) ⟨by decide, by decide, Nat.le_of_ble_eq_true rfl, Nat.le_of_ble_eq_true rfl⟩ (K242 hs w10 (zPR.fr (M' := (zsI M 336 6 w9v)) pR (zEq.put rfl)) (zPC.fr (M' := (zsI M 336 6 w9v)) pC (zEq.put rfl)) ⟨by decide, by decide⟩ ⟨by decide, by decide⟩ (by omega) (by omega) (show 1 ≤ (1 : Int32).toInt ∧ (9999 : Int32).toInt ≤ 9999 from ⟨by omega, by omega⟩) ?_) (fun _ _ q => q)
          intro w93M w93v w93s w93I w93F w93J w93U w93PR w93PC w93t0 w93t1 w93t2 w93t3 w93t4 w93x0 w93x1 w93a w93b
          have w94 := ib336_6 w93I
          have w95 := ibA1 w93I
          have w96 := ibA0 w93I
          have w97 := ibA2 w93I
          have w98 := ib336_7 w93I
          show zGo X l 5 0 0 237 309 [(1, .int w5v), (0, .ref 336)] [.int w93v] w93M _
          by_cases w99 : w93v.toInt = 0
          · refine zs_if_eqT (pc := 309) t237_309 rfl (by omega) ?_
            refine zs_iconst (pc := 331) t237_331 (v := 0) (by decide) ?_
            have w100 : (zI w93M 336 6).toInt = (zI w93M 336 6).toInt := (congrArg Int32.toInt rfl).trans rfl
            have w101 : (zI w93M 336 7).toInt = (zI w93M 336 7).toInt := (congrArg Int32.toInt rfl).trans rfl
            have w102 := li0
            exact zs_iret (pc := 332) t237_332 mr237 (by decide) (hQ _ _ w93s w93I (((zFr.refl).put rfl).trans (w93F.mono rfl)) w93J (((zUp.refl).put (Or.inl (by decide))).trans w93U) w93PR w93PC (by omega) (by decide) (by decide))
          · refine zs_if_eqF (pc := 309) t237_309 rfl (by omega) ?_
            refine zs_aload_n (pc := 312) t237_312 rfl ?_
            refine zs_bipush (pc := 313) t237_313 (v := 13) (by decide) ?_
            refine zs_iconst (pc := 315) t237_315 (v := 0) (by decide) ?_
            refine zs_sipush (pc := 316) t237_316 (v := 9999) (by decide) ?_
            refine zs_bipush (pc := 319) t237_319 (v := 59) (by decide) ?_
            have w103 : (13 : Int32).toInt = 13 := li13
            have w104 : (0 : Int32).toInt = 0 := li0
            have w105 : (9999 : Int32).toInt = 9999 := li9999
            have w106 : (59 : Int32).toInt = 59 := li59
            have w107 : (zI w93M 337 1).toInt = (zI w93M 337 1).toInt := (congrArg Int32.toInt rfl).trans rfl
            have w108 : (zI w93M 337 0).toInt = (zI w93M 337 0).toInt := (congrArg Int32.toInt rfl).trans rfl
            have w109 : (zI w93M 336 6).toInt = (zI w93M 336 6).toInt := (congrArg Int32.toInt rfl).trans rfl
            have w110 : (zI w93M 337 1).toInt = (zI w93M 337 1).toInt := (congrArg Int32.toInt rfl).trans rfl
            have w111 : (zI w93M 337 0).toInt = (zI w93M 337 0).toInt := (congrArg Int32.toInt rfl).trans rfl
            have w112 : (zI w93M 337 2).toInt = (zI w93M 337 2).toInt := (congrArg Int32.toInt rfl).trans rfl
            have w113 : (zI w93M 336 7).toInt = (zI w93M 336 7).toInt := (congrArg Int32.toInt rfl).trans rfl
            refine zs_invV (pc := 321) (k := 336) (as' := [.int (13 : Int32), .int (0 : Int32), .int (9999 : Int32), .int (59 : Int32)]) (st := []) t237_321 mf242 rfl rfl (Or.inl ⟨by decide, (zk1 (w93s.k fk_zMm_336))⟩) ⟨by decide, by decide, Nat.le_of_ble_eq_true rfl, Nat.le_of_ble_eq_true rfl⟩ (K242 w93s w93I w93PR w93PC ⟨by decide, by decide⟩ ⟨by decide, by decide⟩ (by omega) (by omega) (show 0 ≤ (0 : Int32).toInt ∧ (9999 : Int32).toInt ≤ 9999 from ⟨by omega, by omega⟩) ?_) (fun _ _ q => q)
            intro w114M w114v w114s w114I w114F w114J w114U w114PR w114PC w114t0 w114t1 w114t2 w114t3 w114t4 w114x0 w114x1 w114a w114b
            have w115 := ib336_6 w114I
            have w116 := ibA1 w114I
            have w117 := ibA0 w114I
            have w118 := ibA2 w114I
            have w119 := ib336_7 w114I
            show zGo X l 5 0 0 237 324 [(1, .int w5v), (0, .ref 336)] [.int w114v] w114M _
            by_cases w120 : w114v.toInt = 0
            · refine zs_if_eqT (pc := 324) t237_324 rfl (by omega) ?_
              refine zs_iconst (pc := 331) t237_331 (v := 0) (by decide) ?_
              have w121 : (zI w114M 336 6).toInt = (zI w114M 336 6).toInt := (congrArg Int32.toInt rfl).trans rfl
              have w122 : (zI w114M 336 7).toInt = (zI w114M 336 7).toInt := (congrArg Int32.toInt rfl).trans rfl
              have w123 := li0
              exact zs_iret (pc := 332) t237_332 mr237 (by decide) (hQ _ _ w114s w114I ((((zFr.refl).put rfl).trans (w93F.mono rfl)).trans (w114F.mono rfl)) (w114J.trans w93J) ((((zUp.refl).put (Or.inl (by decide))).trans w93U).trans w114U) w114PR w114PC (by omega) (by decide) (by decide))
            · refine zs_if_eqF (pc := 324) t237_324 rfl (by omega) ?_
              refine zs_iconst (pc := 327) t237_327 (v := 1) (by decide) ?_
              refine zs_goto (pc := 328) t237_328 ?_
              have w124 : (zI w114M 336 6).toInt = (zI w114M 336 6).toInt := (congrArg Int32.toInt rfl).trans rfl
              have w125 : (zI w114M 336 7).toInt = (zI w114M 336 7).toInt := (congrArg Int32.toInt rfl).trans rfl
              have w126 := li1
              exact zs_iret (pc := 332) t237_332 mr237 (by decide) (hQ _ _ w114s w114I ((((zFr.refl).put rfl).trans (w93F.mono rfl)).trans (w114F.mono rfl)) (w114J.trans w93J) ((((zUp.refl).put (Or.inl (by decide))).trans w93U).trans w114U) w114PR w114PC (by omega) (by decide) (by decide))
        by_cases w127 : w5v.toInt = 115
        · refine zs_tswI (pc := 76) t237_76 ((rfl : w5v.toInt = w5v.toInt).trans w127) (by decide) rfl (pc2 := 181) rfl ?_
          refine zs_aload_n (pc := 181) t237_181 rfl ?_
          refine zs_iconst (pc := 182) t237_182 (v := 5) (by decide) ?_
          refine zs_iconst (pc := 183) t237_183 (v := 0) (by decide) ?_
          refine zs_iconst (pc := 184) t237_184 (v := 3) (by decide) ?_
          refine zs_bipush (pc := 185) t237_185 (v := 44) (by decide) ?_
          have w128 : (5 : Int32).toInt = 5 := li5
          have w129 : (0 : Int32).toInt = 0 := li0
          have w130 : (3 : Int32).toInt = 3 := li3
          have w131 : (44 : Int32).toInt = 44 := li44
          have w132 := ibA1 hI
          have w133 : (zI (zsI M 336 6 w9v) 337 1).toInt = (zI M 337 1).toInt := (congrArg Int32.toInt ((zIo (by decide)).trans rfl)).trans rfl
          have w134 := ibA0 hI
          have w135 : (zI (zsI M 336 6 w9v) 337 0).toInt = (zI M 337 0).toInt := (congrArg Int32.toInt ((zIo (by decide)).trans rfl)).trans rfl
          have w136 : (zI (zsI M 336 6 w9v) 336 6).toInt = ((zI M 336 6).toInt + 1) := (congrArg Int32.toInt zIs).trans w9
          have w137 : (zI (zsI M 336 6 w9v) 337 1).toInt = (zI M 337 1).toInt := (congrArg Int32.toInt ((zIo (by decide)).trans rfl)).trans rfl
          have w138 : (zI (zsI M 336 6 w9v) 337 0).toInt = (zI M 337 0).toInt := (congrArg Int32.toInt ((zIo (by decide)).trans rfl)).trans rfl
          have w139 := ibA2 hI
          have w140 : (zI (zsI M 336 6 w9v) 337 2).toInt = (zI M 337 2).toInt := (congrArg Int32.toInt ((zIo (by decide)).trans rfl)).trans rfl
          have w141 := ib336_7 hI
          have w142 : (zI (zsI M 336 6 w9v) 336 7).toInt = (zI M 336 7).toInt := (congrArg Int32.toInt ((zIoj (by decide)).trans rfl)).trans rfl
          refine zs_invV (pc := 187) (k := 336) (as' := [.int (5 : Int32), .int (0 : Int32), .int (3 : Int32), .int (44 : Int32)]) (st := []) t237_187 mf242 rfl rfl (Or.inl ⟨by decide, (zk1 (hs.k fk_zMm_336))⟩) ⟨by decide, by decide, Nat.le_of_ble_eq_true rfl, Nat.le_of_ble_eq_true rfl⟩ (K242 hs w10 (zPR.fr (M' := (zsI M 336 6 w9v)) pR (zEq.put rfl)) (zPC.fr (M' := (zsI M 336 6 w9v)) pC (zEq.put rfl)) ⟨by decide, by decide⟩ ⟨by decide, by decide⟩ (by omega) (by omega) (show 0 ≤ (0 : Int32).toInt ∧ (3 : Int32).toInt ≤ 3 from ⟨by omega, by omega⟩) ?_) (fun _ _ q => q)
          intro w143M w143v w143s w143I w143F w143J w143U w143PR w143PC w143t0 w143t1 w143t2 w143t3 w143t4 w143x0 w143x1 w143a w143b
          have w144 := ib336_6 w143I
          have w145 := ibA1 w143I
          have w146 := ibA0 w143I
          have w147 := ibA2 w143I
          have w148 := ib336_7 w143I
          show zGo X l 5 0 0 237 190 [(1, .int w5v), (0, .ref 336)] [.int w143v] w143M _
          by_cases w149 : w143v.toInt = 0
          · refine zs_if_eqT (pc := 190) t237_190 rfl (by omega) ?_
            refine zs_iconst (pc := 240) t237_240 (v := 0) (by decide) ?_
            have w150 : (zI w143M 336 6).toInt = (zI w143M 336 6).toInt := (congrArg Int32.toInt rfl).trans rfl
            have w151 : (zI w143M 336 7).toInt = (zI w143M 336 7).toInt := (congrArg Int32.toInt rfl).trans rfl
            have w152 := li0
            exact zs_iret (pc := 241) t237_241 mr237 (by decide) (hQ _ _ w143s w143I (((zFr.refl).put rfl).trans (w143F.mono rfl)) w143J (((zUp.refl).put (Or.inl (by decide))).trans w143U) w143PR w143PC (by omega) (by decide) (by decide))
          · refine zs_if_eqF (pc := 190) t237_190 rfl (by omega) ?_
            refine zs_aload_n (pc := 193) t237_193 rfl ?_
            refine zs_bipush (pc := 194) t237_194 (v := 6) (by decide) ?_
            refine zs_iconst (pc := 196) t237_196 (v := 0) (by decide) ?_
            refine zs_bipush (pc := 197) t237_197 (v := 20) (by decide) ?_
            refine zs_bipush (pc := 199) t237_199 (v := 44) (by decide) ?_
            have w153 : (6 : Int32).toInt = 6 := li6
            have w154 : (0 : Int32).toInt = 0 := li0
            have w155 : (20 : Int32).toInt = 20 := li20
            have w156 : (44 : Int32).toInt = 44 := li44
            have w157 : (zI w143M 337 1).toInt = (zI w143M 337 1).toInt := (congrArg Int32.toInt rfl).trans rfl
            have w158 : (zI w143M 337 0).toInt = (zI w143M 337 0).toInt := (congrArg Int32.toInt rfl).trans rfl
            have w159 : (zI w143M 336 6).toInt = (zI w143M 336 6).toInt := (congrArg Int32.toInt rfl).trans rfl
            have w160 : (zI w143M 337 1).toInt = (zI w143M 337 1).toInt := (congrArg Int32.toInt rfl).trans rfl
            have w161 : (zI w143M 337 0).toInt = (zI w143M 337 0).toInt := (congrArg Int32.toInt rfl).trans rfl
            have w162 : (zI w143M 337 2).toInt = (zI w143M 337 2).toInt := (congrArg Int32.toInt rfl).trans rfl
            have w163 : (zI w143M 336 7).toInt = (zI w143M 336 7).toInt := (congrArg Int32.toInt rfl).trans rfl
            refine zs_invV (pc := 201) (k := 336) (as' := [.int (6 : Int32), .int (0 : Int32), .int (20 : Int32), .int (44 : Int32)]) (st := []) t237_201 mf242 rfl rfl (Or.inl ⟨by decide, (zk1 (w143s.k fk_zMm_336))⟩) ⟨by decide, by decide, Nat.le_of_ble_eq_true rfl, Nat.le_of_ble_eq_true rfl⟩ (K242 w143s w143I w143PR w143PC ⟨by decide, by decide⟩ ⟨by decide, by decide⟩ (by omega) (by omega) (show 0 ≤ (0 : Int32).toInt ∧ (20 : Int32).toInt ≤ 20 from ⟨by omega, by omega⟩) ?_) (fun _ _ q => q)
            intro w164M w164v w164s w164I w164F w164J w164U w164PR w164PC w164t0 w164t1 w164t2 w164t3 w164t4 w164x0 w164x1 w164a w164b
            have w165 := ib336_6 w164I
            have w166 := ibA1 w164I
            have w167 := ibA0 w164I
            have w168 := ibA2 w164I
            have w169 := ib336_7 w164I
            show zGo X l 5 0 0 237 204 [(1, .int w5v), (0, .ref 336)] [.int w164v] w164M _
            by_cases w170 : w164v.toInt = 0
            · refine zs_if_eqT (pc := 204) t237_204 rfl (by omega) ?_
              refine zs_iconst (pc := 240) t237_240 (v := 0) (by decide) ?_
              have w171 : (zI w164M 336 6).toInt = (zI w164M 336 6).toInt := (congrArg Int32.toInt rfl).trans rfl
              have w172 : (zI w164M 336 7).toInt = (zI w164M 336 7).toInt := (congrArg Int32.toInt rfl).trans rfl
              have w173 := li0
              exact zs_iret (pc := 241) t237_241 mr237 (by decide) (hQ _ _ w164s w164I ((((zFr.refl).put rfl).trans (w143F.mono rfl)).trans (w164F.mono rfl)) (w164J.trans w143J) ((((zUp.refl).put (Or.inl (by decide))).trans w143U).trans w164U) w164PR w164PC (by omega) (by decide) (by decide))
            · refine zs_if_eqF (pc := 204) t237_204 rfl (by omega) ?_
              refine zs_aload_n (pc := 207) t237_207 rfl ?_
              refine zs_bipush (pc := 208) t237_208 (v := 7) (by decide) ?_
              refine zs_iconst (pc := 210) t237_210 (v := 1) (by decide) ?_
              refine zs_sipush (pc := 211) t237_211 (v := 500) (by decide) ?_
              refine zs_bipush (pc := 214) t237_214 (v := 44) (by decide) ?_
              have w174 : (7 : Int32).toInt = 7 := li7
              have w175 : (1 : Int32).toInt = 1 := li1
              have w176 : (500 : Int32).toInt = 500 := li500
              have w177 : (44 : Int32).toInt = 44 := li44
              have w178 : (zI w164M 337 1).toInt = (zI w164M 337 1).toInt := (congrArg Int32.toInt rfl).trans rfl
              have w179 : (zI w164M 337 0).toInt = (zI w164M 337 0).toInt := (congrArg Int32.toInt rfl).trans rfl
              have w180 : (zI w164M 336 6).toInt = (zI w164M 336 6).toInt := (congrArg Int32.toInt rfl).trans rfl
              have w181 : (zI w164M 337 1).toInt = (zI w164M 337 1).toInt := (congrArg Int32.toInt rfl).trans rfl
              have w182 : (zI w164M 337 0).toInt = (zI w164M 337 0).toInt := (congrArg Int32.toInt rfl).trans rfl
              have w183 : (zI w164M 337 2).toInt = (zI w164M 337 2).toInt := (congrArg Int32.toInt rfl).trans rfl
              have w184 : (zI w164M 336 7).toInt = (zI w164M 336 7).toInt := (congrArg Int32.toInt rfl).trans rfl
              refine zs_invV (pc := 216) (k := 336) (as' := [.int (7 : Int32), .int (1 : Int32), .int (500 : Int32), .int (44 : Int32)]) (st := []) t237_216 mf242 rfl rfl (Or.inl ⟨by decide, (zk1 (w164s.k fk_zMm_336))⟩) ⟨by decide, by decide, Nat.le_of_ble_eq_true rfl, Nat.le_of_ble_eq_true rfl⟩ (K242 w164s w164I w164PR w164PC ⟨by decide, by decide⟩ ⟨by decide, by decide⟩ (by omega) (by omega) (show 1 ≤ (1 : Int32).toInt ∧ (500 : Int32).toInt ≤ 500 from ⟨by omega, by omega⟩) ?_) (fun _ _ q => q)
              intro w185M w185v w185s w185I w185F w185J w185U w185PR w185PC w185t0 w185t1 w185t2 w185t3 w185t4 w185x0 w185x1 w185a w185b
              have w186 := ib336_6 w185I
              have w187 := ibA1 w185I
              have w188 := ibA0 w185I
              have w189 := ibA2 w185I
              have w190 := ib336_7 w185I
              show zGo X l 5 0 0 237 219 [(1, .int w5v), (0, .ref 336)] [.int w185v] w185M _
              by_cases w191 : w185v.toInt = 0
              · refine zs_if_eqT (pc := 219) t237_219 rfl (by omega) ?_
                refine zs_iconst (pc := 240) t237_240 (v := 0) (by decide) ?_
                have w192 : (zI w185M 336 6).toInt = (zI w185M 336 6).toInt := (congrArg Int32.toInt rfl).trans rfl
                have w193 : (zI w185M 336 7).toInt = (zI w185M 336 7).toInt := (congrArg Int32.toInt rfl).trans rfl
                have w194 := li0
                exact zs_iret (pc := 241) t237_241 mr237 (by decide) (hQ _ _ w185s w185I (((((zFr.refl).put rfl).trans (w143F.mono rfl)).trans (w164F.mono rfl)).trans (w185F.mono rfl)) (w185J.trans (w164J.trans w143J)) (((((zUp.refl).put (Or.inl (by decide))).trans w143U).trans w164U).trans w185U) w185PR w185PC (by omega) (by decide) (by decide))
              · refine zs_if_eqF (pc := 219) t237_219 rfl (by omega) ?_
                refine zs_aload_n (pc := 222) t237_222 rfl ?_
                refine zs_bipush (pc := 223) t237_223 (v := 8) (by decide) ?_
                refine zs_iconst (pc := 225) t237_225 (v := 2) (by decide) ?_
                refine zs_bipush (pc := 226) t237_226 (v := 8) (by decide) ?_
                refine zs_bipush (pc := 228) t237_228 (v := 59) (by decide) ?_
                have w195 : (8 : Int32).toInt = 8 := li8
                have w196 : (2 : Int32).toInt = 2 := li2
                have w197 : (8 : Int32).toInt = 8 := li8
                have w198 : (59 : Int32).toInt = 59 := li59
                have w199 : (zI w185M 337 1).toInt = (zI w185M 337 1).toInt := (congrArg Int32.toInt rfl).trans rfl
                have w200 : (zI w185M 337 0).toInt = (zI w185M 337 0).toInt := (congrArg Int32.toInt rfl).trans rfl
                have w201 : (zI w185M 336 6).toInt = (zI w185M 336 6).toInt := (congrArg Int32.toInt rfl).trans rfl
                have w202 : (zI w185M 337 1).toInt = (zI w185M 337 1).toInt := (congrArg Int32.toInt rfl).trans rfl
                have w203 : (zI w185M 337 0).toInt = (zI w185M 337 0).toInt := (congrArg Int32.toInt rfl).trans rfl
                have w204 : (zI w185M 337 2).toInt = (zI w185M 337 2).toInt := (congrArg Int32.toInt rfl).trans rfl
                have w205 : (zI w185M 336 7).toInt = (zI w185M 336 7).toInt := (congrArg Int32.toInt rfl).trans rfl
                refine zs_invV (pc := 230) (k := 336) (as' := [.int (8 : Int32), .int (2 : Int32), .int (8 : Int32), .int (59 : Int32)]) (st := []) t237_230 mf242 rfl rfl (Or.inl ⟨by decide, (zk1 (w185s.k fk_zMm_336))⟩) ⟨by decide, by decide, Nat.le_of_ble_eq_true rfl, Nat.le_of_ble_eq_true rfl⟩ (K242 w185s w185I w185PR w185PC ⟨by decide, by decide⟩ ⟨by decide, by decide⟩ (by omega) (by omega) (show 2 ≤ (2 : Int32).toInt ∧ (8 : Int32).toInt ≤ 8 from ⟨by omega, by omega⟩) ?_) (fun _ _ q => q)
                intro w206M w206v w206s w206I w206F w206J w206U w206PR w206PC w206t0 w206t1 w206t2 w206t3 w206t4 w206x0 w206x1 w206a w206b
                have w207 := ib336_6 w206I
                have w208 := ibA1 w206I
                have w209 := ibA0 w206I
                have w210 := ibA2 w206I
                have w211 := ib336_7 w206I
                show zGo X l 5 0 0 237 233 [(1, .int w5v), (0, .ref 336)] [.int w206v] w206M _
                by_cases w212 : w206v.toInt = 0
                · refine zs_if_eqT (pc := 233) t237_233 rfl (by omega) ?_
                  refine zs_iconst (pc := 240) t237_240 (v := 0) (by decide) ?_
                  have w213 : (zI w206M 336 6).toInt = (zI w206M 336 6).toInt := (congrArg Int32.toInt rfl).trans rfl
                  have w214 : (zI w206M 336 7).toInt = (zI w206M 336 7).toInt := (congrArg Int32.toInt rfl).trans rfl
                  have w215 := li0
                  exact zs_iret (pc := 241) t237_241 mr237 (by decide) (hQ _ _ w206s w206I ((((((zFr.refl).put rfl).trans (w143F.mono rfl)).trans (w164F.mono rfl)).trans (w185F.mono rfl)).trans (w206F.mono rfl)) (w206J.trans (w185J.trans (w164J.trans w143J))) ((((((zUp.refl).put (Or.inl (by decide))).trans w143U).trans w164U).trans w185U).trans w206U) w206PR w206PC (by omega) (by decide) (by decide))
                · refine zs_if_eqF (pc := 233) t237_233 rfl (by omega) ?_
                  refine zs_iconst (pc := 236) t237_236 (v := 1) (by decide) ?_
                  refine zs_goto (pc := 237) t237_237 ?_
                  have w216 : (zI w206M 336 6).toInt = (zI w206M 336 6).toInt := (congrArg Int32.toInt rfl).trans rfl
                  have w217 : (zI w206M 336 7).toInt = (zI w206M 336 7).toInt := (congrArg Int32.toInt rfl).trans rfl
                  have w218 := li1
                  exact zs_iret (pc := 241) t237_241 mr237 (by decide) (hQ _ _ w206s w206I ((((((zFr.refl).put rfl).trans (w143F.mono rfl)).trans (w164F.mono rfl)).trans (w185F.mono rfl)).trans (w206F.mono rfl)) (w206J.trans (w185J.trans (w164J.trans w143J))) ((((((zUp.refl).put (Or.inl (by decide))).trans w143U).trans w164U).trans w185U).trans w206U) w206PR w206PC (by omega) (by decide) (by decide))
        by_cases w219 : w5v.toInt = 116
        · refine zs_tswI (pc := 76) t237_76 ((rfl : w5v.toInt = w5v.toInt).trans w219) (by decide) rfl (pc2 := 333) rfl ?_
          refine zs_aload_n (pc := 333) t237_333 rfl ?_
          refine zs_aload_n (pc := 334) t237_334 rfl ?_
          refine zs_get (pc := 335) t237_335 (by decide) (zk1 (hs.k fk_zMm_336)) (zfvi rfl zIs) ?_
          refine zs_iconst (pc := 338) t237_338 (v := 1) (by decide) ?_
          obtain ⟨w220v, w220e, w220⟩ := zisub (a := w9v) (b := (1 : Int32)) w9 li1 (by omega) (by omega)
          refine zs_isub (pc := 339) t237_339 (c := w220v) w220e ?_
          refine zs_invV (pc := 340) (k := 336) (as' := [.int w220v]) (st := []) t237_340 mf239 rfl rfl (Or.inl ⟨by decide, (zk1 (hs.k fk_zMm_336))⟩) ⟨by decide, by decide, Nat.le_of_ble_eq_true rfl, Nat.le_of_ble_eq_true rfl⟩ (zs_in (by decide) mf239 (Nat.le_of_ble_eq_true rfl) ?_) (fun _ _ q => q)
          show zGo X l 0 0 0 239 0 [(0, .ref 336), (1, .int w220v)] [] (zsI M 336 6 w9v) _
          refine zs_aload_n (pc := 0) t239_0 rfl ?_
          refine zs_iload_n (pc := 1) t239_1 rfl ?_
          have w221 : zIv mLo mHi (zsI (zsI M 336 6 w9v) 336 7 w220v) := zIv.put w10 (show (-1) ≤ w220v.toInt ∧ w220v.toInt ≤ 500 from ⟨by omega, by omega⟩)
          refine zs_putI (pc := 2) t239_2 (zk1 (hs.k fk_zMm_336)) rfl ?_
          refine zs_iconst (pc := 5) t239_5 (v := 0) (by decide) ?_
          refine zs_iret (pc := 6) t239_6 mr239 (by decide) ?_
          show zGo X l 5 0 0 237 343 [(1, .int w5v), (0, .ref 336)] [.int (0 : Int32)] (zsI (zsI M 336 6 w9v) 336 7 w220v) _
          have w222 : (zI (zsI (zsI M 336 6 w9v) 336 7 w220v) 336 6).toInt = ((zI M 336 6).toInt + 1) := (congrArg Int32.toInt ((zIoj (by decide)).trans zIs)).trans w9
          have w223 : (zI (zsI (zsI M 336 6 w9v) 336 7 w220v) 336 7).toInt = (((zI M 336 6).toInt + 1) - 1) := (congrArg Int32.toInt zIs).trans w220
          have w224 := li0
          exact zs_iret (pc := 343) t237_343 mr237 (by decide) (hQ _ _ hs w221 (((zFr.refl).put rfl).put rfl) rfl (((zUp.refl).put (Or.inl (by decide))).put (Or.inl (by decide))) (zPR.fr (M' := (zsI (zsI M 336 6 w9v) 336 7 w220v)) (zPR.fr (M' := (zsI M 336 6 w9v)) pR (zEq.put rfl)) (zEq.put rfl)) (zPC.fr (M' := (zsI (zsI M 336 6 w9v) 336 7 w220v)) (zPC.fr (M' := (zsI M 336 6 w9v)) pC (zEq.put rfl)) (zEq.put rfl)) (by omega) (by decide) (by decide))
        by_cases w225 : w5v.toInt = 117
        · refine zs_tswI (pc := 76) t237_76 ((rfl : w5v.toInt = w5v.toInt).trans w225) (by decide) rfl (pc2 := 333) rfl ?_
          refine zs_aload_n (pc := 333) t237_333 rfl ?_
          refine zs_aload_n (pc := 334) t237_334 rfl ?_
          refine zs_get (pc := 335) t237_335 (by decide) (zk1 (hs.k fk_zMm_336)) (zfvi rfl zIs) ?_
          refine zs_iconst (pc := 338) t237_338 (v := 1) (by decide) ?_
          obtain ⟨w226v, w226e, w226⟩ := zisub (a := w9v) (b := (1 : Int32)) w9 li1 (by omega) (by omega)
          refine zs_isub (pc := 339) t237_339 (c := w226v) w226e ?_
          refine zs_invV (pc := 340) (k := 336) (as' := [.int w226v]) (st := []) t237_340 mf239 rfl rfl (Or.inl ⟨by decide, (zk1 (hs.k fk_zMm_336))⟩) ⟨by decide, by decide, Nat.le_of_ble_eq_true rfl, Nat.le_of_ble_eq_true rfl⟩ (zs_in (by decide) mf239 (Nat.le_of_ble_eq_true rfl) ?_) (fun _ _ q => q)
          show zGo X l 0 0 0 239 0 [(0, .ref 336), (1, .int w226v)] [] (zsI M 336 6 w9v) _
          refine zs_aload_n (pc := 0) t239_0 rfl ?_
          refine zs_iload_n (pc := 1) t239_1 rfl ?_
          have w227 : zIv mLo mHi (zsI (zsI M 336 6 w9v) 336 7 w226v) := zIv.put w10 (show (-1) ≤ w226v.toInt ∧ w226v.toInt ≤ 500 from ⟨by omega, by omega⟩)
          refine zs_putI (pc := 2) t239_2 (zk1 (hs.k fk_zMm_336)) rfl ?_
          refine zs_iconst (pc := 5) t239_5 (v := 0) (by decide) ?_
          refine zs_iret (pc := 6) t239_6 mr239 (by decide) ?_
          show zGo X l 5 0 0 237 343 [(1, .int w5v), (0, .ref 336)] [.int (0 : Int32)] (zsI (zsI M 336 6 w9v) 336 7 w226v) _
          have w228 : (zI (zsI (zsI M 336 6 w9v) 336 7 w226v) 336 6).toInt = ((zI M 336 6).toInt + 1) := (congrArg Int32.toInt ((zIoj (by decide)).trans zIs)).trans w9
          have w229 : (zI (zsI (zsI M 336 6 w9v) 336 7 w226v) 336 7).toInt = (((zI M 336 6).toInt + 1) - 1) := (congrArg Int32.toInt zIs).trans w226
          have w230 := li0
          exact zs_iret (pc := 343) t237_343 mr237 (by decide) (hQ _ _ hs w227 (((zFr.refl).put rfl).put rfl) rfl (((zUp.refl).put (Or.inl (by decide))).put (Or.inl (by decide))) (zPR.fr (M' := (zsI (zsI M 336 6 w9v) 336 7 w226v)) (zPR.fr (M' := (zsI M 336 6 w9v)) pR (zEq.put rfl)) (zEq.put rfl)) (zPC.fr (M' := (zsI (zsI M 336 6 w9v) 336 7 w226v)) (zPC.fr (M' := (zsI M 336 6 w9v)) pC (zEq.put rfl)) (zEq.put rfl)) (by omega) (by decide) (by decide))
        by_cases w231 : w5v.toInt = 118
        · refine zs_tswI (pc := 76) t237_76 ((rfl : w5v.toInt = w5v.toInt).trans w231) (by decide) rfl (pc2 := 333) rfl ?_
          refine zs_aload_n (pc := 333) t237_333 rfl ?_
          refine zs_aload_n (pc := 334) t237_334 rfl ?_
          refine zs_get (pc := 335) t237_335 (by decide) (zk1 (hs.k fk_zMm_336)) (zfvi rfl zIs) ?_
          refine zs_iconst (pc := 338) t237_338 (v := 1) (by decide) ?_
          obtain ⟨w232v, w232e, w232⟩ := zisub (a := w9v) (b := (1 : Int32)) w9 li1 (by omega) (by omega)
          refine zs_isub (pc := 339) t237_339 (c := w232v) w232e ?_
          refine zs_invV (pc := 340) (k := 336) (as' := [.int w232v]) (st := []) t237_340 mf239 rfl rfl (Or.inl ⟨by decide, (zk1 (hs.k fk_zMm_336))⟩) ⟨by decide, by decide, Nat.le_of_ble_eq_true rfl, Nat.le_of_ble_eq_true rfl⟩ (zs_in (by decide) mf239 (Nat.le_of_ble_eq_true rfl) ?_) (fun _ _ q => q)
          show zGo X l 0 0 0 239 0 [(0, .ref 336), (1, .int w232v)] [] (zsI M 336 6 w9v) _
          refine zs_aload_n (pc := 0) t239_0 rfl ?_
          refine zs_iload_n (pc := 1) t239_1 rfl ?_
          have w233 : zIv mLo mHi (zsI (zsI M 336 6 w9v) 336 7 w232v) := zIv.put w10 (show (-1) ≤ w232v.toInt ∧ w232v.toInt ≤ 500 from ⟨by omega, by omega⟩)
          refine zs_putI (pc := 2) t239_2 (zk1 (hs.k fk_zMm_336)) rfl ?_
          refine zs_iconst (pc := 5) t239_5 (v := 0) (by decide) ?_
          refine zs_iret (pc := 6) t239_6 mr239 (by decide) ?_
          show zGo X l 5 0 0 237 343 [(1, .int w5v), (0, .ref 336)] [.int (0 : Int32)] (zsI (zsI M 336 6 w9v) 336 7 w232v) _
          have w234 : (zI (zsI (zsI M 336 6 w9v) 336 7 w232v) 336 6).toInt = ((zI M 336 6).toInt + 1) := (congrArg Int32.toInt ((zIoj (by decide)).trans zIs)).trans w9
          have w235 : (zI (zsI (zsI M 336 6 w9v) 336 7 w232v) 336 7).toInt = (((zI M 336 6).toInt + 1) - 1) := (congrArg Int32.toInt zIs).trans w232
          have w236 := li0
          exact zs_iret (pc := 343) t237_343 mr237 (by decide) (hQ _ _ hs w233 (((zFr.refl).put rfl).put rfl) rfl (((zUp.refl).put (Or.inl (by decide))).put (Or.inl (by decide))) (zPR.fr (M' := (zsI (zsI M 336 6 w9v) 336 7 w232v)) (zPR.fr (M' := (zsI M 336 6 w9v)) pR (zEq.put rfl)) (zEq.put rfl)) (zPC.fr (M' := (zsI (zsI M 336 6 w9v) 336 7 w232v)) (zPC.fr (M' := (zsI M 336 6 w9v)) pC (zEq.put rfl)) (zEq.put rfl)) (by omega) (by decide) (by decide))
        by_cases w237 : w5v.toInt = 119
        · refine zs_tswI (pc := 76) t237_76 ((rfl : w5v.toInt = w5v.toInt).trans w237) (by decide) rfl (pc2 := 255) rfl ?_
          refine zs_aload_n (pc := 255) t237_255 rfl ?_
          refine zs_bipush (pc := 256) t237_256 (v := 10) (by decide) ?_
          refine zs_iconst (pc := 258) t237_258 (v := 0) (by decide) ?_
          refine zs_sipush (pc := 259) t237_259 (v := 999) (by decide) ?_
          refine zs_bipush (pc := 262) t237_262 (v := 44) (by decide) ?_
          have w238 : (10 : Int32).toInt = 10 := li10
          have w239 : (0 : Int32).toInt = 0 := li0
          have w240 : (999 : Int32).toInt = 999 := li999
          have w241 : (44 : Int32).toInt = 44 := li44
          have w242 := ibA1 hI
          have w243 : (zI (zsI M 336 6 w9v) 337 1).toInt = (zI M 337 1).toInt := (congrArg Int32.toInt ((zIo (by decide)).trans rfl)).trans rfl
          have w244 := ibA0 hI
          have w245 : (zI (zsI M 336 6 w9v) 337 0).toInt = (zI M 337 0).toInt := (congrArg Int32.toInt ((zIo (by decide)).trans rfl)).trans rfl
          have w246 : (zI (zsI M 336 6 w9v) 336 6).toInt = ((zI M 336 6).toInt + 1) := (congrArg Int32.toInt zIs).trans w9
          have w247 : (zI (zsI M 336 6 w9v) 337 1).toInt = (zI M 337 1).toInt := (congrArg Int32.toInt ((zIo (by decide)).trans rfl)).trans rfl
          have w248 : (zI (zsI M 336 6 w9v) 337 0).toInt = (zI M 337 0).toInt := (congrArg Int32.toInt ((zIo (by decide)).trans rfl)).trans rfl
          have w249 := ibA2 hI
          have w250 : (zI (zsI M 336 6 w9v) 337 2).toInt = (zI M 337 2).toInt := (congrArg Int32.toInt ((zIo (by decide)).trans rfl)).trans rfl
          have w251 := ib336_7 hI
          have w252 : (zI (zsI M 336 6 w9v) 336 7).toInt = (zI M 336 7).toInt := (congrArg Int32.toInt ((zIoj (by decide)).trans rfl)).trans rfl
          refine zs_invV (pc := 264) (k := 336) (as' := [.int (10 : Int32), .int (0 : Int32), .int (999 : Int32), .int (44 : Int32)]) (st := []) t237_264 mf242 rfl rfl (Or.inl ⟨by decide, (zk1 (hs.k fk_zMm_336))⟩) ⟨by decide, by decide, Nat.le_of_ble_eq_true rfl, Nat.le_of_ble_eq_true rfl⟩ (K242 hs w10 (zPR.fr (M' := (zsI M 336 6 w9v)) pR (zEq.put rfl)) (zPC.fr (M' := (zsI M 336 6 w9v)) pC (zEq.put rfl)) ⟨by decide, by decide⟩ ⟨by decide, by decide⟩ (by omega) (by omega) (show 0 ≤ (0 : Int32).toInt ∧ (999 : Int32).toInt ≤ 999 from ⟨by omega, by omega⟩) ?_) (fun _ _ q => q)
          intro w253M w253v w253s w253I w253F w253J w253U w253PR w253PC w253t0 w253t1 w253t2 w253t3 w253t4 w253x0 w253x1 w253a w253b
          have w254 := ib336_6 w253I
          have w255 := ibA1 w253I
          have w256 := ibA0 w253I
          have w257 := ibA2 w253I
          have w258 := ib336_7 w253I
          show zGo X l 5 0 0 237 267 [(1, .int w5v), (0, .ref 336)] [.int w253v] w253M _
          by_cases w259 : w253v.toInt = 0
          · refine zs_if_eqT (pc := 267) t237_267 rfl (by omega) ?_
            refine zs_iconst (pc := 295) t237_295 (v := 0) (by decide) ?_
            have w260 : (zI w253M 336 6).toInt = (zI w253M 336 6).toInt := (congrArg Int32.toInt rfl).trans rfl
            have w261 : (zI w253M 336 7).toInt = (zI w253M 336 7).toInt := (congrArg Int32.toInt rfl).trans rfl
            have w262 := li0
            exact zs_iret (pc := 296) t237_296 mr237 (by decide) (hQ _ _ w253s w253I (((zFr.refl).put rfl).trans (w253F.mono rfl)) w253J (((zUp.refl).put (Or.inl (by decide))).trans w253U) w253PR w253PC (by omega) (by decide) (by decide))
          · refine zs_if_eqF (pc := 267) t237_267 rfl (by omega) ?_
            refine zs_aload_n (pc := 270) t237_270 rfl ?_
            refine zs_bipush (pc := 271) t237_271 (v := 11) (by decide) ?_
            refine zs_aload_n (pc := 273) t237_273 rfl ?_
            refine zs_get (pc := 274) t237_274 (by decide) (zk1 (w253s.k fk_zMm_336)) (w253s.p rfl fv_zMm_336_0) ?_
            refine zs_bipush (pc := 277) t237_277 (v := 10) (by decide) ?_
            have w263 := ibA10 w253I
            refine zs_iald (pc := 279) t237_279 (j := 10) (by decide) (zk1 (w253s.k fk_zMm_337)) li10 (zk2 (w253s.k fk_zMm_337) (by decide)) rfl ?_
            refine zs_sipush (pc := 280) t237_280 (v := 999) (by decide) ?_
            refine zs_bipush (pc := 283) t237_283 (v := 59) (by decide) ?_
            have w264 : (11 : Int32).toInt = 11 := li11
            have w265 : (999 : Int32).toInt = 999 := li999
            have w266 : (59 : Int32).toInt = 59 := li59
            have w267 : (zI w253M 337 1).toInt = (zI w253M 337 1).toInt := (congrArg Int32.toInt rfl).trans rfl
            have w268 : (zI w253M 337 0).toInt = (zI w253M 337 0).toInt := (congrArg Int32.toInt rfl).trans rfl
            have w269 : (zI w253M 336 6).toInt = (zI w253M 336 6).toInt := (congrArg Int32.toInt rfl).trans rfl
            have w270 : (zI w253M 337 1).toInt = (zI w253M 337 1).toInt := (congrArg Int32.toInt rfl).trans rfl
            have w271 : (zI w253M 337 0).toInt = (zI w253M 337 0).toInt := (congrArg Int32.toInt rfl).trans rfl
            have w272 : (zI w253M 337 2).toInt = (zI w253M 337 2).toInt := (congrArg Int32.toInt rfl).trans rfl
            have w273 : (zI w253M 336 7).toInt = (zI w253M 336 7).toInt := (congrArg Int32.toInt rfl).trans rfl
            refine zs_invV (pc := 285) (k := 336) (as' := [.int (11 : Int32), .int (zI w253M 337 10), .int (999 : Int32), .int (59 : Int32)]) (st := []) t237_285 mf242 rfl rfl (Or.inl ⟨by decide, (zk1 (w253s.k fk_zMm_336))⟩) ⟨by decide, by decide, Nat.le_of_ble_eq_true rfl, Nat.le_of_ble_eq_true rfl⟩ (K242 w253s w253I w253PR w253PC ⟨by decide, by decide⟩ ⟨by decide, by decide⟩ (by omega) (by omega) (show 0 ≤ (zI w253M 337 10).toInt ∧ (999 : Int32).toInt ≤ 999 from ⟨by omega, by omega⟩) ?_) (fun _ _ q => q)
            intro w274M w274v w274s w274I w274F w274J w274U w274PR w274PC w274t0 w274t1 w274t2 w274t3 w274t4 w274x0 w274x1 w274a w274b
            have w275 := ib336_6 w274I
            have w276 := ibA1 w274I
            have w277 := ibA0 w274I
            have w278 := ibA2 w274I
            have w279 := ib336_7 w274I
            show zGo X l 5 0 0 237 288 [(1, .int w5v), (0, .ref 336)] [.int w274v] w274M _
            by_cases w280 : w274v.toInt = 0
            · refine zs_if_eqT (pc := 288) t237_288 rfl (by omega) ?_
              refine zs_iconst (pc := 295) t237_295 (v := 0) (by decide) ?_
              have w281 : (zI w274M 336 6).toInt = (zI w274M 336 6).toInt := (congrArg Int32.toInt rfl).trans rfl
              have w282 : (zI w274M 336 7).toInt = (zI w274M 336 7).toInt := (congrArg Int32.toInt rfl).trans rfl
              have w283 := li0
              exact zs_iret (pc := 296) t237_296 mr237 (by decide) (hQ _ _ w274s w274I ((((zFr.refl).put rfl).trans (w253F.mono rfl)).trans (w274F.mono rfl)) (w274J.trans w253J) ((((zUp.refl).put (Or.inl (by decide))).trans w253U).trans w274U) w274PR w274PC (by omega) (by decide) (by decide))
            · refine zs_if_eqF (pc := 288) t237_288 rfl (by omega) ?_
              refine zs_iconst (pc := 291) t237_291 (v := 1) (by decide) ?_
              refine zs_goto (pc := 292) t237_292 ?_
              have w284 : (zI w274M 336 6).toInt = (zI w274M 336 6).toInt := (congrArg Int32.toInt rfl).trans rfl
              have w285 : (zI w274M 336 7).toInt = (zI w274M 336 7).toInt := (congrArg Int32.toInt rfl).trans rfl
              have w286 := li1
              exact zs_iret (pc := 296) t237_296 mr237 (by decide) (hQ _ _ w274s w274I ((((zFr.refl).put rfl).trans (w253F.mono rfl)).trans (w274F.mono rfl)) (w274J.trans w253J) ((((zUp.refl).put (Or.inl (by decide))).trans w253U).trans w274U) w274PR w274PC (by omega) (by decide) (by decide))
        refine zs_tswD (pc := 76) t237_76 rfl (by omega) (pc2 := 333) rfl ?_
        refine zs_aload_n (pc := 333) t237_333 rfl ?_
        refine zs_aload_n (pc := 334) t237_334 rfl ?_
        refine zs_get (pc := 335) t237_335 (by decide) (zk1 (hs.k fk_zMm_336)) (zfvi rfl zIs) ?_
        refine zs_iconst (pc := 338) t237_338 (v := 1) (by decide) ?_
        obtain ⟨w287v, w287e, w287⟩ := zisub (a := w9v) (b := (1 : Int32)) w9 li1 (by omega) (by omega)
        refine zs_isub (pc := 339) t237_339 (c := w287v) w287e ?_
        refine zs_invV (pc := 340) (k := 336) (as' := [.int w287v]) (st := []) t237_340 mf239 rfl rfl (Or.inl ⟨by decide, (zk1 (hs.k fk_zMm_336))⟩) ⟨by decide, by decide, Nat.le_of_ble_eq_true rfl, Nat.le_of_ble_eq_true rfl⟩ (zs_in (by decide) mf239 (Nat.le_of_ble_eq_true rfl) ?_) (fun _ _ q => q)
        show zGo X l 0 0 0 239 0 [(0, .ref 336), (1, .int w287v)] [] (zsI M 336 6 w9v) _
        refine zs_aload_n (pc := 0) t239_0 rfl ?_
        refine zs_iload_n (pc := 1) t239_1 rfl ?_
        have w288 : zIv mLo mHi (zsI (zsI M 336 6 w9v) 336 7 w287v) := zIv.put w10 (show (-1) ≤ w287v.toInt ∧ w287v.toInt ≤ 500 from ⟨by omega, by omega⟩)
        refine zs_putI (pc := 2) t239_2 (zk1 (hs.k fk_zMm_336)) rfl ?_
        refine zs_iconst (pc := 5) t239_5 (v := 0) (by decide) ?_
        refine zs_iret (pc := 6) t239_6 mr239 (by decide) ?_
        show zGo X l 5 0 0 237 343 [(1, .int w5v), (0, .ref 336)] [.int (0 : Int32)] (zsI (zsI M 336 6 w9v) 336 7 w287v) _
        have w289 : (zI (zsI (zsI M 336 6 w9v) 336 7 w287v) 336 6).toInt = ((zI M 336 6).toInt + 1) := (congrArg Int32.toInt ((zIoj (by decide)).trans zIs)).trans w9
        have w290 : (zI (zsI (zsI M 336 6 w9v) 336 7 w287v) 336 7).toInt = (((zI M 336 6).toInt + 1) - 1) := (congrArg Int32.toInt zIs).trans w287
        have w291 := li0
        exact zs_iret (pc := 343) t237_343 mr237 (by decide) (hQ _ _ hs w288 (((zFr.refl).put rfl).put rfl) rfl (((zUp.refl).put (Or.inl (by decide))).put (Or.inl (by decide))) (zPR.fr (M' := (zsI (zsI M 336 6 w9v) 336 7 w287v)) (zPR.fr (M' := (zsI M 336 6 w9v)) pR (zEq.put rfl)) (zEq.put rfl)) (zPC.fr (M' := (zsI (zsI M 336 6 w9v) 336 7 w287v)) (zPC.fr (M' := (zsI M 336 6 w9v)) pC (zEq.put rfl)) (zEq.put rfl)) (by omega) (by decide) (by decide))
      · refine zs_icmp_neF (pc := 42) t237_42 rfl li112 (by omega) ?_
        refine zs_aload_n (pc := 45) t237_45 rfl ?_
        refine zs_get (pc := 46) t237_46 (by decide) (zk1 (hs.k fk_zMm_336)) (hs.p rfl fv_zMm_336_0) ?_
        refine zs_iconst (pc := 49) t237_49 (v := 2) (by decide) ?_
        have w292 := ibA2 hI
        refine zs_iald (pc := 50) t237_50 (j := 2) (by decide) (zk1 (hs.k fk_zMm_337)) li2 (zk2 (hs.k fk_zMm_337) (by decide)) rfl ?_
        refine zs_bipush (pc := 51) t237_51 (v := 12) (by decide) ?_
        by_cases w293 : (zI M 337 2).toInt ≠ 12
        · refine zs_icmp_neT (pc := 53) t237_53 rfl li12 (by omega) ?_
          refine zs_aload_n (pc := 65) t237_65 rfl ?_
          refine zs_dup (pc := 66) t237_66 rfl ?_
          refine zs_get (pc := 67) t237_67 (by decide) (zk1 (hs.k fk_zMm_336)) (zfvi rfl rfl) ?_
          refine zs_iconst (pc := 70) t237_70 (v := 1) (by decide) ?_
          obtain ⟨w294v, w294e, w294⟩ := ziadd (a := (zI M 336 6)) (b := (1 : Int32)) rfl li1 (by omega) (by omega)
          refine zs_iadd (pc := 71) t237_71 (c := w294v) w294e ?_
          have w295 : zIv mLo mHi (zsI M 336 6 w294v) := zIv.put hI (show 0 ≤ w294v.toInt ∧ w294v.toInt ≤ 500 from ⟨by omega, by omega⟩)
          refine zs_putI (pc := 72) t237_72 (zk1 (hs.k fk_zMm_336)) rfl ?_
          refine zs_iload_n (pc := 75) t237_75 rfl ?_
          by_cases w296 : w5v.toInt = 112
          · refine zs_tswI (pc := 76) t237_76 ((rfl : w5v.toInt = w5v.toInt).trans w296) (by decide) rfl (pc2 := 170) rfl ?_
            refine zs_aload_n (pc := 170) t237_170 rfl ?_
            refine zs_aload_n (pc := 171) t237_171 rfl ?_
            refine zs_get (pc := 172) t237_172 (by decide) (zk1 (hs.k fk_zMm_336)) (zfvi rfl zIs) ?_
            refine zs_iconst (pc := 175) t237_175 (v := 1) (by decide) ?_
            obtain ⟨w297v, w297e, w297⟩ := zisub (a := w294v) (b := (1 : Int32)) w294 li1 (by omega) (by omega)
            refine zs_isub (pc := 176) t237_176 (c := w297v) w297e ?_
            have w298 : w297v.toInt = (((zI M 336 6).toInt + 1) - 1) := w297
            have w299 : (zI (zsI M 336 6 w294v) 337 2).toInt = (zI M 337 2).toInt := (congrArg Int32.toInt ((zIo (by decide)).trans rfl)).trans rfl
            have w300 : (zI (zsI M 336 6 w294v) 336 6).toInt = ((zI M 336 6).toInt + 1) := (congrArg Int32.toInt zIs).trans w294
            have w301 := ib336_7 hI
            have w302 : (zI (zsI M 336 6 w294v) 336 7).toInt = (zI M 336 7).toInt := (congrArg Int32.toInt ((zIoj (by decide)).trans rfl)).trans rfl
            refine zs_invV (pc := 177) (k := 336) (as' := [.int w297v]) (st := []) t237_177 mf248 rfl rfl (Or.inl ⟨by decide, (zk1 (hs.k fk_zMm_336))⟩) ⟨by decide, by decide, Nat.le_of_ble_eq_true rfl, Nat.le_of_ble_eq_true rfl⟩ (K248 hs w295 (zPR.fr (M' := (zsI M 336 6 w294v)) pR (zEq.put rfl)) (zPC.fr (M' := (zsI M 336 6 w294v)) pC (zEq.put rfl)) ⟨by omega, by omega⟩ (by omega) ?_) (fun _ _ q => q)
            intro w303M w303v w303s w303I w303F w303J w303U w303PR w303PC w303t0 w303t1 w303a w303b
            have w304 := ib336_6 w303I
            have w305 := ib336_7 w303I
            show zGo X l 5 0 0 237 180 [(1, .int w5v), (0, .ref 336)] [.int w303v] w303M _
            have w306 : (zI w303M 336 6).toInt = (zI w303M 336 6).toInt := (congrArg Int32.toInt rfl).trans rfl
            have w307 : (zI w303M 336 7).toInt = (zI w303M 336 7).toInt := (congrArg Int32.toInt rfl).trans rfl
            exact zs_iret (pc := 180) t237_180 mr237 (zfb01 (by omega)) (hQ _ _ w303s w303I (((zFr.refl).put rfl).trans (w303F.mono rfl)) w303J (((zUp.refl).put (Or.inl (by decide))).trans w303U) w303PR w303PC (by omega) (by omega) (by omega))
          refine zs_tswD (pc := 76) t237_76 rfl (by omega) (pc2 := 333) rfl ?_
          refine zs_aload_n (pc := 333) t237_333 rfl ?_
          refine zs_aload_n (pc := 334) t237_334 rfl ?_
          refine zs_get (pc := 335) t237_335 (by decide) (zk1 (hs.k fk_zMm_336)) (zfvi rfl zIs) ?_
          refine zs_iconst (pc := 338) t237_338 (v := 1) (by decide) ?_
          obtain ⟨w308v, w308e, w308⟩ := zisub (a := w294v) (b := (1 : Int32)) w294 li1 (by omega) (by omega)
          refine zs_isub (pc := 339) t237_339 (c := w308v) w308e ?_
          refine zs_invV (pc := 340) (k := 336) (as' := [.int w308v]) (st := []) t237_340 mf239 rfl rfl (Or.inl ⟨by decide, (zk1 (hs.k fk_zMm_336))⟩) ⟨by decide, by decide, Nat.le_of_ble_eq_true rfl, Nat.le_of_ble_eq_true rfl⟩ (zs_in (by decide) mf239 (Nat.le_of_ble_eq_true rfl) ?_) (fun _ _ q => q)
          show zGo X l 0 0 0 239 0 [(0, .ref 336), (1, .int w308v)] [] (zsI M 336 6 w294v) _
          refine zs_aload_n (pc := 0) t239_0 rfl ?_
          refine zs_iload_n (pc := 1) t239_1 rfl ?_
          have w309 : zIv mLo mHi (zsI (zsI M 336 6 w294v) 336 7 w308v) := zIv.put w295 (show (-1) ≤ w308v.toInt ∧ w308v.toInt ≤ 500 from ⟨by omega, by omega⟩)
          refine zs_putI (pc := 2) t239_2 (zk1 (hs.k fk_zMm_336)) rfl ?_
          refine zs_iconst (pc := 5) t239_5 (v := 0) (by decide) ?_
          refine zs_iret (pc := 6) t239_6 mr239 (by decide) ?_
          show zGo X l 5 0 0 237 343 [(1, .int w5v), (0, .ref 336)] [.int (0 : Int32)] (zsI (zsI M 336 6 w294v) 336 7 w308v) _
          have w310 : (zI (zsI (zsI M 336 6 w294v) 336 7 w308v) 336 6).toInt = ((zI M 336 6).toInt + 1) := (congrArg Int32.toInt ((zIoj (by decide)).trans zIs)).trans w294
          have w311 : (zI (zsI (zsI M 336 6 w294v) 336 7 w308v) 336 7).toInt = (((zI M 336 6).toInt + 1) - 1) := (congrArg Int32.toInt zIs).trans w308
          have w312 := li0
          exact zs_iret (pc := 343) t237_343 mr237 (by decide) (hQ _ _ hs w309 (((zFr.refl).put rfl).put rfl) rfl (((zUp.refl).put (Or.inl (by decide))).put (Or.inl (by decide))) (zPR.fr (M' := (zsI (zsI M 336 6 w294v) 336 7 w308v)) (zPR.fr (M' := (zsI M 336 6 w294v)) pR (zEq.put rfl)) (zEq.put rfl)) (zPC.fr (M' := (zsI (zsI M 336 6 w294v) 336 7 w308v)) (zPC.fr (M' := (zsI M 336 6 w294v)) pC (zEq.put rfl)) (zEq.put rfl)) (by omega) (by decide) (by decide))
        · refine zs_icmp_neF (pc := 53) t237_53 rfl li12 (by omega) ?_
          refine zs_aload_n (pc := 56) t237_56 rfl ?_
          refine zs_aload_n (pc := 57) t237_57 rfl ?_
          refine zs_get (pc := 58) t237_58 (by decide) (zk1 (hs.k fk_zMm_336)) (zfvi rfl rfl) ?_
          refine zs_invV (pc := 61) (k := 336) (as' := [.int (zI M 336 6)]) (st := []) t237_61 mf239 rfl rfl (Or.inl ⟨by decide, (zk1 (hs.k fk_zMm_336))⟩) ⟨by decide, by decide, Nat.le_of_ble_eq_true rfl, Nat.le_of_ble_eq_true rfl⟩ (zs_in (by decide) mf239 (Nat.le_of_ble_eq_true rfl) ?_) (fun _ _ q => q)
          show zGo X l 0 0 0 239 0 [(0, .ref 336), (1, .int (zI M 336 6))] [] M _
          refine zs_aload_n (pc := 0) t239_0 rfl ?_
          refine zs_iload_n (pc := 1) t239_1 rfl ?_
          have w313 : zIv mLo mHi (zsI M 336 7 (zI M 336 6)) := zIv.put hI (show (-1) ≤ (zI M 336 6).toInt ∧ (zI M 336 6).toInt ≤ 500 from ⟨by omega, by omega⟩)
          refine zs_putI (pc := 2) t239_2 (zk1 (hs.k fk_zMm_336)) rfl ?_
          refine zs_iconst (pc := 5) t239_5 (v := 0) (by decide) ?_
          refine zs_iret (pc := 6) t239_6 mr239 (by decide) ?_
          show zGo X l 5 0 0 237 64 [(1, .int w5v), (0, .ref 336)] [.int (0 : Int32)] (zsI M 336 7 (zI M 336 6)) _
          have w314 : (zI (zsI M 336 7 (zI M 336 6)) 336 6).toInt = (zI M 336 6).toInt := (congrArg Int32.toInt ((zIoj (by decide)).trans rfl)).trans rfl
          have w315 : (zI (zsI M 336 7 (zI M 336 6)) 336 7).toInt = (zI M 336 6).toInt := (congrArg Int32.toInt zIs).trans rfl
          have w316 := li0
          exact zs_iret (pc := 64) t237_64 mr237 (by decide) (hQ _ _ hs w313 ((zFr.refl).put rfl) rfl ((zUp.refl).put (Or.inl (by decide))) (zPR.fr (M' := (zsI M 336 7 (zI M 336 6))) pR (zEq.put rfl)) (zPC.fr (M' := (zsI M 336 7 (zI M 336 6))) pC (zEq.put rfl)) (by omega) (by decide) (by decide))
    · refine zs_icmp_neF (pc := 25) t237_25 rfl li104 (by omega) ?_
      refine zs_aload_n (pc := 28) t237_28 rfl ?_
      refine zs_get (pc := 29) t237_29 (by decide) (zk1 (hs.k fk_zMm_336)) (hs.p rfl fv_zMm_336_0) ?_
      refine zs_iconst (pc := 32) t237_32 (v := 1) (by decide) ?_
      have w317 := ibA1 hI
      refine zs_iald (pc := 33) t237_33 (j := 1) (by decide) (zk1 (hs.k fk_zMm_337)) li1 (zk2 (hs.k fk_zMm_337) (by decide)) rfl ?_
      refine zs_bipush (pc := 34) t237_34 (v := 60) (by decide) ?_
      by_cases w318 : (zI M 337 1).toInt = 60
      · refine zs_icmp_eqT (pc := 36) t237_36 rfl li60 (by omega) ?_
        refine zs_aload_n (pc := 56) t237_56 rfl ?_
        refine zs_aload_n (pc := 57) t237_57 rfl ?_
        refine zs_get (pc := 58) t237_58 (by decide) (zk1 (hs.k fk_zMm_336)) (zfvi rfl rfl) ?_
        refine zs_invV (pc := 61) (k := 336) (as' := [.int (zI M 336 6)]) (st := []) t237_61 mf239 rfl rfl (Or.inl ⟨by decide, (zk1 (hs.k fk_zMm_336))⟩) ⟨by decide, by decide, Nat.le_of_ble_eq_true rfl, Nat.le_of_ble_eq_true rfl⟩ (zs_in (by decide) mf239 (Nat.le_of_ble_eq_true rfl) ?_) (fun _ _ q => q)
        show zGo X l 0 0 0 239 0 [(0, .ref 336), (1, .int (zI M 336 6))] [] M _
        refine zs_aload_n (pc := 0) t239_0 rfl ?_
        refine zs_iload_n (pc := 1) t239_1 rfl ?_
        have w319 : zIv mLo mHi (zsI M 336 7 (zI M 336 6)) := zIv.put hI (show (-1) ≤ (zI M 336 6).toInt ∧ (zI M 336 6).toInt ≤ 500 from ⟨by omega, by omega⟩)
        refine zs_putI (pc := 2) t239_2 (zk1 (hs.k fk_zMm_336)) rfl ?_
        refine zs_iconst (pc := 5) t239_5 (v := 0) (by decide) ?_
        refine zs_iret (pc := 6) t239_6 mr239 (by decide) ?_
        show zGo X l 5 0 0 237 64 [(1, .int w5v), (0, .ref 336)] [.int (0 : Int32)] (zsI M 336 7 (zI M 336 6)) _
        have w320 : (zI (zsI M 336 7 (zI M 336 6)) 336 6).toInt = (zI M 336 6).toInt := (congrArg Int32.toInt ((zIoj (by decide)).trans rfl)).trans rfl
        have w321 : (zI (zsI M 336 7 (zI M 336 6)) 336 7).toInt = (zI M 336 6).toInt := (congrArg Int32.toInt zIs).trans rfl
        have w322 := li0
        exact zs_iret (pc := 64) t237_64 mr237 (by decide) (hQ _ _ hs w319 ((zFr.refl).put rfl) rfl ((zUp.refl).put (Or.inl (by decide))) (zPR.fr (M' := (zsI M 336 7 (zI M 336 6))) pR (zEq.put rfl)) (zPC.fr (M' := (zsI M 336 7 (zI M 336 6))) pC (zEq.put rfl)) (by omega) (by decide) (by decide))
      · refine zs_icmp_eqF (pc := 36) t237_36 rfl li60 (by omega) ?_
        refine zs_iload_n (pc := 39) t237_39 rfl ?_
        refine zs_bipush (pc := 40) t237_40 (v := 112) (by decide) ?_
        refine zs_icmp_neT (pc := 42) t237_42 rfl li112 (by omega) ?_
        refine zs_aload_n (pc := 65) t237_65 rfl ?_
        refine zs_dup (pc := 66) t237_66 rfl ?_
        refine zs_get (pc := 67) t237_67 (by decide) (zk1 (hs.k fk_zMm_336)) (zfvi rfl rfl) ?_
        refine zs_iconst (pc := 70) t237_70 (v := 1) (by decide) ?_
        obtain ⟨w323v, w323e, w323⟩ := ziadd (a := (zI M 336 6)) (b := (1 : Int32)) rfl li1 (by omega) (by omega)
        refine zs_iadd (pc := 71) t237_71 (c := w323v) w323e ?_
        have w324 : zIv mLo mHi (zsI M 336 6 w323v) := zIv.put hI (show 0 ≤ w323v.toInt ∧ w323v.toInt ≤ 500 from ⟨by omega, by omega⟩)
        refine zs_putI (pc := 72) t237_72 (zk1 (hs.k fk_zMm_336)) rfl ?_
        refine zs_iload_n (pc := 75) t237_75 rfl ?_
        by_cases w325 : w5v.toInt = 104
        · refine zs_tswI (pc := 76) t237_76 ((rfl : w5v.toInt = w5v.toInt).trans w325) (by decide) rfl (pc2 := 165) rfl ?_
          refine zs_aload_n (pc := 165) t237_165 rfl ?_
          have w326 : (zI (zsI M 336 6 w323v) 337 1).toInt = (zI M 337 1).toInt := (congrArg Int32.toInt ((zIo (by decide)).trans rfl)).trans rfl
          have w327 : (zI (zsI M 336 6 w323v) 336 6).toInt = ((zI M 336 6).toInt + 1) := (congrArg Int32.toInt zIs).trans w323
          have w328 := ib336_7 hI
          have w329 : (zI (zsI M 336 6 w323v) 336 7).toInt = (zI M 336 7).toInt := (congrArg Int32.toInt ((zIoj (by decide)).trans rfl)).trans rfl
          refine zs_invV (pc := 166) (k := 336) (as' := []) (st := []) t237_166 mf247 rfl rfl (Or.inl ⟨by decide, (zk1 (hs.k fk_zMm_336))⟩) ⟨by decide, by decide, Nat.le_of_ble_eq_true rfl, Nat.le_of_ble_eq_true rfl⟩ (K247 hs w324 (zPR.fr (M' := (zsI M 336 6 w323v)) pR (zEq.put rfl)) (zPC.fr (M' := (zsI M 336 6 w323v)) pC (zEq.put rfl)) (by omega) ?_) (fun _ _ q => q)
          intro w330M w330v w330s w330I w330F w330J w330U w330PR w330PC w330t0 w330t1 w330a w330b
          have w331 := ib336_6 w330I
          have w332 := ib336_7 w330I
          show zGo X l 5 0 0 237 169 [(1, .int w5v), (0, .ref 336)] [.int w330v] w330M _
          have w333 : (zI w330M 336 6).toInt = (zI w330M 336 6).toInt := (congrArg Int32.toInt rfl).trans rfl
          have w334 : (zI w330M 336 7).toInt = (zI w330M 336 7).toInt := (congrArg Int32.toInt rfl).trans rfl
          exact zs_iret (pc := 169) t237_169 mr237 (zfb01 (by omega)) (hQ _ _ w330s w330I (((zFr.refl).put rfl).trans (w330F.mono rfl)) w330J (((zUp.refl).put (Or.inl (by decide))).trans w330U) w330PR w330PC (by omega) (by omega) (by omega))
        refine zs_tswD (pc := 76) t237_76 rfl (by omega) (pc2 := 333) rfl ?_
        refine zs_aload_n (pc := 333) t237_333 rfl ?_
        refine zs_aload_n (pc := 334) t237_334 rfl ?_
        refine zs_get (pc := 335) t237_335 (by decide) (zk1 (hs.k fk_zMm_336)) (zfvi rfl zIs) ?_
        refine zs_iconst (pc := 338) t237_338 (v := 1) (by decide) ?_
        obtain ⟨w335v, w335e, w335⟩ := zisub (a := w323v) (b := (1 : Int32)) w323 li1 (by omega) (by omega)
        refine zs_isub (pc := 339) t237_339 (c := w335v) w335e ?_
        refine zs_invV (pc := 340) (k := 336) (as' := [.int w335v]) (st := []) t237_340 mf239 rfl rfl (Or.inl ⟨by decide, (zk1 (hs.k fk_zMm_336))⟩) ⟨by decide, by decide, Nat.le_of_ble_eq_true rfl, Nat.le_of_ble_eq_true rfl⟩ (zs_in (by decide) mf239 (Nat.le_of_ble_eq_true rfl) ?_) (fun _ _ q => q)
        show zGo X l 0 0 0 239 0 [(0, .ref 336), (1, .int w335v)] [] (zsI M 336 6 w323v) _
        refine zs_aload_n (pc := 0) t239_0 rfl ?_
        refine zs_iload_n (pc := 1) t239_1 rfl ?_
        have w336 : zIv mLo mHi (zsI (zsI M 336 6 w323v) 336 7 w335v) := zIv.put w324 (show (-1) ≤ w335v.toInt ∧ w335v.toInt ≤ 500 from ⟨by omega, by omega⟩)
        refine zs_putI (pc := 2) t239_2 (zk1 (hs.k fk_zMm_336)) rfl ?_
        refine zs_iconst (pc := 5) t239_5 (v := 0) (by decide) ?_
        refine zs_iret (pc := 6) t239_6 mr239 (by decide) ?_
        show zGo X l 5 0 0 237 343 [(1, .int w5v), (0, .ref 336)] [.int (0 : Int32)] (zsI (zsI M 336 6 w323v) 336 7 w335v) _
        have w337 : (zI (zsI (zsI M 336 6 w323v) 336 7 w335v) 336 6).toInt = ((zI M 336 6).toInt + 1) := (congrArg Int32.toInt ((zIoj (by decide)).trans zIs)).trans w323
        have w338 : (zI (zsI (zsI M 336 6 w323v) 336 7 w335v) 336 7).toInt = (((zI M 336 6).toInt + 1) - 1) := (congrArg Int32.toInt zIs).trans w335
        have w339 := li0
        exact zs_iret (pc := 343) t237_343 mr237 (by decide) (hQ _ _ hs w336 (((zFr.refl).put rfl).put rfl) rfl (((zUp.refl).put (Or.inl (by decide))).put (Or.inl (by decide))) (zPR.fr (M' := (zsI (zsI M 336 6 w323v) 336 7 w335v)) (zPR.fr (M' := (zsI M 336 6 w323v)) pR (zEq.put rfl)) (zEq.put rfl)) (zPC.fr (M' := (zsI (zsI M 336 6 w323v) 336 7 w335v)) (zPC.fr (M' := (zsI M 336 6 w323v)) pC (zEq.put rfl)) (zEq.put rfl)) (by omega) (by decide) (by decide))
  · refine zs_icmp_neF (pc := 8) t237_8 rfl li114 (by omega) ?_
    refine zs_aload_n (pc := 11) t237_11 rfl ?_
    refine zs_get (pc := 12) t237_12 (by decide) (zk1 (hs.k fk_zMm_336)) (hs.p rfl fv_zMm_336_0) ?_
    refine zs_iconst (pc := 15) t237_15 (v := 0) (by decide) ?_
    have w340 := ibA0 hI
    refine zs_iald (pc := 16) t237_16 (j := 0) (by decide) (zk1 (hs.k fk_zMm_337)) li0 (zk2 (hs.k fk_zMm_337) (by decide)) rfl ?_
    refine zs_bipush (pc := 17) t237_17 (v := 8) (by decide) ?_
    by_cases w341 : (zI M 337 0).toInt = 8
    · refine zs_icmp_eqT (pc := 19) t237_19 rfl li8 (by omega) ?_
      refine zs_aload_n (pc := 56) t237_56 rfl ?_
      refine zs_aload_n (pc := 57) t237_57 rfl ?_
      refine zs_get (pc := 58) t237_58 (by decide) (zk1 (hs.k fk_zMm_336)) (zfvi rfl rfl) ?_
      refine zs_invV (pc := 61) (k := 336) (as' := [.int (zI M 336 6)]) (st := []) t237_61 mf239 rfl rfl (Or.inl ⟨by decide, (zk1 (hs.k fk_zMm_336))⟩) ⟨by decide, by decide, Nat.le_of_ble_eq_true rfl, Nat.le_of_ble_eq_true rfl⟩ (zs_in (by decide) mf239 (Nat.le_of_ble_eq_true rfl) ?_) (fun _ _ q => q)
      show zGo X l 0 0 0 239 0 [(0, .ref 336), (1, .int (zI M 336 6))] [] M _
      refine zs_aload_n (pc := 0) t239_0 rfl ?_
      refine zs_iload_n (pc := 1) t239_1 rfl ?_
      have w342 : zIv mLo mHi (zsI M 336 7 (zI M 336 6)) := zIv.put hI (show (-1) ≤ (zI M 336 6).toInt ∧ (zI M 336 6).toInt ≤ 500 from ⟨by omega, by omega⟩)
      refine zs_putI (pc := 2) t239_2 (zk1 (hs.k fk_zMm_336)) rfl ?_
      refine zs_iconst (pc := 5) t239_5 (v := 0) (by decide) ?_
      refine zs_iret (pc := 6) t239_6 mr239 (by decide) ?_
      show zGo X l 5 0 0 237 64 [(1, .int w5v), (0, .ref 336)] [.int (0 : Int32)] (zsI M 336 7 (zI M 336 6)) _
      have w343 : (zI (zsI M 336 7 (zI M 336 6)) 336 6).toInt = (zI M 336 6).toInt := (congrArg Int32.toInt ((zIoj (by decide)).trans rfl)).trans rfl
      have w344 : (zI (zsI M 336 7 (zI M 336 6)) 336 7).toInt = (zI M 336 6).toInt := (congrArg Int32.toInt zIs).trans rfl
      have w345 := li0
      exact zs_iret (pc := 64) t237_64 mr237 (by decide) (hQ _ _ hs w342 ((zFr.refl).put rfl) rfl ((zUp.refl).put (Or.inl (by decide))) (zPR.fr (M' := (zsI M 336 7 (zI M 336 6))) pR (zEq.put rfl)) (zPC.fr (M' := (zsI M 336 7 (zI M 336 6))) pC (zEq.put rfl)) (by omega) (by decide) (by decide))
    · refine zs_icmp_eqF (pc := 19) t237_19 rfl li8 (by omega) ?_
      refine zs_iload_n (pc := 22) t237_22 rfl ?_
      refine zs_bipush (pc := 23) t237_23 (v := 104) (by decide) ?_
      refine zs_icmp_neT (pc := 25) t237_25 rfl li104 (by omega) ?_
      refine zs_iload_n (pc := 39) t237_39 rfl ?_
      refine zs_bipush (pc := 40) t237_40 (v := 112) (by decide) ?_
      refine zs_icmp_neT (pc := 42) t237_42 rfl li112 (by omega) ?_
      refine zs_aload_n (pc := 65) t237_65 rfl ?_
      refine zs_dup (pc := 66) t237_66 rfl ?_
      refine zs_get (pc := 67) t237_67 (by decide) (zk1 (hs.k fk_zMm_336)) (zfvi rfl rfl) ?_
      refine zs_iconst (pc := 70) t237_70 (v := 1) (by decide) ?_
      obtain ⟨w346v, w346e, w346⟩ := ziadd (a := (zI M 336 6)) (b := (1 : Int32)) rfl li1 (by omega) (by omega)
      refine zs_iadd (pc := 71) t237_71 (c := w346v) w346e ?_
      have w347 : zIv mLo mHi (zsI M 336 6 w346v) := zIv.put hI (show 0 ≤ w346v.toInt ∧ w346v.toInt ≤ 500 from ⟨by omega, by omega⟩)
      refine zs_putI (pc := 72) t237_72 (zk1 (hs.k fk_zMm_336)) rfl ?_
      refine zs_iload_n (pc := 75) t237_75 rfl ?_
      by_cases w348 : w5v.toInt = 114
      · refine zs_tswI (pc := 76) t237_76 ((rfl : w5v.toInt = w5v.toInt).trans w348) (by decide) rfl (pc2 := 160) rfl ?_
        refine zs_aload_n (pc := 160) t237_160 rfl ?_
        have w349 : (zI (zsI M 336 6 w346v) 337 0).toInt = (zI M 337 0).toInt := (congrArg Int32.toInt ((zIo (by decide)).trans rfl)).trans rfl
        have w350 : (zI (zsI M 336 6 w346v) 336 6).toInt = ((zI M 336 6).toInt + 1) := (congrArg Int32.toInt zIs).trans w346
        have w351 := ib336_7 hI
        have w352 : (zI (zsI M 336 6 w346v) 336 7).toInt = (zI M 336 7).toInt := (congrArg Int32.toInt ((zIoj (by decide)).trans rfl)).trans rfl
        refine zs_invV (pc := 161) (k := 336) (as' := []) (st := []) t237_161 mf240 rfl rfl (Or.inl ⟨by decide, (zk1 (hs.k fk_zMm_336))⟩) ⟨by decide, by decide, Nat.le_of_ble_eq_true rfl, Nat.le_of_ble_eq_true rfl⟩ (K240 hs w347 (zPR.fr (M' := (zsI M 336 6 w346v)) pR (zEq.put rfl)) (zPC.fr (M' := (zsI M 336 6 w346v)) pC (zEq.put rfl)) (by omega) ?_) (fun _ _ q => q)
        intro w353M w353v w353s w353I w353F w353J w353U w353PR w353PC w353t0 w353t1 w353a w353b
        have w354 := ib336_6 w353I
        have w355 := ib336_7 w353I
        show zGo X l 5 0 0 237 164 [(1, .int w5v), (0, .ref 336)] [.int w353v] w353M _
        have w356 : (zI w353M 336 6).toInt = (zI w353M 336 6).toInt := (congrArg Int32.toInt rfl).trans rfl
        have w357 : (zI w353M 336 7).toInt = (zI w353M 336 7).toInt := (congrArg Int32.toInt rfl).trans rfl
        exact zs_iret (pc := 164) t237_164 mr237 (zfb01 (by omega)) (hQ _ _ w353s w353I (((zFr.refl).put rfl).trans (w353F.mono rfl)) w353J (((zUp.refl).put (Or.inl (by decide))).trans w353U) w353PR w353PC (by omega) (by omega) (by omega))
      refine zs_tswD (pc := 76) t237_76 rfl (by omega) (pc2 := 333) rfl ?_
      refine zs_aload_n (pc := 333) t237_333 rfl ?_
      refine zs_aload_n (pc := 334) t237_334 rfl ?_
      refine zs_get (pc := 335) t237_335 (by decide) (zk1 (hs.k fk_zMm_336)) (zfvi rfl zIs) ?_
      refine zs_iconst (pc := 338) t237_338 (v := 1) (by decide) ?_
      obtain ⟨w358v, w358e, w358⟩ := zisub (a := w346v) (b := (1 : Int32)) w346 li1 (by omega) (by omega)
      refine zs_isub (pc := 339) t237_339 (c := w358v) w358e ?_
      refine zs_invV (pc := 340) (k := 336) (as' := [.int w358v]) (st := []) t237_340 mf239 rfl rfl (Or.inl ⟨by decide, (zk1 (hs.k fk_zMm_336))⟩) ⟨by decide, by decide, Nat.le_of_ble_eq_true rfl, Nat.le_of_ble_eq_true rfl⟩ (zs_in (by decide) mf239 (Nat.le_of_ble_eq_true rfl) ?_) (fun _ _ q => q)
      show zGo X l 0 0 0 239 0 [(0, .ref 336), (1, .int w358v)] [] (zsI M 336 6 w346v) _
      refine zs_aload_n (pc := 0) t239_0 rfl ?_
      refine zs_iload_n (pc := 1) t239_1 rfl ?_
      have w359 : zIv mLo mHi (zsI (zsI M 336 6 w346v) 336 7 w358v) := zIv.put w347 (show (-1) ≤ w358v.toInt ∧ w358v.toInt ≤ 500 from ⟨by omega, by omega⟩)
      refine zs_putI (pc := 2) t239_2 (zk1 (hs.k fk_zMm_336)) rfl ?_
      refine zs_iconst (pc := 5) t239_5 (v := 0) (by decide) ?_
      refine zs_iret (pc := 6) t239_6 mr239 (by decide) ?_
      show zGo X l 5 0 0 237 343 [(1, .int w5v), (0, .ref 336)] [.int (0 : Int32)] (zsI (zsI M 336 6 w346v) 336 7 w358v) _
      have w360 : (zI (zsI (zsI M 336 6 w346v) 336 7 w358v) 336 6).toInt = ((zI M 336 6).toInt + 1) := (congrArg Int32.toInt ((zIoj (by decide)).trans zIs)).trans w346
      have w361 : (zI (zsI (zsI M 336 6 w346v) 336 7 w358v) 336 7).toInt = (((zI M 336 6).toInt + 1) - 1) := (congrArg Int32.toInt zIs).trans w358
      have w362 := li0
      exact zs_iret (pc := 343) t237_343 mr237 (by decide) (hQ _ _ hs w359 (((zFr.refl).put rfl).put rfl) rfl (((zUp.refl).put (Or.inl (by decide))).put (Or.inl (by decide))) (zPR.fr (M' := (zsI (zsI M 336 6 w346v) 336 7 w358v)) (zPR.fr (M' := (zsI M 336 6 w346v)) pR (zEq.put rfl)) (zEq.put rfl)) (zPC.fr (M' := (zsI (zsI M 336 6 w346v) 336 7 w358v)) (zPC.fr (M' := (zsI M 336 6 w346v)) pC (zEq.put rfl)) (zEq.put rfl)) (by omega) (by decide) (by decide))
theorem K275 {X : zX} {l : Launch} {M : zM} {Q : Option Value → zM → Prop} {a b : Int32} (hs : zSk zMm M) (hI : zIv mLo mHi M) (hQ : ∀ M', zSk zMm M' → zIv mLo mHi M' → zFr [(344, 344, none)] M M' → zJ M' 351 = zJ M 351 → (zLy M' a b) → Q none M') : zCall X l 3 0 0 275 [.ref 336, .int a, .int b] M Q := by
  have ga := zrg a
  have gb := zrg b
  refine zs_in (by decide) mf275 (Nat.le_of_ble_eq_true rfl) ?_
  show zGo X l 3 0 0 275 0 [(0, .ref 336), (1, .int a), (2, .int b)] [] M _
  refine zs_iconst (pc := 0) t275_0 (v := 0) (by decide) ?_
  refine zs_istore_n (pc := 1) t275_1 (ls' := [(3, .int (0 : Int32)), (0, .ref 336), (1, .int a), (2, .int b)]) (zml mf275 (by decide)) rfl ?_
  have w1L : ∀ (m : Nat) (w1x3 : Int32) (w1M : zM), (0 ≤ w1x3.toInt ∧ w1x3.toInt ≤ 60) → zSk zMm w1M → zIv mLo mHi w1M → zFr [(344, 344, none)] M w1M → zJ w1M 351 = zJ M 351 → (zLn M w1M a b (w1x3.toInt).toNat) → 60 - w1x3.toInt ≤ (m : Int) → zGo X l 3 0 0 275 2 [(0, .ref 336), (1, .int a), (2, .int b), (3, .int w1x3)] [] w1M Q := by
    intro m
    induction m using Nat.strongRecOn with
    | ind w1m w1ih =>
      intro w1x3 w1M w1b3 w1s w1I w1F w1J w1t0 w1q
      refine zs_iload_n (pc := 2) t275_2 rfl ?_
      refine zs_aload_n (pc := 3) t275_3 rfl ?_
      refine zs_get (pc := 4) t275_4 (by decide) (zk1 (w1s.k fk_zMm_336)) (w1s.p rfl fv_zMm_336_0) ?_
      refine zs_iconst (pc := 7) t275_7 (v := 1) (by decide) ?_
      have w2 := ibA1 hI
      refine zs_iald (pc := 8) t275_8 (j := 1) (by decide) (zk1 (w1s.k fk_zMm_337)) li1 (zk2 (w1s.k fk_zMm_337) (by decide)) ((w1F 337 1 rfl).trans rfl) ?_
      by_cases w3 : (zI M 337 1).toInt ≤ w1x3.toInt
      · refine zs_icmp_geT (pc := 9) t275_9 rfl rfl (by omega) ?_
        exact zs_vret (pc := 64) t275_64 mr275 (hQ _ w1s w1I ((zFr.refl).trans (w1F.mono rfl)) w1J (zLn.all w1t0 (by omega) (((zFr.refl).trans (w1F.mono rfl)).eq (W := [(344, 344, none)]) rfl)))
      · refine zs_icmp_geF (pc := 9) t275_9 rfl rfl (by omega) ?_
        refine zs_aload_n (pc := 12) t275_12 rfl ?_
        refine zs_get (pc := 13) t275_13 (by decide) (zk1 (w1s.k fk_zMm_336)) (w1s.p rfl fv_zMm_336_16) ?_
        refine zs_iload_n (pc := 16) t275_16 rfl ?_
        obtain ⟨w4n, w4⟩ : ∃ n : Nat, w1x3.toInt = (n : Int) := ⟨(w1x3.toInt).toNat, by omega⟩
        have w5 := ib343 hI w4n
        refine zs_bald (pc := 17) t275_17 (j := w4n) (Or.inr (zk1 (w1s.k fk_zMm_343))) (show w1x3.toInt = ((w4n : Nat) : Int) by omega) (zk2 (w1s.k fk_zMm_343) (by omega)) ((w1F 343 w4n rfl).trans rfl) ?_
        by_cases w6 : (zI M 343 w4n).toInt = 0
        · refine zs_if_eqT (pc := 18) t275_18 rfl (by omega) ?_
          obtain ⟨w7v, w7e, w7⟩ := ziadd (a := w1x3) (b := Int32.ofInt 1) rfl (show (Int32.ofInt 1).toInt = 1 by decide) (by omega) (by omega)
          refine zs_iinc (pc := 58) t275_58 (ls' := [(3, .int w7v), (0, .ref 336), (1, .int a), (2, .int b)]) (zml mf275 (by decide)) rfl (c := w7v) w7e rfl ?_
          refine zs_goto (pc := 61) t275_61 ?_
          refine zGo.locals (ls' := [(0, .ref 336), (1, .int a), (2, .int b), (3, .int w7v)]) (by simp) ?_
          have w8 := w7
          exact w1ih (w1m - 1) (by omega) w7v w1M ⟨by omega, by omega⟩ w1s w1I ((zFr.refl).trans (w1F.mono rfl)) w1J (zLn.skip (j := w4n) w1t0 (by omega) (by omega) (by omega)) (by omega)
        · refine zs_if_eqF (pc := 18) t275_18 rfl (by omega) ?_
          refine zs_aload_n (pc := 21) t275_21 rfl ?_
          refine zs_get (pc := 22) t275_22 (by decide) (zk1 (w1s.k fk_zMm_336)) (w1s.p rfl fv_zMm_336_17) ?_
          refine zs_iload_n (pc := 25) t275_25 rfl ?_
          refine zs_aload_n (pc := 26) t275_26 rfl ?_
          refine zs_iload_n (pc := 27) t275_27 rfl ?_
          refine zs_iconst (pc := 28) t275_28 (v := 1) (by decide) ?_
          refine zs_invV (pc := 29) (k := 336) (as' := [.int w1x3, .int (1 : Int32)]) (st := [.int w1x3, .ref 344]) t275_29 mf272 rfl rfl (Or.inl ⟨by decide, (zk1 (w1s.k fk_zMm_336))⟩) ⟨by decide, by decide, Nat.le_of_ble_eq_true rfl, Nat.le_of_ble_eq_true rfl⟩ (zs_in (by decide) mf272 (Nat.le_of_ble_eq_true rfl) ?_) (fun _ _ q => q)
          show zGo X l 0 0 0 272 0 [(0, .ref 336), (1, .int w1x3), (2, .int (1 : Int32))] [] w1M _
          refine zs_aload_n (pc := 0) t272_0 rfl ?_
          refine zs_get (pc := 1) t272_1 (by decide) (zk1 (w1s.k fk_zMm_336)) (w1s.p rfl fv_zMm_336_0) ?_
          refine zs_bipush (pc := 4) t272_4 (v := 30) (by decide) ?_
          refine zs_iconst (pc := 6) t272_6 (v := 4) (by decide) ?_
          refine zs_iload_n (pc := 7) t272_7 rfl ?_
          obtain ⟨w9v, w9⟩ : ∃ v, (4 : Int32) * w1x3 = v := ⟨_, rfl⟩
          have w9g : w9v.toInt = 4 * w1x3.toInt := by rw [← w9]; exact zmulc li4 rfl (by omega) (by omega)
          refine zs_imul (pc := 8) t272_8 (c := w9v) w9 ?_
          obtain ⟨w10v, w10e, w10⟩ := ziadd (a := (30 : Int32)) (b := w9v) li30 w9g (by omega) (by omega)
          refine zs_iadd (pc := 9) t272_9 (c := w10v) w10e ?_
          refine zs_iload_n (pc := 10) t272_10 rfl ?_
          obtain ⟨w11v, w11e, w11⟩ := ziadd (a := w10v) (b := (1 : Int32)) w10 li1 (by omega) (by omega)
          refine zs_iadd (pc := 11) t272_11 (c := w11v) w11e ?_
          have w12 := zrg (zI M 337 (31 + 4 * w4n))
          refine zs_iald (pc := 12) t272_12 (j := (31 + 4 * w4n)) (by decide) (zk1 (w1s.k fk_zMm_337)) (show w11v.toInt = (((31 + 4 * w4n) : Nat) : Int) by omega) (zk2 (w1s.k fk_zMm_337) (by omega)) ((w1F 337 (31 + 4 * w4n) rfl).trans rfl) ?_
          refine zs_iret (pc := 13) t272_13 mr272 rfl ?_
          show zGo X l 3 0 0 275 32 [(0, .ref 336), (1, .int a), (2, .int b), (3, .int w1x3)] [.int (zI M 337 (31 + 4 * w4n)), .int w1x3, .ref 344] w1M _
          refine zs_aload_n (pc := 32) t275_32 rfl ?_
          refine zs_aload_n (pc := 33) t275_33 rfl ?_
          refine zs_iload_n (pc := 34) t275_34 rfl ?_
          refine zs_iconst (pc := 35) t275_35 (v := 0) (by decide) ?_
          refine zs_invV (pc := 36) (k := 336) (as' := [.int w1x3, .int (0 : Int32)]) (st := [.ref 336, .int (zI M 337 (31 + 4 * w4n)), .int w1x3, .ref 344]) t275_36 mf272 rfl rfl (Or.inl ⟨by decide, (zk1 (w1s.k fk_zMm_336))⟩) ⟨by decide, by decide, Nat.le_of_ble_eq_true rfl, Nat.le_of_ble_eq_true rfl⟩ (zs_in (by decide) mf272 (Nat.le_of_ble_eq_true rfl) ?_) (fun _ _ q => q)
          show zGo X l 0 0 0 272 0 [(0, .ref 336), (1, .int w1x3), (2, .int (0 : Int32))] [] w1M _
          refine zs_aload_n (pc := 0) t272_0 rfl ?_
          refine zs_get (pc := 1) t272_1 (by decide) (zk1 (w1s.k fk_zMm_336)) (w1s.p rfl fv_zMm_336_0) ?_
          refine zs_bipush (pc := 4) t272_4 (v := 30) (by decide) ?_
          refine zs_iconst (pc := 6) t272_6 (v := 4) (by decide) ?_
          refine zs_iload_n (pc := 7) t272_7 rfl ?_
          obtain ⟨w13v, w13⟩ : ∃ v, (4 : Int32) * w1x3 = v := ⟨_, rfl⟩
          have w13g : w13v.toInt = 4 * w1x3.toInt := by rw [← w13]; exact zmulc li4 rfl (by omega) (by omega)
          refine zs_imul (pc := 8) t272_8 (c := w13v) w13 ?_
          obtain ⟨w14v, w14e, w14⟩ := ziadd (a := (30 : Int32)) (b := w13v) li30 w13g (by omega) (by omega)
          refine zs_iadd (pc := 9) t272_9 (c := w14v) w14e ?_
          refine zs_iload_n (pc := 10) t272_10 rfl ?_
          obtain ⟨w15v, w15e, w15⟩ := ziadd (a := w14v) (b := (0 : Int32)) w14 li0 (by omega) (by omega)
          refine zs_iadd (pc := 11) t272_11 (c := w15v) w15e ?_
          have w16 := ibL (j := (30 + 4 * w4n)) hI (by omega) (by omega) (by omega)
          refine zs_iald (pc := 12) t272_12 (j := (30 + 4 * w4n)) (by decide) (zk1 (w1s.k fk_zMm_337)) (show w15v.toInt = (((30 + 4 * w4n) : Nat) : Int) by omega) (zk2 (w1s.k fk_zMm_337) (by omega)) ((w1F 337 (30 + 4 * w4n) rfl).trans rfl) ?_
          refine zs_iret (pc := 13) t272_13 mr272 rfl ?_
          show zGo X l 3 0 0 275 39 [(0, .ref 336), (1, .int a), (2, .int b), (3, .int w1x3)] [.int (zI M 337 (30 + 4 * w4n)), .ref 336, .int (zI M 337 (31 + 4 * w4n)), .int w1x3, .ref 344] w1M _
          refine zs_iload_n (pc := 39) t275_39 rfl ?_
          refine zs_iload_n (pc := 40) t275_40 rfl ?_
          refine zs_invV (pc := 41) (k := 336) (as' := [.int (zI M 337 (30 + 4 * w4n)), .int a, .int b]) (st := [.int (zI M 337 (31 + 4 * w4n)), .int w1x3, .ref 344]) t275_41 mf249 rfl rfl (Or.inl ⟨by decide, (zk1 (w1s.k fk_zMm_336))⟩) ⟨by decide, by decide, Nat.le_of_ble_eq_true rfl, Nat.le_of_ble_eq_true rfl⟩ (K249 w1s w1I ⟨by omega, by omega⟩ ?_) (fun _ _ q => q)
          have w17 := zrg (zlift w1M (zI M 337 (30 + 4 * w4n)) a b)
          show zGo X l 3 0 0 275 44 [(0, .ref 336), (1, .int a), (2, .int b), (3, .int w1x3)] [.int (zlift w1M (zI M 337 (30 + 4 * w4n)) a b), .int (zI M 337 (31 + 4 * w4n)), .int w1x3, .ref 344] w1M _
          obtain ⟨w18v, w18⟩ : ∃ v, v = (zI M 337 (31 + 4 * w4n)) - (zlift w1M (zI M 337 (30 + 4 * w4n)) a b) := ⟨_, rfl⟩
          have w18g := zrg w18v
          refine zs_isub (pc := 44) t275_44 (c := w18v) w18.symm ?_
          refine zs_i2l (pc := 45) t275_45 rfl ?_
          refine zs_aload_n (pc := 46) t275_46 rfl ?_
          refine zs_get (pc := 47) t275_47 (by decide) (zk1 (w1s.k fk_zMm_336)) (w1s.p rfl fv_zMm_336_0) ?_
          refine zs_bipush (pc := 50) t275_50 (v := 7) (by decide) ?_
          have w19 := ibA7 hI
          refine zs_iald (pc := 52) t275_52 (j := 7) (by decide) (zk1 (w1s.k fk_zMm_337)) li7 (zk2 (w1s.k fk_zMm_337) (by decide)) ((w1F 337 7 rfl).trans rfl) ?_
          refine zs_i2l (pc := 53) t275_53 rfl ?_
          have w20 : w18v.toInt64.toInt = w18v.toInt := (zi2l rfl)
          have w21 : (zI M 337 7).toInt64.toInt = (zI M 337 7).toInt := (zi2l rfl)
          refine zs_invS (pc := 54) (as := [.long w18v.toInt64, .long (zI M 337 7).toInt64]) (st := [.int w1x3, .ref 344]) t275_54 (by decide) mf250 rfl rfl ⟨by decide, by decide, Nat.le_of_ble_eq_true rfl, Nat.le_of_ble_eq_true rfl⟩ (K250 w1s w1I ⟨by omega, by omega⟩ ?_) (fun _ _ q => q)
          have w22 := zrg (zflr w18v.toInt64 (zI M 337 7).toInt64)
          show zGo X l 3 0 0 275 57 [(0, .ref 336), (1, .int a), (2, .int b), (3, .int w1x3)] [.int (zflr w18v.toInt64 (zI M 337 7).toInt64), .int w1x3, .ref 344] w1M _
          have w23 : zIv mLo mHi (zsI w1M 344 w4n (zflr w18v.toInt64 (zI M 337 7).toInt64)) := zIv.put w1I (show (-2147483648) ≤ (zflr w18v.toInt64 (zI M 337 7).toInt64).toInt ∧ (zflr w18v.toInt64 (zI M 337 7).toInt64).toInt ≤ 2147483647 from zrg (zflr w18v.toInt64 (zI M 337 7).toInt64))
          refine zs_iast (pc := 57) t275_57 (j := w4n) (by decide) (zk1 (w1s.k fk_zMm_344)) (show w1x3.toInt = ((w4n : Nat) : Int) by omega) (zk2 (w1s.k fk_zMm_344) (by omega)) ?_
          obtain ⟨w24v, w24e, w24⟩ := ziadd (a := w1x3) (b := Int32.ofInt 1) rfl (show (Int32.ofInt 1).toInt = 1 by decide) (by omega) (by omega)
          refine zs_iinc (pc := 58) t275_58 (ls' := [(3, .int w24v), (0, .ref 336), (1, .int a), (2, .int b)]) (zml mf275 (by decide)) rfl (c := w24v) w24e rfl ?_
          refine zs_goto (pc := 61) t275_61 ?_
          refine zGo.locals (ls' := [(0, .ref 336), (1, .int a), (2, .int b), (3, .int w24v)]) (by simp) ?_
          have w25 := w24
          exact w1ih (w1m - 1) (by omega) w24v (zsI w1M 344 w4n (zflr w18v.toInt64 (zI M 337 7).toInt64)) ⟨by omega, by omega⟩ w1s w23 (((zFr.refl).trans (w1F.mono rfl)).put rfl) w1J (zLn.put w1t0 (by omega) (by omega) (by unfold zcell; rw [w18, zlift.fr (fun j => (w1F 337 j rfl))])) (by omega)
  refine zGo.locals (ls' := [(0, .ref 336), (1, .int a), (2, .int b), (3, .int (0 : Int32))]) (by simp) ?_
  have w26 := li0
  exact w1L ((60 - 0 : Int).toNat) (0 : Int32) M ⟨by decide, by decide⟩ hs hI zFr.refl rfl (zLn.nil (by omega)) (by omega)
theorem K278_0 {X : zX} {l : Launch} {M : zM} {Q : Option Value → zM → Prop} (hs : zSk zMm M) (hI : zIv mLo mHi M) (hQ : ∀ v : Int32, 0 ≤ v.toInt → v.toInt ≤ 1 → Q (some (.int v)) M) : zCall X l 0 0 0 278 [.int (0 : Int32)] M Q := by
  refine zs_in (by decide) mf278 (Nat.le_of_ble_eq_true rfl) ?_
  show zGo X l 0 0 0 278 0 [(0, .int (0 : Int32))] [] M _
  refine zs_iconst (pc := 0) t278_0 (v := 0) (by decide) ?_
  refine zs_istore_n (pc := 1) t278_1 (ls' := [(1, .int (0 : Int32)), (0, .int (0 : Int32))]) (zml mf278 (by decide)) rfl ?_
  refine zs_iconst (pc := 2) t278_2 (v := 0) (by decide) ?_
  refine zs_istore_n (pc := 3) t278_3 (ls' := [(2, .int (0 : Int32)), (1, .int (0 : Int32)), (0, .int (0 : Int32))]) (zml mf278 (by decide)) rfl ?_
  refine zs_iload_n (pc := 4) t278_4 rfl ?_
  refine zs_bipush (pc := 5) t278_5 (v := 8) (by decide) ?_
  refine zs_icmp_geF (pc := 7) t278_7 li0 li8 (by decide) ?_
  refine zs_iload_n (pc := 10) t278_10 rfl ?_
  refine zs_iload_n (pc := 11) t278_11 rfl ?_
  refine zs_iload_n (pc := 12) t278_12 rfl ?_
  refine zs_ishr (pc := 13) t278_13 (c := 0) (by decide) ?_
  refine zs_iconst (pc := 14) t278_14 (v := 1) (by decide) ?_
  refine zs_iand (pc := 15) t278_15 (c := 0) (by decide) ?_
  refine zs_iadd (pc := 16) t278_16 (c := 0) (by decide) ?_
  refine zs_istore_n (pc := 17) t278_17 (ls' := [(1, .int (0 : Int32)), (2, .int (0 : Int32)), (0, .int (0 : Int32))]) (zml mf278 (by decide)) rfl ?_
  refine zs_iinc (pc := 18) t278_18 (ls' := [(2, .int (1 : Int32)), (1, .int (0 : Int32)), (0, .int (0 : Int32))]) (zml mf278 (by decide)) rfl (c := 1) (by decide) rfl ?_
  refine zs_goto (pc := 21) t278_21 ?_
  refine zs_iload_n (pc := 4) t278_4 rfl ?_
  refine zs_bipush (pc := 5) t278_5 (v := 8) (by decide) ?_
  refine zs_icmp_geF (pc := 7) t278_7 li1 li8 (by decide) ?_
  refine zs_iload_n (pc := 10) t278_10 rfl ?_
  refine zs_iload_n (pc := 11) t278_11 rfl ?_
  refine zs_iload_n (pc := 12) t278_12 rfl ?_
  refine zs_ishr (pc := 13) t278_13 (c := 0) (by decide) ?_
  refine zs_iconst (pc := 14) t278_14 (v := 1) (by decide) ?_
  refine zs_iand (pc := 15) t278_15 (c := 0) (by decide) ?_
  refine zs_iadd (pc := 16) t278_16 (c := 0) (by decide) ?_
  refine zs_istore_n (pc := 17) t278_17 (ls' := [(1, .int (0 : Int32)), (2, .int (1 : Int32)), (0, .int (0 : Int32))]) (zml mf278 (by decide)) rfl ?_
  refine zs_iinc (pc := 18) t278_18 (ls' := [(2, .int (2 : Int32)), (1, .int (0 : Int32)), (0, .int (0 : Int32))]) (zml mf278 (by decide)) rfl (c := 2) (by decide) rfl ?_
  refine zs_goto (pc := 21) t278_21 ?_
  refine zs_iload_n (pc := 4) t278_4 rfl ?_
  refine zs_bipush (pc := 5) t278_5 (v := 8) (by decide) ?_
  refine zs_icmp_geF (pc := 7) t278_7 li2 li8 (by decide) ?_
  refine zs_iload_n (pc := 10) t278_10 rfl ?_
  refine zs_iload_n (pc := 11) t278_11 rfl ?_
  refine zs_iload_n (pc := 12) t278_12 rfl ?_
  refine zs_ishr (pc := 13) t278_13 (c := 0) (by decide) ?_
  refine zs_iconst (pc := 14) t278_14 (v := 1) (by decide) ?_
  refine zs_iand (pc := 15) t278_15 (c := 0) (by decide) ?_
  refine zs_iadd (pc := 16) t278_16 (c := 0) (by decide) ?_
  refine zs_istore_n (pc := 17) t278_17 (ls' := [(1, .int (0 : Int32)), (2, .int (2 : Int32)), (0, .int (0 : Int32))]) (zml mf278 (by decide)) rfl ?_
  refine zs_iinc (pc := 18) t278_18 (ls' := [(2, .int (3 : Int32)), (1, .int (0 : Int32)), (0, .int (0 : Int32))]) (zml mf278 (by decide)) rfl (c := 3) (by decide) rfl ?_
  refine zs_goto (pc := 21) t278_21 ?_
  refine zs_iload_n (pc := 4) t278_4 rfl ?_
  refine zs_bipush (pc := 5) t278_5 (v := 8) (by decide) ?_
  refine zs_icmp_geF (pc := 7) t278_7 li3 li8 (by decide) ?_
  refine zs_iload_n (pc := 10) t278_10 rfl ?_
  refine zs_iload_n (pc := 11) t278_11 rfl ?_
  refine zs_iload_n (pc := 12) t278_12 rfl ?_
  refine zs_ishr (pc := 13) t278_13 (c := 0) (by decide) ?_
  refine zs_iconst (pc := 14) t278_14 (v := 1) (by decide) ?_
  refine zs_iand (pc := 15) t278_15 (c := 0) (by decide) ?_
  refine zs_iadd (pc := 16) t278_16 (c := 0) (by decide) ?_
  refine zs_istore_n (pc := 17) t278_17 (ls' := [(1, .int (0 : Int32)), (2, .int (3 : Int32)), (0, .int (0 : Int32))]) (zml mf278 (by decide)) rfl ?_
  refine zs_iinc (pc := 18) t278_18 (ls' := [(2, .int (4 : Int32)), (1, .int (0 : Int32)), (0, .int (0 : Int32))]) (zml mf278 (by decide)) rfl (c := 4) (by decide) rfl ?_
  refine zs_goto (pc := 21) t278_21 ?_
  refine zs_iload_n (pc := 4) t278_4 rfl ?_
  refine zs_bipush (pc := 5) t278_5 (v := 8) (by decide) ?_
  refine zs_icmp_geF (pc := 7) t278_7 li4 li8 (by decide) ?_
  refine zs_iload_n (pc := 10) t278_10 rfl ?_
  refine zs_iload_n (pc := 11) t278_11 rfl ?_
  refine zs_iload_n (pc := 12) t278_12 rfl ?_
  refine zs_ishr (pc := 13) t278_13 (c := 0) (by decide) ?_
  refine zs_iconst (pc := 14) t278_14 (v := 1) (by decide) ?_
  refine zs_iand (pc := 15) t278_15 (c := 0) (by decide) ?_
  refine zs_iadd (pc := 16) t278_16 (c := 0) (by decide) ?_
  refine zs_istore_n (pc := 17) t278_17 (ls' := [(1, .int (0 : Int32)), (2, .int (4 : Int32)), (0, .int (0 : Int32))]) (zml mf278 (by decide)) rfl ?_
  refine zs_iinc (pc := 18) t278_18 (ls' := [(2, .int (5 : Int32)), (1, .int (0 : Int32)), (0, .int (0 : Int32))]) (zml mf278 (by decide)) rfl (c := 5) (by decide) rfl ?_
  refine zs_goto (pc := 21) t278_21 ?_
  refine zs_iload_n (pc := 4) t278_4 rfl ?_
  refine zs_bipush (pc := 5) t278_5 (v := 8) (by decide) ?_
  refine zs_icmp_geF (pc := 7) t278_7 li5 li8 (by decide) ?_
  refine zs_iload_n (pc := 10) t278_10 rfl ?_
  refine zs_iload_n (pc := 11) t278_11 rfl ?_
  refine zs_iload_n (pc := 12) t278_12 rfl ?_
  refine zs_ishr (pc := 13) t278_13 (c := 0) (by decide) ?_
  refine zs_iconst (pc := 14) t278_14 (v := 1) (by decide) ?_
  refine zs_iand (pc := 15) t278_15 (c := 0) (by decide) ?_
  refine zs_iadd (pc := 16) t278_16 (c := 0) (by decide) ?_
  refine zs_istore_n (pc := 17) t278_17 (ls' := [(1, .int (0 : Int32)), (2, .int (5 : Int32)), (0, .int (0 : Int32))]) (zml mf278 (by decide)) rfl ?_
  refine zs_iinc (pc := 18) t278_18 (ls' := [(2, .int (6 : Int32)), (1, .int (0 : Int32)), (0, .int (0 : Int32))]) (zml mf278 (by decide)) rfl (c := 6) (by decide) rfl ?_
  refine zs_goto (pc := 21) t278_21 ?_
  refine zs_iload_n (pc := 4) t278_4 rfl ?_
  refine zs_bipush (pc := 5) t278_5 (v := 8) (by decide) ?_
  refine zs_icmp_geF (pc := 7) t278_7 li6 li8 (by decide) ?_
  refine zs_iload_n (pc := 10) t278_10 rfl ?_
  refine zs_iload_n (pc := 11) t278_11 rfl ?_
  refine zs_iload_n (pc := 12) t278_12 rfl ?_
  refine zs_ishr (pc := 13) t278_13 (c := 0) (by decide) ?_
  refine zs_iconst (pc := 14) t278_14 (v := 1) (by decide) ?_
  refine zs_iand (pc := 15) t278_15 (c := 0) (by decide) ?_
  refine zs_iadd (pc := 16) t278_16 (c := 0) (by decide) ?_
  refine zs_istore_n (pc := 17) t278_17 (ls' := [(1, .int (0 : Int32)), (2, .int (6 : Int32)), (0, .int (0 : Int32))]) (zml mf278 (by decide)) rfl ?_
  refine zs_iinc (pc := 18) t278_18 (ls' := [(2, .int (7 : Int32)), (1, .int (0 : Int32)), (0, .int (0 : Int32))]) (zml mf278 (by decide)) rfl (c := 7) (by decide) rfl ?_
  refine zs_goto (pc := 21) t278_21 ?_
  refine zs_iload_n (pc := 4) t278_4 rfl ?_
  refine zs_bipush (pc := 5) t278_5 (v := 8) (by decide) ?_
  refine zs_icmp_geF (pc := 7) t278_7 li7 li8 (by decide) ?_
  refine zs_iload_n (pc := 10) t278_10 rfl ?_
  refine zs_iload_n (pc := 11) t278_11 rfl ?_
  refine zs_iload_n (pc := 12) t278_12 rfl ?_
  refine zs_ishr (pc := 13) t278_13 (c := 0) (by decide) ?_
  refine zs_iconst (pc := 14) t278_14 (v := 1) (by decide) ?_
  refine zs_iand (pc := 15) t278_15 (c := 0) (by decide) ?_
  refine zs_iadd (pc := 16) t278_16 (c := 0) (by decide) ?_
  refine zs_istore_n (pc := 17) t278_17 (ls' := [(1, .int (0 : Int32)), (2, .int (7 : Int32)), (0, .int (0 : Int32))]) (zml mf278 (by decide)) rfl ?_
  refine zs_iinc (pc := 18) t278_18 (ls' := [(2, .int (8 : Int32)), (1, .int (0 : Int32)), (0, .int (0 : Int32))]) (zml mf278 (by decide)) rfl (c := 8) (by decide) rfl ?_
  refine zs_goto (pc := 21) t278_21 ?_
  refine zs_iload_n (pc := 4) t278_4 rfl ?_
  refine zs_bipush (pc := 5) t278_5 (v := 8) (by decide) ?_
  refine zs_icmp_geT (pc := 7) t278_7 li8 li8 (by decide) ?_
  refine zs_iload_n (pc := 24) t278_24 rfl ?_
  exact zs_iret (pc := 25) t278_25 mr278 (by decide) (hQ _ (by decide) (by decide))
