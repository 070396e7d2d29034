theorem K257 {X : zX} {l : Launch} {M : zM} {Q : Option Value → zM → Prop} (hs : zSk zMm M) (hI : zIv mLo mHi M) {hh : Int} (pH : zGh M hh) (u0 : (zI M 336 11).toInt ≤ 5 * (zI M 336 13).toInt + 9) (x0 : 0 ≤ hh ∧ hh ≤ 56) (hQ : ∀ (M' : zM) (v : Int32), zSk zMm M' → zIv mLo mHi M' → zFr [(336, 336, some 6), (336, 336, some 7), (336, 336, some 8), (336, 336, some 11), (336, 336, some 13), (340, 340, none)] M M' → zJ M' 351 = zJ M 351 → ((zI M 336 6).toInt ≤ (zI M' 336 6).toInt) → (v.toInt = 0 ∨ ((zI M 336 13).toInt + 2 ≤ (zI M' 336 13).toInt ∧ (zI M' 336 11).toInt ≤ (zI M 336 11).toInt + 2 * ((zI M' 336 13).toInt - (zI M 336 13).toInt) - 1)) → (v.toInt = 0 ∨ zGh M' (hh + 1)) → 0 ≤ v.toInt → v.toInt ≤ 1 → Q (some (.int v)) M') : zCall X l 4 0 0 257 [.ref 336] M Q := by
  refine zs_in (by decide) mf257 (Nat.le_of_ble_eq_true rfl) ?_
  show zGo X l 4 0 0 257 0 [(0, .ref 336)] [] M _
  refine zs_aload_n (pc := 0) t257_0 rfl ?_
  have w1 := ib336_11 hI
  have w2 : (zI M 336 11).toInt = (zI M 336 11).toInt := (congrArg Int32.toInt rfl).trans rfl
  have w3 := ib336_13 hI
  have w4 : (zI M 336 13).toInt = (zI M 336 13).toInt := (congrArg Int32.toInt rfl).trans rfl
  have w5 : (zI M 336 11).toInt = (zI M 336 11).toInt := (congrArg Int32.toInt rfl).trans rfl
  have w6 := ib336_6 hI
  have w7 : (zI M 336 6).toInt = (zI M 336 6).toInt := (congrArg Int32.toInt rfl).trans rfl
  have w8 : (zI M 336 13).toInt = (zI M 336 13).toInt := (congrArg Int32.toInt rfl).trans rfl
  refine zs_invV (pc := 1) (k := 336) (as' := []) (st := []) t257_1 mf258 rfl rfl (Or.inl ⟨by decide, (zk1 (hs.k fk_zMm_336))⟩) ⟨by decide, by decide, Nat.le_of_ble_eq_true rfl, Nat.le_of_ble_eq_true rfl⟩ (K258 hs hI pH (by omega) (by omega) ?_) (fun _ _ q => q)
  intro w9M w9v w9s w9I w9F w9J w9t0 w9t1 w9x0 w9a w9b
  have w10 := ib336_11 w9I
  have w11 := ib336_6 w9I
  have w12 := ib336_13 w9I
  show zGo X l 4 0 0 257 4 [(0, .ref 336)] [.int w9v] w9M _
  by_cases w13 : w9v.toInt = 0
  · skip
    refine zs_if_neF (pc := 4) t257_4 rfl (by omega) ?_
    refine zs_iconst (pc := 7) t257_7 (v := 0) (by decide) ?_
    have w14 : (zI w9M 336 11).toInt = (zI w9M 336 11).toInt := (congrArg Int32.toInt rfl).trans rfl
    have w15 : (zI w9M 336 6).toInt = (zI w9M 336 6).toInt := (congrArg Int32.toInt rfl).trans rfl
    have w16 : (zI w9M 336 13).toInt = (zI w9M 336 13).toInt := (congrArg Int32.toInt rfl).trans rfl
    have w17 := li0
    exact zs_iret (pc := 8) t257_8 mr257 (by decide) (hQ _ _ w9s w9I ((zFr.refl).trans (w9F.mono rfl)) w9J (by omega) (by omega) (Or.inl (by decide)) (by decide) (by decide))
  · skip
    have w13H := w9x0.resolve_left w13
    refine zs_if_neT (pc := 4) t257_4 rfl (by omega) ?_
    refine zs_aload_n (pc := 9) t257_9 rfl ?_
    refine zs_invV (pc := 10) (k := 336) (as' := []) (st := []) t257_10 mf238 rfl rfl (Or.inl ⟨by decide, (zk1 (w9s.k fk_zMm_336))⟩) ⟨by decide, by decide, Nat.le_of_ble_eq_true rfl, Nat.le_of_ble_eq_true rfl⟩ (H238 w9s w9I ?_) (fun _ _ q => q)
    have w18 := zhere.rg (M := w9M)
    have w19 : (zI w9M 336 6).toInt = (zI w9M 336 6).toInt := (congrArg Int32.toInt rfl).trans rfl
    have w20 := ib336_5 hI
    have w21 : (zI w9M 336 5).toInt = (zI M 336 5).toInt := (congrArg Int32.toInt ((w9F 336 5 rfl).trans rfl)).trans rfl
    show zGo X l 4 0 0 257 13 [(0, .ref 336)] [.int (zhere w9M)] w9M _
    refine zs_istore_n (pc := 13) t257_13 (ls' := [(1, .int (zhere w9M)), (0, .ref 336)]) (zml mf257 (by decide)) rfl ?_
    refine zs_iload_n (pc := 14) t257_14 rfl ?_
    refine zs_bipush (pc := 15) t257_15 (v := 60) (by decide) ?_
    by_cases w22 : (zhere w9M).toInt = 60
    · refine zs_icmp_eqT (pc := 17) t257_17 rfl li60 (by omega) ?_
      refine zs_aload_n (pc := 41) t257_41 rfl ?_
      refine zs_dup (pc := 42) t257_42 rfl ?_
      refine zs_get (pc := 43) t257_43 (by decide) (zk1 (w9s.k fk_zMm_336)) (zfvi rfl rfl) ?_
      refine zs_iconst (pc := 46) t257_46 (v := 1) (by decide) ?_
      obtain ⟨w23v, w23e, w23⟩ := ziadd (a := (zI w9M 336 6)) (b := (1 : Int32)) rfl li1 (by omega) (by omega)
      refine zs_iadd (pc := 47) t257_47 (c := w23v) w23e ?_
      have w24 : zIv mLo mHi (zsI w9M 336 6 w23v) := zIv.put w9I (show 0 ≤ w23v.toInt ∧ w23v.toInt ≤ 500 from ⟨by omega, by omega⟩)
      refine zs_putI (pc := 48) t257_48 (zk1 (w9s.k fk_zMm_336)) rfl ?_
      refine zs_aload_n (pc := 51) t257_51 rfl ?_
      have w25 : (zI (zsI w9M 336 6 w23v) 336 11).toInt = (zI w9M 336 11).toInt := (congrArg Int32.toInt ((zIoj (by decide)).trans rfl)).trans rfl
      have w26 : (zI (zsI w9M 336 6 w23v) 336 13).toInt = (zI w9M 336 13).toInt := (congrArg Int32.toInt ((zIoj (by decide)).trans rfl)).trans rfl
      have w27 : (zI (zsI w9M 336 6 w23v) 336 11).toInt = (zI w9M 336 11).toInt := (congrArg Int32.toInt ((zIoj (by decide)).trans rfl)).trans rfl
      have w28 : (zI (zsI w9M 336 6 w23v) 336 6).toInt = ((zI w9M 336 6).toInt + 1) := (congrArg Int32.toInt zIs).trans w23
      have w29 : (zI (zsI w9M 336 6 w23v) 336 13).toInt = (zI w9M 336 13).toInt := (congrArg Int32.toInt ((zIoj (by decide)).trans rfl)).trans rfl
      refine zs_invV (pc := 52) (k := 336) (as' := []) (st := []) t257_52 mf258 rfl rfl (Or.inl ⟨by decide, (zk1 (w9s.k fk_zMm_336))⟩) ⟨by decide, by decide, Nat.le_of_ble_eq_true rfl, Nat.le_of_ble_eq_true rfl⟩ (K258 w9s w24 (zGh.fr (M' := (zsI w9M 336 6 w23v)) w13H (zEq.put rfl)) (by omega) (by omega) ?_) (fun _ _ q => q)
      intro w30M w30v w30s w30I w30F w30J w30t0 w30t1 w30x0 w30a w30b
      have w31 := ib336_11 w30I
      have w32 := ib336_6 w30I
      have w33 := ib336_13 w30I
      show zGo X l 4 0 0 257 55 [(1, .int (zhere w9M)), (0, .ref 336)] [.int w30v] w30M _
      by_cases w34 : w30v.toInt = 0
      · skip
        refine zs_if_neF (pc := 55) t257_55 rfl (by omega) ?_
        refine zs_iconst (pc := 58) t257_58 (v := 0) (by decide) ?_
        have w35 : (zI w30M 336 11).toInt = (zI w30M 336 11).toInt := (congrArg Int32.toInt rfl).trans rfl
        have w36 : (zI w30M 336 6).toInt = (zI w30M 336 6).toInt := (congrArg Int32.toInt rfl).trans rfl
        have w37 : (zI w30M 336 13).toInt = (zI w30M 336 13).toInt := (congrArg Int32.toInt rfl).trans rfl
        have w38 := li0
        exact zs_iret (pc := 59) t257_59 mr257 (by decide) (hQ _ _ w30s w30I ((((zFr.refl).trans (w9F.mono rfl)).put rfl).trans (w30F.mono rfl)) (w30J.trans w9J) (by omega) (by omega) (Or.inl (by decide)) (by decide) (by decide))
      · skip
        have w34H := w30x0.resolve_left w34
        refine zs_if_neT (pc := 55) t257_55 rfl (by omega) ?_
        refine zs_aload_n (pc := 60) t257_60 rfl ?_
        refine zs_sipush (pc := 61) t257_61 (v := 20000) (by decide) ?_
        refine zs_iload_n (pc := 64) t257_64 rfl ?_
        obtain ⟨w39v, w39e, w39⟩ := ziadd (a := (20000 : Int32)) (b := (zhere w9M)) li20000 rfl (by omega) (by omega)
        refine zs_iadd (pc := 65) t257_65 (c := w39v) w39e ?_
        refine zs_invV (pc := 66) (k := 336) (as' := [.int w39v]) (st := []) t257_66 mf261 rfl rfl (Or.inl ⟨by decide, (zk1 (w30s.k fk_zMm_336))⟩) ⟨by decide, by decide, Nat.le_of_ble_eq_true rfl, Nat.le_of_ble_eq_true rfl⟩ (zs_in (by decide) mf261 (Nat.le_of_ble_eq_true rfl) ?_) (fun _ _ q => q)
        show zGo X l 0 0 0 261 0 [(0, .ref 336), (1, .int w39v)] [] w30M _
        refine zs_aload_n (pc := 0) t261_0 rfl ?_
        refine zs_get (pc := 1) t261_1 (by decide) (zk1 (w30s.k fk_zMm_336)) (w30s.p rfl fv_zMm_336_9) ?_
        refine zs_aload_n (pc := 4) t261_4 rfl ?_
        refine zs_get (pc := 5) t261_5 (by decide) (zk1 (w30s.k fk_zMm_336)) (zfvi rfl rfl) ?_
        refine zs_iload_n (pc := 8) t261_8 rfl ?_
        obtain ⟨w40n, w40⟩ : ∃ n : Nat, (zI w30M 336 11).toInt = (n : Int) := ⟨((zI w30M 336 11).toInt).toNat, by omega⟩
        have w41 : zIv mLo mHi (zsI w30M 340 w40n w39v) := zIv.put w30I (show (-2147483648) ≤ w39v.toInt ∧ w39v.toInt ≤ 2147483647 from zrg w39v)
        refine zs_iast (pc := 9) t261_9 (j := w40n) (by decide) (zk1 (w30s.k fk_zMm_340)) (show (zI w30M 336 11).toInt = ((w40n : Nat) : Int) by omega) (zk2 (w30s.k fk_zMm_340) (by omega)) ?_
        refine zs_aload_n (pc := 10) t261_10 rfl ?_
        refine zs_dup (pc := 11) t261_11 rfl ?_
        refine zs_get (pc := 12) t261_12 (by decide) (zk1 (w30s.k fk_zMm_336)) (zfvi rfl ((zIo (by decide)).trans rfl)) ?_
        refine zs_iconst (pc := 15) t261_15 (v := 1) (by decide) ?_
        obtain ⟨w42v, w42e, w42⟩ := ziadd (a := (zI w30M 336 11)) (b := (1 : Int32)) rfl li1 (by omega) (by omega)
        refine zs_iadd (pc := 16) t261_16 (c := w42v) w42e ?_
        have w43 : zIv mLo mHi (zsI (zsI w30M 340 w40n w39v) 336 11 w42v) := zIv.put w41 (show 0 ≤ w42v.toInt ∧ w42v.toInt ≤ 200 from ⟨by omega, by omega⟩)
        have w44 : (zI w30M 336 11).toInt = (zI w30M 336 11).toInt := (congrArg Int32.toInt rfl).trans rfl
        have w45 : w42v.toInt = ((zI w30M 336 11).toInt + 1) := w42
        have w46 : w39v.toInt = (20000 + (zhere w9M).toInt) := w39
        have w47 : zGh (zsI (zsI w30M 340 w40n w39v) 336 11 w42v) (((hh + 1) + 1) - 1) := zGh.put (n := w40n) w34H (by omega) (by omega) (by omega)
        refine zs_putI (pc := 17) t261_17 (zk1 (w30s.k fk_zMm_336)) rfl ?_
        refine zs_vret (pc := 20) t261_20 mr261 ?_
        show zGo X l 4 0 0 257 69 [(1, .int (zhere w9M)), (0, .ref 336)] [] (zsI (zsI w30M 340 w40n w39v) 336 11 w42v) _
        refine zs_iconst (pc := 69) t257_69 (v := 1) (by decide) ?_
        have w48 : (zI (zsI (zsI w30M 340 w40n w39v) 336 11 w42v) 336 11).toInt = ((zI w30M 336 11).toInt + 1) := (congrArg Int32.toInt zIs).trans w42
        have w49 : (zI (zsI (zsI w30M 340 w40n w39v) 336 11 w42v) 336 6).toInt = (zI w30M 336 6).toInt := (congrArg Int32.toInt ((zIoj (by decide)).trans ((zIo (by decide)).trans rfl))).trans rfl
        have w50 : (zI (zsI (zsI w30M 340 w40n w39v) 336 11 w42v) 336 13).toInt = (zI w30M 336 13).toInt := (congrArg Int32.toInt ((zIoj (by decide)).trans ((zIo (by decide)).trans rfl))).trans rfl
        have w51 := li1
        have w52 := ib336_12 hI
        have w53 : (zI (zsI (zsI w30M 340 w40n w39v) 336 11 w42v) 336 12).toInt = (zI M 336 12).toInt := (congrArg Int32.toInt ((zIoj (by decide)).trans ((zIo (by decide)).trans ((w30F 336 12 rfl).trans ((zIoj (by decide)).trans ((w9F 336 12 rfl).trans rfl)))))).trans rfl
        have w54 := ib336_14 hI
        have w55 : (zI (zsI (zsI w30M 340 w40n w39v) 336 11 w42v) 336 14).toInt = (zI M 336 14).toInt := (congrArg Int32.toInt ((zIoj (by decide)).trans ((zIo (by decide)).trans ((w30F 336 14 rfl).trans ((zIoj (by decide)).trans ((w9F 336 14 rfl).trans rfl)))))).trans rfl
        exact zs_iret (pc := 70) t257_70 mr257 (by decide) (hQ _ _ w30s w43 ((((((zFr.refl).trans (w9F.mono rfl)).put rfl).trans (w30F.mono rfl)).put rfl).put rfl) (w30J.trans w9J) (by omega) (by omega) (Or.inr (zGh.cast w47 (by omega))) (by decide) (by decide))
    · refine zs_icmp_eqF (pc := 17) t257_17 rfl li60 (by omega) ?_
      refine zs_iload_n (pc := 20) t257_20 rfl ?_
      refine zs_bipush (pc := 21) t257_21 (v := 62) (by decide) ?_
      by_cases w56 : (zhere w9M).toInt = 62
      · refine zs_icmp_eqT (pc := 23) t257_23 rfl li62 (by omega) ?_
        refine zs_aload_n (pc := 41) t257_41 rfl ?_
        refine zs_dup (pc := 42) t257_42 rfl ?_
        refine zs_get (pc := 43) t257_43 (by decide) (zk1 (w9s.k fk_zMm_336)) (zfvi rfl rfl) ?_
        refine zs_iconst (pc := 46) t257_46 (v := 1) (by decide) ?_
        obtain ⟨w57v, w57e, w57⟩ := ziadd (a := (zI w9M 336 6)) (b := (1 : Int32)) rfl li1 (by omega) (by omega)
        refine zs_iadd (pc := 47) t257_47 (c := w57v) w57e ?_
        have w58 : zIv mLo mHi (zsI w9M 336 6 w57v) := zIv.put w9I (show 0 ≤ w57v.toInt ∧ w57v.toInt ≤ 500 from ⟨by omega, by omega⟩)
        refine zs_putI (pc := 48) t257_48 (zk1 (w9s.k fk_zMm_336)) rfl ?_
        refine zs_aload_n (pc := 51) t257_51 rfl ?_
        have w59 : (zI (zsI w9M 336 6 w57v) 336 11).toInt = (zI w9M 336 11).toInt := (congrArg Int32.toInt ((zIoj (by decide)).trans rfl)).trans rfl
        have w60 : (zI (zsI w9M 336 6 w57v) 336 13).toInt = (zI w9M 336 13).toInt := (congrArg Int32.toInt ((zIoj (by decide)).trans rfl)).trans rfl
        have w61 : (zI (zsI w9M 336 6 w57v) 336 11).toInt = (zI w9M 336 11).toInt := (congrArg Int32.toInt ((zIoj (by decide)).trans rfl)).trans rfl
        have w62 : (zI (zsI w9M 336 6 w57v) 336 6).toInt = ((zI w9M 336 6).toInt + 1) := (congrArg Int32.toInt zIs).trans w57
        have w63 : (zI (zsI w9M 336 6 w57v) 336 13).toInt = (zI w9M 336 13).toInt := (congrArg Int32.toInt ((zIoj (by decide)).trans rfl)).trans rfl
        refine zs_invV (pc := 52) (k := 336) (as' := []) (st := []) t257_52 mf258 rfl rfl (Or.inl ⟨by decide, (zk1 (w9s.k fk_zMm_336))⟩) ⟨by decide, by decide, Nat.le_of_ble_eq_true rfl, Nat.le_of_ble_eq_true rfl⟩ (K258 w9s w58 (zGh.fr (M' := (zsI w9M 336 6 w57v)) w13H (zEq.put rfl)) (by omega) (by omega) ?_) (fun _ _ q => q)
        intro w64M w64v w64s w64I w64F w64J w64t0 w64t1 w64x0 w64a w64b
        have w65 := ib336_11 w64I
        have w66 := ib336_6 w64I
        have w67 := ib336_13 w64I
        show zGo X l 4 0 0 257 55 [(1, .int (zhere w9M)), (0, .ref 336)] [.int w64v] w64M _
        by_cases w68 : w64v.toInt = 0
        · skip
          refine zs_if_neF (pc := 55) t257_55 rfl (by omega) ?_
          refine zs_iconst (pc := 58) t257_58 (v := 0) (by decide) ?_
          have w69 : (zI w64M 336 11).toInt = (zI w64M 336 11).toInt := (congrArg Int32.toInt rfl).trans rfl
          have w70 : (zI w64M 336 6).toInt = (zI w64M 336 6).toInt := (congrArg Int32.toInt rfl).trans rfl
          have w71 : (zI w64M 336 13).toInt = (zI w64M 336 13).toInt := (congrArg Int32.toInt rfl).trans rfl
          have w72 := li0
          exact zs_iret (pc := 59) t257_59 mr257 (by decide) (hQ _ _ w64s w64I ((((zFr.refl).trans (w9F.mono rfl)).put rfl).trans (w64F.mono rfl)) (w64J.trans w9J) (by omega) (by omega) (Or.inl (by decide)) (by decide) (by decide))
        · skip
          have w68H := w64x0.resolve_left w68
          refine zs_if_neT (pc := 55) t257_55 rfl (by omega) ?_
          refine zs_aload_n (pc := 60) t257_60 rfl ?_
          refine zs_sipush (pc := 61) t257_61 (v := 20000) (by decide) ?_
          refine zs_iload_n (pc := 64) t257_64 rfl ?_
          obtain ⟨w73v, w73e, w73⟩ := ziadd (a := (20000 : Int32)) (b := (zhere w9M)) li20000 rfl (by omega) (by omega)
          refine zs_iadd (pc := 65) t257_65 (c := w73v) w73e ?_
          refine zs_invV (pc := 66) (k := 336) (as' := [.int w73v]) (st := []) t257_66 mf261 rfl rfl (Or.inl ⟨by decide, (zk1 (w64s.k fk_zMm_336))⟩) ⟨by decide, by decide, Nat.le_of_ble_eq_true rfl, Nat.le_of_ble_eq_true rfl⟩ (zs_in (by decide) mf261 (Nat.le_of_ble_eq_true rfl) ?_) (fun _ _ q => q)
          show zGo X l 0 0 0 261 0 [(0, .ref 336), (1, .int w73v)] [] w64M _
          refine zs_aload_n (pc := 0) t261_0 rfl ?_
          refine zs_get (pc := 1) t261_1 (by decide) (zk1 (w64s.k fk_zMm_336)) (w64s.p rfl fv_zMm_336_9) ?_
          refine zs_aload_n (pc := 4) t261_4 rfl ?_
          refine zs_get (pc := 5) t261_5 (by decide) (zk1 (w64s.k fk_zMm_336)) (zfvi rfl rfl) ?_
          refine zs_iload_n (pc := 8) t261_8 rfl ?_
          obtain ⟨w74n, w74⟩ : ∃ n : Nat, (zI w64M 336 11).toInt = (n : Int) := ⟨((zI w64M 336 11).toInt).toNat, by omega⟩
          have w75 : zIv mLo mHi (zsI w64M 340 w74n w73v) := zIv.put w64I (show (-2147483648) ≤ w73v.toInt ∧ w73v.toInt ≤ 2147483647 from zrg w73v)
          refine zs_iast (pc := 9) t261_9 (j := w74n) (by decide) (zk1 (w64s.k fk_zMm_340)) (show (zI w64M 336 11).toInt = ((w74n : Nat) : Int) by omega) (zk2 (w64s.k fk_zMm_340) (by omega)) ?_
          refine zs_aload_n (pc := 10) t261_10 rfl ?_
          refine zs_dup (pc := 11) t261_11 rfl ?_
          refine zs_get (pc := 12) t261_12 (by decide) (zk1 (w64s.k fk_zMm_336)) (zfvi rfl ((zIo (by decide)).trans rfl)) ?_
          refine zs_iconst (pc := 15) t261_15 (v := 1) (by decide) ?_
          obtain ⟨w76v, w76e, w76⟩ := ziadd (a := (zI w64M 336 11)) (b := (1 : Int32)) rfl li1 (by omega) (by omega)
          refine zs_iadd (pc := 16) t261_16 (c := w76v) w76e ?_
          have w77 : zIv mLo mHi (zsI (zsI w64M 340 w74n w73v) 336 11 w76v) := zIv.put w75 (show 0 ≤ w76v.toInt ∧ w76v.toInt ≤ 200 from ⟨by omega, by omega⟩)
          have w78 : (zI w64M 336 11).toInt = (zI w64M 336 11).toInt := (congrArg Int32.toInt rfl).trans rfl
          have w79 : w76v.toInt = ((zI w64M 336 11).toInt + 1) := w76
          have w80 : w73v.toInt = (20000 + (zhere w9M).toInt) := w73
          have w81 : zGh (zsI (zsI w64M 340 w74n w73v) 336 11 w76v) (((hh + 1) + 1) - 1) := zGh.put (n := w74n) w68H (by omega) (by omega) (by omega)
          refine zs_putI (pc := 17) t261_17 (zk1 (w64s.k fk_zMm_336)) rfl ?_
          refine zs_vret (pc := 20) t261_20 mr261 ?_
          show zGo X l 4 0 0 257 69 [(1, .int (zhere w9M)), (0, .ref 336)] [] (zsI (zsI w64M 340 w74n w73v) 336 11 w76v) _
          refine zs_iconst (pc := 69) t257_69 (v := 1) (by decide) ?_
          have w82 : (zI (zsI (zsI w64M 340 w74n w73v) 336 11 w76v) 336 11).toInt = ((zI w64M 336 11).toInt + 1) := (congrArg Int32.toInt zIs).trans w76
          have w83 : (zI (zsI (zsI w64M 340 w74n w73v) 336 11 w76v) 336 6).toInt = (zI w64M 336 6).toInt := (congrArg Int32.toInt ((zIoj (by decide)).trans ((zIo (by decide)).trans rfl))).trans rfl
          have w84 : (zI (zsI (zsI w64M 340 w74n w73v) 336 11 w76v) 336 13).toInt = (zI w64M 336 13).toInt := (congrArg Int32.toInt ((zIoj (by decide)).trans ((zIo (by decide)).trans rfl))).trans rfl
          have w85 := li1
          have w86 : (zI (zsI (zsI w64M 340 w74n w73v) 336 11 w76v) 336 12).toInt = (zI M 336 12).toInt := (congrArg Int32.toInt ((zIoj (by decide)).trans ((zIo (by decide)).trans ((w64F 336 12 rfl).trans ((zIoj (by decide)).trans ((w9F 336 12 rfl).trans rfl)))))).trans rfl
          have w87 : (zI (zsI (zsI w64M 340 w74n w73v) 336 11 w76v) 336 14).toInt = (zI M 336 14).toInt := (congrArg Int32.toInt ((zIoj (by decide)).trans ((zIo (by decide)).trans ((w64F 336 14 rfl).trans ((zIoj (by decide)).trans ((w9F 336 14 rfl).trans rfl)))))).trans rfl
          exact zs_iret (pc := 70) t257_70 mr257 (by decide) (hQ _ _ w64s w77 ((((((zFr.refl).trans (w9F.mono rfl)).put rfl).trans (w64F.mono rfl)).put rfl).put rfl) (w64J.trans w9J) (by omega) (by omega) (Or.inr (zGh.cast w81 (by omega))) (by decide) (by decide))
      · refine zs_icmp_eqF (pc := 23) t257_23 rfl li62 (by omega) ?_
        refine zs_iload_n (pc := 26) t257_26 rfl ?_
        refine zs_bipush (pc := 27) t257_27 (v := 61) (by decide) ?_
        by_cases w88 : (zhere w9M).toInt = 61
        · refine zs_icmp_eqT (pc := 29) t257_29 rfl li61 (by omega) ?_
          refine zs_aload_n (pc := 41) t257_41 rfl ?_
          refine zs_dup (pc := 42) t257_42 rfl ?_
          refine zs_get (pc := 43) t257_43 (by decide) (zk1 (w9s.k fk_zMm_336)) (zfvi rfl rfl) ?_
          refine zs_iconst (pc := 46) t257_46 (v := 1) (by decide) ?_
          obtain ⟨w89v, w89e, w89⟩ := ziadd (a := (zI w9M 336 6)) (b := (1 : Int32)) rfl li1 (by omega) (by omega)
          refine zs_iadd (pc := 47) t257_47 (c := w89v) w89e ?_
          have w90 : zIv mLo mHi (zsI w9M 336 6 w89v) := zIv.put w9I (show 0 ≤ w89v.toInt ∧ w89v.toInt ≤ 500 from ⟨by omega, by omega⟩)
          refine zs_putI (pc := 48) t257_48 (zk1 (w9s.k fk_zMm_336)) rfl ?_
          refine zs_aload_n (pc := 51) t257_51 rfl ?_
          have w91 : (zI (zsI w9M 336 6 w89v) 336 11).toInt = (zI w9M 336 11).toInt := (congrArg Int32.toInt ((zIoj (by decide)).trans rfl)).trans rfl
          have w92 : (zI (zsI w9M 336 6 w89v) 336 13).toInt = (zI w9M 336 13).toInt := (congrArg Int32.toInt ((zIoj (by decide)).trans rfl)).trans rfl
          have w93 : (zI (zsI w9M 336 6 w89v) 336 11).toInt = (zI w9M 336 11).toInt := (congrArg Int32.toInt ((zIoj (by decide)).trans rfl)).trans rfl
          have w94 : (zI (zsI w9M 336 6 w89v) 336 6).toInt = ((zI w9M 336 6).toInt + 1) := (congrArg Int32.toInt zIs).trans w89
          have w95 : (zI (zsI w9M 336 6 w89v) 336 13).toInt = (zI w9M 336 13).toInt := (congrArg Int32.toInt ((zIoj (by decide)).trans rfl)).trans rfl
          refine zs_invV (pc := 52) (k := 336) (as' := []) (st := []) t257_52 mf258 rfl rfl (Or.inl ⟨by decide, (zk1 (w9s.k fk_zMm_336))⟩) ⟨by decide, by decide, Nat.le_of_ble_eq_true rfl, Nat.le_of_ble_eq_true rfl⟩ (K258 w9s w90 (zGh.fr (M' := (zsI w9M 336 6 w89v)) w13H (zEq.put rfl)) (by omega) (by omega) ?_) (fun _ _ q => q)
          intro w96M w96v w96s w96I w96F w96J w96t0 w96t1 w96x0 w96a w96b
          have w97 := ib336_11 w96I
          have w98 := ib336_6 w96I
          have w99 := ib336_13 w96I
          show zGo X l 4 0 0 257 55 [(1, .int (zhere w9M)), (0, .ref 336)] [.int w96v] w96M _
          by_cases w100 : w96v.toInt = 0
          · skip
            refine zs_if_neF (pc := 55) t257_55 rfl (by omega) ?_
            refine zs_iconst (pc := 58) t257_58 (v := 0) (by decide) ?_
            have w101 : (zI w96M 336 11).toInt = (zI w96M 336 11).toInt := (congrArg Int32.toInt rfl).trans rfl
            have w102 : (zI w96M 336 6).toInt = (zI w96M 336 6).toInt := (congrArg Int32.toInt rfl).trans rfl
            have w103 : (zI w96M 336 13).toInt = (zI w96M 336 13).toInt := (congrArg Int32.toInt rfl).trans rfl
            have w104 := li0
            exact zs_iret (pc := 59) t257_59 mr257 (by decide) (hQ _ _ w96s w96I ((((zFr.refl).trans (w9F.mono rfl)).put rfl).trans (w96F.mono rfl)) (w96J.trans w9J) (by omega) (by omega) (Or.inl (by decide)) (by decide) (by decide))
          · skip
            have w100H := w96x0.resolve_left w100
            refine zs_if_neT (pc := 55) t257_55 rfl (by omega) ?_
            refine zs_aload_n (pc := 60) t257_60 rfl ?_
            refine zs_sipush (pc := 61) t257_61 (v := 20000) (by decide) ?_
            refine zs_iload_n (pc := 64) t257_64 rfl ?_
            obtain ⟨w105v, w105e, w105⟩ := ziadd (a := (20000 : Int32)) (b := (zhere w9M)) li20000 rfl (by omega) (by omega)
            refine zs_iadd (pc := 65) t257_65 (c := w105v) w105e ?_
            refine zs_invV (pc := 66) (k := 336) (as' := [.int w105v]) (st := []) t257_66 mf261 rfl rfl (Or.inl ⟨by decide, (zk1 (w96s.k fk_zMm_336))⟩) ⟨by decide, by decide, Nat.le_of_ble_eq_true rfl, Nat.le_of_ble_eq_true rfl⟩ (zs_in (by decide) mf261 (Nat.le_of_ble_eq_true rfl) ?_) (fun _ _ q => q)
            show zGo X l 0 0 0 261 0 [(0, .ref 336), (1, .int w105v)] [] w96M _
            refine zs_aload_n (pc := 0) t261_0 rfl ?_
            refine zs_get (pc := 1) t261_1 (by decide) (zk1 (w96s.k fk_zMm_336)) (w96s.p rfl fv_zMm_336_9) ?_
            refine zs_aload_n (pc := 4) t261_4 rfl ?_
            refine zs_get (pc := 5) t261_5 (by decide) (zk1 (w96s.k fk_zMm_336)) (zfvi rfl rfl) ?_
            refine zs_iload_n (pc := 8) t261_8 rfl ?_
            obtain ⟨w106n, w106⟩ : ∃ n : Nat, (zI w96M 336 11).toInt = (n : Int) := ⟨((zI w96M 336 11).toInt).toNat, by omega⟩
            have w107 : zIv mLo mHi (zsI w96M 340 w106n w105v) := zIv.put w96I (show (-2147483648) ≤ w105v.toInt ∧ w105v.toInt ≤ 2147483647 from zrg w105v)
            refine zs_iast (pc := 9) t261_9 (j := w106n) (by decide) (zk1 (w96s.k fk_zMm_340)) (show (zI w96M 336 11).toInt = ((w106n : Nat) : Int) by omega) (zk2 (w96s.k fk_zMm_340) (by omega)) ?_
            refine zs_aload_n (pc := 10) t261_10 rfl ?_
            refine zs_dup (pc := 11) t261_11 rfl ?_
            refine zs_get (pc := 12) t261_12 (by decide) (zk1 (w96s.k fk_zMm_336)) (zfvi rfl ((zIo (by decide)).trans rfl)) ?_
            refine zs_iconst (pc := 15) t261_15 (v := 1) (by decide) ?_
            obtain ⟨w108v, w108e, w108⟩ := ziadd (a := (zI w96M 336 11)) (b := (1 : Int32)) rfl li1 (by omega) (by omega)
            refine zs_iadd (pc := 16) t261_16 (c := w108v) w108e ?_
            have w109 : zIv mLo mHi (zsI (zsI w96M 340 w106n w105v) 336 11 w108v) := zIv.put w107 (show 0 ≤ w108v.toInt ∧ w108v.toInt ≤ 200 from ⟨by omega, by omega⟩)
            have w110 : (zI w96M 336 11).toInt = (zI w96M 336 11).toInt := (congrArg Int32.toInt rfl).trans rfl
            have w111 : w108v.toInt = ((zI w96M 336 11).toInt + 1) := w108
            have w112 : w105v.toInt = (20000 + (zhere w9M).toInt) := w105
            have w113 : zGh (zsI (zsI w96M 340 w106n w105v) 336 11 w108v) (((hh + 1) + 1) - 1) := zGh.put (n := w106n) w100H (by omega) (by omega) (by omega)
            refine zs_putI (pc := 17) t261_17 (zk1 (w96s.k fk_zMm_336)) rfl ?_
            refine zs_vret (pc := 20) t261_20 mr261 ?_
            show zGo X l 4 0 0 257 69 [(1, .int (zhere w9M)), (0, .ref 336)] [] (zsI (zsI w96M 340 w106n w105v) 336 11 w108v) _
            refine zs_iconst (pc := 69) t257_69 (v := 1) (by decide) ?_
            have w114 : (zI (zsI (zsI w96M 340 w106n w105v) 336 11 w108v) 336 11).toInt = ((zI w96M 336 11).toInt + 1) := (congrArg Int32.toInt zIs).trans w108
            have w115 : (zI (zsI (zsI w96M 340 w106n w105v) 336 11 w108v) 336 6).toInt = (zI w96M 336 6).toInt := (congrArg Int32.toInt ((zIoj (by decide)).trans ((zIo (by decide)).trans rfl))).trans rfl
            have w116 : (zI (zsI (zsI w96M 340 w106n w105v) 336 11 w108v) 336 13).toInt = (zI w96M 336 13).toInt := (congrArg Int32.toInt ((zIoj (by decide)).trans ((zIo (by decide)).trans rfl))).trans rfl
            have w117 := li1
            have w118 : (zI (zsI (zsI w96M 340 w106n w105v) 336 11 w108v) 336 12).toInt = (zI M 336 12).toInt := (congrArg Int32.toInt ((zIoj (by decide)).trans ((zIo (by decide)).trans ((w96F 336 12 rfl).trans ((zIoj (by decide)).trans ((w9F 336 12 rfl).trans rfl)))))).trans rfl
            have w119 : (zI (zsI (zsI w96M 340 w106n w105v) 336 11 w108v) 336 14).toInt = (zI M 336 14).toInt := (congrArg Int32.toInt ((zIoj (by decide)).trans ((zIo (by decide)).trans ((w96F 336 14 rfl).trans ((zIoj (by decide)).trans ((w9F 336 14 rfl).trans rfl)))))).trans rfl
            exact zs_iret (pc := 70) t257_70 mr257 (by decide) (hQ _ _ w96s w109 ((((((zFr.refl).trans (w9F.mono rfl)).put rfl).trans (w96F.mono rfl)).put rfl).put rfl) (w96J.trans w9J) (by omega) (by omega) (Or.inr (zGh.cast w113 (by omega))) (by decide) (by decide))
        · refine zs_icmp_eqF (pc := 29) t257_29 rfl li61 (by omega) ?_
          refine zs_aload_n (pc := 32) t257_32 rfl ?_
          refine zs_aload_n (pc := 33) t257_33 rfl ?_
          refine zs_get (pc := 34) t257_34 (by decide) (zk1 (w9s.k fk_zMm_336)) (zfvi rfl rfl) ?_
          refine zs_invV (pc := 37) (k := 336) (as' := [.int (zI w9M 336 6)]) (st := []) t257_37 mf239 rfl rfl (Or.inl ⟨by decide, (zk1 (w9s.k fk_zMm_336))⟩) ⟨by decide, by decide, Nat.le_of_ble_eq_true rfl, Nat.le_of_ble_eq_true rfl⟩ (zs_in (by decide) mf239 (Nat.le_of_ble_eq_true rfl) ?_) (fun _ _ q => q)
          show zGo X l 0 0 0 239 0 [(0, .ref 336), (1, .int (zI w9M 336 6))] [] w9M _
          refine zs_aload_n (pc := 0) t239_0 rfl ?_
          refine zs_iload_n (pc := 1) t239_1 rfl ?_
          have w120 : zIv mLo mHi (zsI w9M 336 7 (zI w9M 336 6)) := zIv.put w9I (show (-1) ≤ (zI w9M 336 6).toInt ∧ (zI w9M 336 6).toInt ≤ 500 from ⟨by omega, by omega⟩)
          refine zs_putI (pc := 2) t239_2 (zk1 (w9s.k fk_zMm_336)) rfl ?_
          refine zs_iconst (pc := 5) t239_5 (v := 0) (by decide) ?_
          refine zs_iret (pc := 6) t239_6 mr239 (by decide) ?_
          show zGo X l 4 0 0 257 40 [(1, .int (zhere w9M)), (0, .ref 336)] [.int (0 : Int32)] (zsI w9M 336 7 (zI w9M 336 6)) _
          have w121 : (zI (zsI w9M 336 7 (zI w9M 336 6)) 336 11).toInt = (zI w9M 336 11).toInt := (congrArg Int32.toInt ((zIoj (by decide)).trans rfl)).trans rfl
          have w122 : (zI (zsI w9M 336 7 (zI w9M 336 6)) 336 6).toInt = (zI w9M 336 6).toInt := (congrArg Int32.toInt ((zIoj (by decide)).trans rfl)).trans rfl
          have w123 : (zI (zsI w9M 336 7 (zI w9M 336 6)) 336 13).toInt = (zI w9M 336 13).toInt := (congrArg Int32.toInt ((zIoj (by decide)).trans rfl)).trans rfl
          have w124 := li0
          exact zs_iret (pc := 40) t257_40 mr257 (by decide) (hQ _ _ w9s w120 (((zFr.refl).trans (w9F.mono rfl)).put rfl) w9J (by omega) (by omega) (Or.inl (by decide)) (by decide) (by decide))
theorem K264 {X : zX} {l : Launch} {M : zM} {Q : Option Value → zM → Prop} {a : Int32} (hs : zSk zMm M) (hI : zIv mLo mHi M) (hQ : ∀ v : Int32, ((v.toInt = 1 ∧ 1 ≤ (zI M 336 12).toInt ∧ ∀ n : Nat, (n : Int) + 1 = (zI M 336 12).toInt → (zI M 341 n).toInt = a.toInt) ∨ (v.toInt = 0 ∧ ∀ n : Nat, (n : Int) + 1 = (zI M 336 12).toInt → (zI M 341 n).toInt ≠ a.toInt)) → 0 ≤ v.toInt → v.toInt ≤ 1 → Q (some (.int v)) M) : zCall X l 0 0 0 264 [.ref 336, .int a] M Q := by
  have ga := zrg a
  refine zs_in (by decide) mf264 (Nat.le_of_ble_eq_true rfl) ?_
  show zGo X l 0 0 0 264 0 [(0, .ref 336), (1, .int a)] [] M _
  refine zs_aload_n (pc := 0) t264_0 rfl ?_
  have w1 := ib336_12 hI
  refine zs_get (pc := 1) t264_1 (by decide) (zk1 (hs.k fk_zMm_336)) (zfvi rfl rfl) ?_
  by_cases w2 : (zI M 336 12).toInt ≤ 0
  · refine zs_if_leT (pc := 4) t264_4 rfl (by omega) ?_
    refine zs_iconst (pc := 26) t264_26 (v := 0) (by decide) ?_
    exact zs_iret (pc := 27) t264_27 mr264 (by decide) (hQ _ (Or.inr ⟨by decide, fun n hn => by omega⟩) (by decide) (by decide))
  · refine zs_if_leF (pc := 4) t264_4 rfl (by omega) ?_
    refine zs_aload_n (pc := 7) t264_7 rfl ?_
    refine zs_get (pc := 8) t264_8 (by decide) (zk1 (hs.k fk_zMm_336)) (hs.p rfl fv_zMm_336_10) ?_
    refine zs_aload_n (pc := 11) t264_11 rfl ?_
    refine zs_get (pc := 12) t264_12 (by decide) (zk1 (hs.k fk_zMm_336)) (zfvi rfl rfl) ?_
    refine zs_iconst (pc := 15) t264_15 (v := 1) (by decide) ?_
    obtain ⟨w3v, w3e, w3⟩ := zisub (a := (zI M 336 12)) (b := (1 : Int32)) rfl li1 (by omega) (by omega)
    refine zs_isub (pc := 16) t264_16 (c := w3v) w3e ?_
    obtain ⟨w4n, w4⟩ : ∃ n : Nat, w3v.toInt = (n : Int) := ⟨w3v.toInt.toNat, by omega⟩
    have w5 := zrg (zI M 341 w4n)
    refine zs_iald (pc := 17) t264_17 (j := w4n) (by decide) (zk1 (hs.k fk_zMm_341)) w4 (zk2 (hs.k fk_zMm_341) (by omega)) rfl ?_
    refine zs_iload_n (pc := 18) t264_18 rfl ?_
    by_cases w6 : (zI M 341 w4n).toInt ≠ a.toInt
    · refine zs_icmp_neT (pc := 19) t264_19 rfl rfl (by omega) ?_
      refine zs_iconst (pc := 26) t264_26 (v := 0) (by decide) ?_
      exact zs_iret (pc := 27) t264_27 mr264 (by decide) (hQ _ (Or.inr ⟨by decide, fun n hn => by obtain rfl : n = w4n := (by omega); omega⟩) (by decide) (by decide))
    · refine zs_icmp_neF (pc := 19) t264_19 rfl rfl (by omega) ?_
      refine zs_iconst (pc := 22) t264_22 (v := 1) (by decide) ?_
      refine zs_goto (pc := 23) t264_23 ?_
      exact zs_iret (pc := 27) t264_27 mr264 (by decide) (hQ _ (Or.inl ⟨by decide, by omega, fun n hn => by obtain rfl : n = w4n := (by omega); omega⟩) (by decide) (by decide))
theorem K265 {X : zX} {l : Launch} {M : zM} {Q : Option Value → zM → Prop} (hs : zSk zMm M) (hI : zIv mLo mHi M) {hh hq : Int} (pH : zGh M hh) (u0 : 1 ≤ (zI M 336 12).toInt) (u1 : (zI M 336 11).toInt ≤ 199) (x0 : ∀ n : Nat, (n : Int) + 1 = (zI M 336 12).toInt → ((zI M 341 n).toInt = 33 ∧ 1 ≤ hh ∧ hq = hh) ∨ (((zI M 341 n).toInt = 38 ∨ (zI M 341 n).toInt = 124) ∧ 2 ≤ hh ∧ hq = hh - 1)) (hQ : ∀ M', zSk zMm M' → zIv mLo mHi M' → zFr [(336, 336, some 12), (336, 336, some 11), (340, 340, none)] M M' → zJ M' 351 = zJ M 351 → zGh M' hq → ((zI M' 336 12).toInt = (zI M 336 12).toInt - 1) → ((zI M' 336 11).toInt = (zI M 336 11).toInt + 1) → Q none M') : zCall X l 1 0 0 265 [.ref 336] M Q := by
  refine zs_in (by decide) mf265 (Nat.le_of_ble_eq_true rfl) ?_
  show zGo X l 1 0 0 265 0 [(0, .ref 336)] [] M _
  refine zs_aload_n (pc := 0) t265_0 rfl ?_
  refine zs_dup (pc := 1) t265_1 rfl ?_
  have w1 := ib336_12 hI
  refine zs_get (pc := 2) t265_2 (by decide) (zk1 (hs.k fk_zMm_336)) (zfvi rfl rfl) ?_
  refine zs_iconst (pc := 5) t265_5 (v := 1) (by decide) ?_
  obtain ⟨w2v, w2e, w2⟩ := zisub (a := (zI M 336 12)) (b := (1 : Int32)) rfl li1 (by omega) (by omega)
  refine zs_isub (pc := 6) t265_6 (c := w2v) w2e ?_
  have w3 : zIv mLo mHi (zsI M 336 12 w2v) := zIv.put hI (show 0 ≤ w2v.toInt ∧ w2v.toInt ≤ 40 from ⟨by omega, by omega⟩)
  refine zs_putI (pc := 7) t265_7 (zk1 (hs.k fk_zMm_336)) rfl ?_
  refine zs_aload_n (pc := 10) t265_10 rfl ?_
  refine zs_sipush (pc := 11) t265_11 (v := 20000) (by decide) ?_
  refine zs_aload_n (pc := 14) t265_14 rfl ?_
  refine zs_get (pc := 15) t265_15 (by decide) (zk1 (hs.k fk_zMm_336)) (hs.p rfl fv_zMm_336_10) ?_
  refine zs_aload_n (pc := 18) t265_18 rfl ?_
  refine zs_get (pc := 19) t265_19 (by decide) (zk1 (hs.k fk_zMm_336)) (zfvi rfl zIs) ?_
  obtain ⟨w4n, w4⟩ : ∃ n : Nat, w2v.toInt = (n : Int) := ⟨w2v.toInt.toNat, by omega⟩
  have w5 := zrg (zI M 341 w4n)
  have w6 := x0 w4n (by omega)
  refine zs_iald (pc := 22) t265_22 (j := w4n) (by decide) (zk1 (hs.k fk_zMm_341)) w4 (zk2 (hs.k fk_zMm_341) (by omega)) ((zIo (by decide)).trans rfl) ?_
  obtain ⟨w7v, w7e, w7⟩ := ziadd (a := (20000 : Int32)) (b := (zI M 341 w4n)) li20000 rfl (by omega) (by omega)
  refine zs_iadd (pc := 23) t265_23 (c := w7v) w7e ?_
  refine zs_invV (pc := 24) (k := 336) (as' := [.int w7v]) (st := []) t265_24 mf261 rfl rfl (Or.inl ⟨by decide, (zk1 (hs.k fk_zMm_336))⟩) ⟨by decide, by decide, Nat.le_of_ble_eq_true rfl, Nat.le_of_ble_eq_true rfl⟩ (zs_in (by decide) mf261 (Nat.le_of_ble_eq_true rfl) ?_) (fun _ _ q => q)
  show zGo X l 0 0 0 261 0 [(0, .ref 336), (1, .int w7v)] [] (zsI M 336 12 w2v) _
  refine zs_aload_n (pc := 0) t261_0 rfl ?_
  refine zs_get (pc := 1) t261_1 (by decide) (zk1 (hs.k fk_zMm_336)) (hs.p rfl fv_zMm_336_9) ?_
  refine zs_aload_n (pc := 4) t261_4 rfl ?_
  have w8 := ib336_11 hI
  refine zs_get (pc := 5) t261_5 (by decide) (zk1 (hs.k fk_zMm_336)) (zfvi rfl ((zIoj (by decide)).trans rfl)) ?_
  refine zs_iload_n (pc := 8) t261_8 rfl ?_
  obtain ⟨w9n, w9⟩ : ∃ n : Nat, (zI M 336 11).toInt = (n : Int) := ⟨((zI M 336 11).toInt).toNat, by omega⟩
  have w10 : zIv mLo mHi (zsI (zsI M 336 12 w2v) 340 w9n w7v) := zIv.put w3 (show (-2147483648) ≤ w7v.toInt ∧ w7v.toInt ≤ 2147483647 from zrg w7v)
  refine zs_iast (pc := 9) t261_9 (j := w9n) (by decide) (zk1 (hs.k fk_zMm_340)) (show (zI M 336 11).toInt = ((w9n : Nat) : Int) by omega) (zk2 (hs.k fk_zMm_340) (by omega)) ?_
  refine zs_aload_n (pc := 10) t261_10 rfl ?_
  refine zs_dup (pc := 11) t261_11 rfl ?_
  refine zs_get (pc := 12) t261_12 (by decide) (zk1 (hs.k fk_zMm_336)) (zfvi rfl ((zIo (by decide)).trans ((zIoj (by decide)).trans rfl))) ?_
  refine zs_iconst (pc := 15) t261_15 (v := 1) (by decide) ?_
  obtain ⟨w11v, w11e, w11⟩ := ziadd (a := (zI M 336 11)) (b := (1 : Int32)) rfl li1 (by omega) (by omega)
  refine zs_iadd (pc := 16) t261_16 (c := w11v) w11e ?_
  have w12 : zIv mLo mHi (zsI (zsI (zsI M 336 12 w2v) 340 w9n w7v) 336 11 w11v) := zIv.put w10 (show 0 ≤ w11v.toInt ∧ w11v.toInt ≤ 200 from ⟨by omega, by omega⟩)
  have w13 : (zI (zsI M 336 12 w2v) 336 11).toInt = (zI M 336 11).toInt := (congrArg Int32.toInt ((zIoj (by decide)).trans rfl)).trans rfl
  have w14 : w11v.toInt = ((zI M 336 11).toInt + 1) := w11
  have w15 : w7v.toInt = (20000 + (zI M 341 w4n).toInt) := w7
  have w16 : zGh (zsI (zsI (zsI M 336 12 w2v) 340 w9n w7v) 336 11 w11v) hq := zGh.put (n := w9n) (zGh.fr (M' := (zsI M 336 12 w2v)) pH (zEq.put rfl)) (by omega) (by omega) (by omega)
  refine zs_putI (pc := 17) t261_17 (zk1 (hs.k fk_zMm_336)) rfl ?_
  refine zs_vret (pc := 20) t261_20 mr261 ?_
  show zGo X l 1 0 0 265 27 [(0, .ref 336)] [] (zsI (zsI (zsI M 336 12 w2v) 340 w9n w7v) 336 11 w11v) _
  have w17 : (zI (zsI (zsI (zsI M 336 12 w2v) 340 w9n w7v) 336 11 w11v) 336 11).toInt = ((zI M 336 11).toInt + 1) := (congrArg Int32.toInt zIs).trans w11
  have w18 : (zI (zsI (zsI (zsI M 336 12 w2v) 340 w9n w7v) 336 11 w11v) 336 12).toInt = ((zI M 336 12).toInt - 1) := (congrArg Int32.toInt ((zIoj (by decide)).trans ((zIo (by decide)).trans zIs))).trans w2
  exact zs_vret (pc := 27) t265_27 mr265 (hQ _ hs w12 ((((zFr.refl).put rfl).put rfl).put rfl) rfl w16 (by omega) (by omega))
theorem K263 {X : zX} {l : Launch} {M : zM} {Q : Option Value → zM → Prop} (hs : zSk zMm M) (hI : zIv mLo mHi M) {hh : Int} (pN : zGn M) (pH : zGh M hh) (u0 : (zI M 336 11).toInt + (zI M 336 12).toInt ≤ 190) (x0 : 1 ≤ hh) (hQ : ∀ M', zSk zMm M' → zIv mLo mHi M' → zFr [(336, 336, some 12), (336, 336, some 11), (340, 340, none), (336, 336, some 14)] M M' → zJ M' 351 = zJ M 351 → zGn M' → zGh M' hh → ((zI M' 336 12).toInt - (zI M' 336 14).toInt = (zI M 336 12).toInt - (zI M 336 14).toInt) → ((zI M' 336 11).toInt + (zI M' 336 12).toInt = (zI M 336 11).toInt + (zI M 336 12).toInt) → ((zI M' 336 14).toInt ≤ (zI M 336 14).toInt) → Q none M') : zCall X l 2 0 0 263 [.ref 336] M Q := by
  refine zs_in (by decide) mf263 (Nat.le_of_ble_eq_true rfl) ?_
  show zGo X l 2 0 0 263 0 [(0, .ref 336)] [] M _
  have w1L : ∀ (m : Nat) (w1M : zM), zSk zMm w1M → zIv mLo mHi w1M → zFr [(336, 336, some 12), (336, 336, some 11), (340, 340, none), (336, 336, some 14)] M w1M → zJ w1M 351 = zJ M 351 → zGn w1M → zGh w1M hh → ((zI w1M 336 12).toInt - (zI w1M 336 14).toInt = (zI M 336 12).toInt - (zI M 336 14).toInt) → ((zI w1M 336 11).toInt + (zI w1M 336 12).toInt = (zI M 336 11).toInt + (zI M 336 12).toInt) → ((zI w1M 336 14).toInt ≤ (zI M 336 14).toInt) → (zI w1M 336 12).toInt ≤ (m : Int) → zGo X l 2 0 0 263 0 [(0, .ref 336)] [] w1M Q := by
    intro m
    induction m using Nat.strongRecOn with
    | ind w1m w1ih =>
      intro w1M w1s w1I w1F w1J w1PN w1PH w1r0 w1r1 w1r2 w1q
      have w2 := ib336_12 w1I
      have w3 := ib336_14 w1I
      have w4 := ib336_12 hI
      have w5 : (zI M 336 12).toInt = (zI M 336 12).toInt := (congrArg Int32.toInt rfl).trans rfl
      have w6 := ib336_14 hI
      have w7 : (zI M 336 14).toInt = (zI M 336 14).toInt := (congrArg Int32.toInt rfl).trans rfl
      have w8 := ib336_11 w1I
      have w9 := ib336_11 hI
      have w10 : (zI M 336 11).toInt = (zI M 336 11).toInt := (congrArg Int32.toInt rfl).trans rfl
      have w11 : (zI M 336 12).toInt = (zI M 336 12).toInt := (congrArg Int32.toInt rfl).trans rfl
      have w12 : (zI M 336 14).toInt = (zI M 336 14).toInt := (congrArg Int32.toInt rfl).trans rfl
      refine zs_aload_n (pc := 0) t263_0 rfl ?_
      refine zs_bipush (pc := 1) t263_1 (v := 33) (by decide) ?_
      have w13 : (33 : Int32).toInt = 33 := li33
      refine zs_invV (pc := 3) (k := 336) (as' := [.int (33 : Int32)]) (st := []) t263_3 mf264 rfl rfl (Or.inl ⟨by decide, (zk1 (w1s.k fk_zMm_336))⟩) ⟨by decide, by decide, Nat.le_of_ble_eq_true rfl, Nat.le_of_ble_eq_true rfl⟩ (K264 w1s w1I ?_) (fun _ _ q => q)
      intro w14v w14x0 w14a w14b
      show zGo X l 2 0 0 263 6 [(0, .ref 336)] [.int w14v] w1M _
      rcases w14x0 with w15 | w15
      · skip
        have w151 := w15.1
        have w16 : (zI w1M 336 12).toInt = (zI w1M 336 12).toInt := (congrArg Int32.toInt rfl).trans rfl
        have w152 := w15.2.1
        obtain ⟨w15n, w15ne⟩ : ∃ n : Nat, (n : Int) + 1 = (zI w1M 336 12).toInt := ⟨((zI w1M 336 12).toInt - 1).toNat, by omega⟩
        have w153 := w15.2.2 w15n w15ne
        refine zs_if_eqF (pc := 6) t263_6 rfl (by omega) ?_
        refine zs_aload_n (pc := 9) t263_9 rfl ?_
        have w17 : (zI w1M 336 11).toInt = (zI w1M 336 11).toInt := (congrArg Int32.toInt rfl).trans rfl
        have w18 : (zI w1M 336 12).toInt = (zI w1M 336 12).toInt := (congrArg Int32.toInt rfl).trans rfl
        have w19 : (zI w1M 336 11).toInt = (zI w1M 336 11).toInt := (congrArg Int32.toInt rfl).trans rfl
        have w20 : (zI w1M 336 12).toInt = (zI w1M 336 12).toInt := (congrArg Int32.toInt rfl).trans rfl
        have w21 := zGn.le w1PN
        have w22 : (zI w1M 336 12).toInt = (zI w1M 336 12).toInt := (congrArg Int32.toInt rfl).trans rfl
        have w23 : (zI w1M 336 14).toInt = (zI w1M 336 14).toInt := (congrArg Int32.toInt rfl).trans rfl
        refine zs_invV (pc := 10) (k := 336) (as' := []) (st := []) t263_10 mf265 rfl rfl (Or.inl ⟨by decide, (zk1 (w1s.k fk_zMm_336))⟩) ⟨by decide, by decide, Nat.le_of_ble_eq_true rfl, Nat.le_of_ble_eq_true rfl⟩ (K265 (hq := hh) w1s w1I w1PH (by omega) (by omega) (fun n hn => by obtain rfl : n = w15n := (by omega); omega) ?_) (fun _ _ q => q)
        intro w24M w24s w24I w24F w24J w24PH w24t0 w24t1
        have w25 := ib336_11 w24I
        have w26 := ib336_12 w24I
        have w27 : (zI w1M 336 14).toInt = (zI w1M 336 14).toInt := (congrArg Int32.toInt rfl).trans rfl
        have w24z := zGn.top (n := w15n) w1PN (by omega) (by omega)
        have w24y := znest.nn (zI w1M 341) w15n
        show zGo X l 2 0 0 263 13 [(0, .ref 336)] [] w24M _
        refine zs_aload_n (pc := 13) t263_13 rfl ?_
        refine zs_dup (pc := 14) t263_14 rfl ?_
        refine zs_get (pc := 15) t263_15 (by decide) (zk1 (w24s.k fk_zMm_336)) (zfvi rfl ((w24F 336 14 rfl).trans rfl)) ?_
        refine zs_iconst (pc := 18) t263_18 (v := 1) (by decide) ?_
        obtain ⟨w28v, w28e, w28⟩ := zisub (a := (zI w1M 336 14)) (b := (1 : Int32)) rfl li1 (by omega) (by omega)
        refine zs_isub (pc := 19) t263_19 (c := w28v) w28e ?_
        have w29 : zIv mLo mHi (zsI w24M 336 14 w28v) := zIv.put w24I (show 0 ≤ w28v.toInt ∧ w28v.toInt ≤ 6 from ⟨by omega, by omega⟩)
        have w30 : (zI (zsI w24M 336 14 w28v) 336 14).toInt = ((zI w1M 336 14).toInt - 1) := (congrArg Int32.toInt zIs).trans w28
        have w31 : (zI (zsI w24M 336 14 w28v) 336 12).toInt = (zI w24M 336 12).toInt := (congrArg Int32.toInt ((zIoj (by decide)).trans rfl)).trans rfl
        have w32 : (zI w1M 336 14).toInt = (zI w1M 336 14).toInt := (congrArg Int32.toInt rfl).trans rfl
        have w33 : (zI w1M 336 12).toInt = (zI w1M 336 12).toInt := (congrArg Int32.toInt rfl).trans rfl
        have w34 : w28v.toInt = ((zI w1M 336 14).toInt - 1) := w28
        have w35 : zGn (zsI w24M 336 14 w28v) := zGn.pop (n := w15n) w1PN (by omega) (by omega) (fun j => ((zIo (by decide)).trans (w24F 341 j rfl))) (by omega) (by omega)
        refine zs_putI (pc := 20) t263_20 (zk1 (w24s.k fk_zMm_336)) rfl ?_
        refine zs_goto (pc := 23) t263_23 ?_
        refine zGo.locals (ls' := [(0, .ref 336)]) (by simp) ?_
        have w36 : (zI (zsI w24M 336 14 w28v) 336 12).toInt = (zI w24M 336 12).toInt := (congrArg Int32.toInt ((zIoj (by decide)).trans rfl)).trans rfl
        have w37 : (zI (zsI w24M 336 14 w28v) 336 14).toInt = ((zI w1M 336 14).toInt - 1) := (congrArg Int32.toInt zIs).trans w28
        have w38 : (zI (zsI w24M 336 14 w28v) 336 12).toInt = (zI w24M 336 12).toInt := (congrArg Int32.toInt ((zIoj (by decide)).trans rfl)).trans rfl
        have w39 : (zI (zsI w24M 336 14 w28v) 336 14).toInt = ((zI w1M 336 14).toInt - 1) := (congrArg Int32.toInt zIs).trans w28
        have w40 : (zI (zsI w24M 336 14 w28v) 336 11).toInt = (zI w24M 336 11).toInt := (congrArg Int32.toInt ((zIoj (by decide)).trans rfl)).trans rfl
        have w41 : (zI (zsI w24M 336 14 w28v) 336 12).toInt = (zI w24M 336 12).toInt := (congrArg Int32.toInt ((zIoj (by decide)).trans rfl)).trans rfl
        have w42 : (zI (zsI w24M 336 14 w28v) 336 14).toInt = ((zI w1M 336 14).toInt - 1) := (congrArg Int32.toInt zIs).trans w28
        have w43 : (zI (zsI w24M 336 14 w28v) 336 12).toInt = (zI w24M 336 12).toInt := (congrArg Int32.toInt ((zIoj (by decide)).trans rfl)).trans rfl
        exact w1ih (w1m - 1) (by omega) (zsI w24M 336 14 w28v) w24s w29 ((((zFr.refl).trans (w1F.mono rfl)).trans (w24F.mono rfl)).put rfl) (w24J.trans w1J) w35 (zGh.cast (zGh.fr (M' := (zsI w24M 336 14 w28v)) w24PH (zEq.put rfl)) (by omega)) (by omega) (by omega) (by omega) (by omega)
      · skip
        have w151 := w15.1
        have w44 : (zI w1M 336 12).toInt = (zI w1M 336 12).toInt := (congrArg Int32.toInt rfl).trans rfl
        refine zs_if_eqT (pc := 6) t263_6 rfl (by omega) ?_
        have w45 : (zI w1M 336 11).toInt = (zI w1M 336 11).toInt := (congrArg Int32.toInt rfl).trans rfl
        have w46 : (zI w1M 336 12).toInt = (zI w1M 336 12).toInt := (congrArg Int32.toInt rfl).trans rfl
        have w47 : (zI w1M 336 14).toInt = (zI w1M 336 14).toInt := (congrArg Int32.toInt rfl).trans rfl
        exact zs_vret (pc := 26) t263_26 mr263 (hQ _ w1s w1I ((zFr.refl).trans (w1F.mono rfl)) w1J w1PN w1PH (by omega) (by omega) (by omega))
  refine zGo.locals (ls' := [(0, .ref 336)]) (by simp) ?_
  have w48 : (zI M 336 12).toInt = (zI M 336 12).toInt := (congrArg Int32.toInt rfl).trans rfl
  have w49 : (zI M 336 14).toInt = (zI M 336 14).toInt := (congrArg Int32.toInt rfl).trans rfl
  have w50 : (zI M 336 12).toInt = (zI M 336 12).toInt := (congrArg Int32.toInt rfl).trans rfl
  have w51 : (zI M 336 14).toInt = (zI M 336 14).toInt := (congrArg Int32.toInt rfl).trans rfl
  have w52 : (zI M 336 11).toInt = (zI M 336 11).toInt := (congrArg Int32.toInt rfl).trans rfl
  have w53 : (zI M 336 12).toInt = (zI M 336 12).toInt := (congrArg Int32.toInt rfl).trans rfl
  have w54 : (zI M 336 14).toInt = (zI M 336 14).toInt := (congrArg Int32.toInt rfl).trans rfl
  have w55 : (zI M 336 12).toInt = (zI M 336 12).toInt := (congrArg Int32.toInt rfl).trans rfl
  exact w1L (((zI M 336 12).toInt : Int).toNat) M hs hI zFr.refl rfl pN (zGh.cast pH (by omega)) (by omega) (by omega) (by omega) (by omega)
theorem K256 {X : zX} {l : Launch} {M : zM} {Q : Option Value → zM → Prop} (hs : zSk zMm M) (hI : zIv mLo mHi M) (pN : zGn M) (pH : zGh M ((zI M 336 12).toInt - (zI M 336 14).toInt)) (u0 : (zI M 336 11).toInt + (zI M 336 12).toInt ≤ 5 * (zI M 336 13).toInt) (u1 : 2 * ((zI M 336 12).toInt - (zI M 336 14).toInt) ≤ (zI M 336 13).toInt) (hQ : ∀ (M' : zM) (v : Int32), zSk zMm M' → zIv mLo mHi M' → zFr [(336, 336, some 6), (336, 336, some 7), (336, 336, some 8), (336, 336, some 11), (336, 336, some 13), (340, 340, none), (336, 336, some 12), (336, 336, some 14), (341, 341, none)] M M' → zJ M' 351 = zJ M 351 → ((zI M 336 6).toInt ≤ (zI M' 336 6).toInt) → (v.toInt = 0 ∨ ((zI M 336 13).toInt + 2 ≤ (zI M' 336 13).toInt ∧ (zI M' 336 11).toInt + (zI M' 336 12).toInt ≤ (zI M 336 11).toInt + (zI M 336 12).toInt + 5 * ((zI M' 336 13).toInt - (zI M 336 13).toInt) - 1 ∧ (zI M' 336 12).toInt - (zI M' 336 14).toInt ≤ (zI M 336 12).toInt - (zI M 336 14).toInt)) → (v.toInt = 0 ∨ zGh M' (((zI M' 336 12).toInt - (zI M' 336 14).toInt) + 1)) → (v.toInt = 0 ∨ zGn M') → 0 ≤ v.toInt → v.toInt ≤ 1 → Q (some (.int v)) M') : zCall X l 5 0 0 256 [.ref 336] M Q := by
  refine zs_in (by decide) mf256 (Nat.le_of_ble_eq_true rfl) ?_
  show zGo X l 5 0 0 256 0 [(0, .ref 336)] [] M _
  have w1 := ib336_5 hI
  have w2 : (zI M 336 5).toInt = (zI M 336 5).toInt := (congrArg Int32.toInt rfl).trans rfl
  have w3 := ib336_6 hI
  have w4 : (zI M 336 6).toInt = (zI M 336 6).toInt := (congrArg Int32.toInt rfl).trans rfl
  have w5 := ib336_11 hI
  have w6 : (zI M 336 11).toInt = (zI M 336 11).toInt := (congrArg Int32.toInt rfl).trans rfl
  have w7 := ib336_12 hI
  have w8 : (zI M 336 12).toInt = (zI M 336 12).toInt := (congrArg Int32.toInt rfl).trans rfl
  have w9 := ib336_13 hI
  have w10 : (zI M 336 13).toInt = (zI M 336 13).toInt := (congrArg Int32.toInt rfl).trans rfl
  have w11 := ib336_14 hI
  have w12 : (zI M 336 14).toInt = (zI M 336 14).toInt := (congrArg Int32.toInt rfl).trans rfl
  have w13L : ∀ (m : Nat) (w13M : zM), zSk zMm w13M → zIv mLo mHi w13M → zFr [(336, 336, some 6), (336, 336, some 14), (336, 336, some 12), (341, 341, none)] M w13M → zJ w13M 351 = zJ M 351 → zGn w13M → zGh w13M ((zI w13M 336 12).toInt - (zI w13M 336 14).toInt) → ((zI w13M 336 12).toInt - (zI w13M 336 14).toInt = (zI M 336 12).toInt - (zI M 336 14).toInt) → ((zI M 336 6).toInt ≤ (zI w13M 336 6).toInt) → 500 - (zI w13M 336 6).toInt ≤ (m : Int) → zGo X l 5 0 0 256 0 [(0, .ref 336)] [] w13M Q := by
    intro m
    induction m using Nat.strongRecOn with
    | ind w13m w13ih =>
      intro w13M w13s w13I w13F w13J w13PN w13PH w13r0 w13r1 w13q
      have w14 := ib336_12 w13I
      have w15 := ib336_14 w13I
      have w16 : (zI M 336 12).toInt = (zI M 336 12).toInt := (congrArg Int32.toInt rfl).trans rfl
      have w17 : (zI M 336 14).toInt = (zI M 336 14).toInt := (congrArg Int32.toInt rfl).trans rfl
      have w18 := ib336_6 w13I
      have w19 : (zI M 336 6).toInt = (zI M 336 6).toInt := (congrArg Int32.toInt rfl).trans rfl
      refine zs_aload_n (pc := 0) t256_0 rfl ?_
      refine zs_invV (pc := 1) (k := 336) (as' := []) (st := []) t256_1 mf238 rfl rfl (Or.inl ⟨by decide, (zk1 (w13s.k fk_zMm_336))⟩) ⟨by decide, by decide, Nat.le_of_ble_eq_true rfl, Nat.le_of_ble_eq_true rfl⟩ (H238 w13s w13I ?_) (fun _ _ q => q)
      have w20 := zhere.rg (M := w13M)
      have w21 : (zI w13M 336 6).toInt = (zI w13M 336 6).toInt := (congrArg Int32.toInt rfl).trans rfl
      have w22 : (zI w13M 336 5).toInt = (zI M 336 5).toInt := (congrArg Int32.toInt ((w13F 336 5 rfl).trans rfl)).trans rfl
      show zGo X l 5 0 0 256 4 [(0, .ref 336)] [.int (zhere w13M)] w13M _
      refine zs_bipush (pc := 4) t256_4 (v := 33) (by decide) ?_
      by_cases w23 : (zhere w13M).toInt = 33
      · refine zs_icmp_eqT (pc := 6) t256_6 rfl li33 (by omega) ?_
        refine zs_aload_n (pc := 18) t256_18 rfl ?_
        refine zs_get (pc := 19) t256_19 (by decide) (zk1 (w13s.k fk_zMm_336)) (zfvi rfl rfl) ?_
        refine zs_bipush (pc := 22) t256_22 (v := 6) (by decide) ?_
        by_cases w24 : (zI w13M 336 14).toInt ≠ 6
        · refine zs_icmp_neT (pc := 24) t256_24 rfl li6 (by omega) ?_
          refine zs_aload_n (pc := 36) t256_36 rfl ?_
          refine zs_dup (pc := 37) t256_37 rfl ?_
          refine zs_get (pc := 38) t256_38 (by decide) (zk1 (w13s.k fk_zMm_336)) (zfvi rfl rfl) ?_
          refine zs_iconst (pc := 41) t256_41 (v := 1) (by decide) ?_
          obtain ⟨w25v, w25e, w25⟩ := ziadd (a := (zI w13M 336 14)) (b := (1 : Int32)) rfl li1 (by omega) (by omega)
          refine zs_iadd (pc := 42) t256_42 (c := w25v) w25e ?_
          have w26 : zIv mLo mHi (zsI w13M 336 14 w25v) := zIv.put w13I (show 0 ≤ w25v.toInt ∧ w25v.toInt ≤ 6 from ⟨by omega, by omega⟩)
          refine zs_putI (pc := 43) t256_43 (zk1 (w13s.k fk_zMm_336)) rfl ?_
          refine zs_aload_n (pc := 46) t256_46 rfl ?_
          refine zs_get (pc := 47) t256_47 (by decide) (zk1 (w13s.k fk_zMm_336)) (w13s.p rfl fv_zMm_336_10) ?_
          refine zs_aload_n (pc := 50) t256_50 rfl ?_
          refine zs_get (pc := 51) t256_51 (by decide) (zk1 (w13s.k fk_zMm_336)) (zfvi rfl ((zIoj (by decide)).trans rfl)) ?_
          refine zs_aload_n (pc := 54) t256_54 rfl ?_
          refine zs_invV (pc := 55) (k := 336) (as' := []) (st := [.int (zI w13M 336 12), .ref 341]) t256_55 mf238 rfl rfl (Or.inl ⟨by decide, (zk1 (w13s.k fk_zMm_336))⟩) ⟨by decide, by decide, Nat.le_of_ble_eq_true rfl, Nat.le_of_ble_eq_true rfl⟩ (H238 w13s w26 ?_) (fun _ _ q => q)
          have w27 := zhere.rg (M := w13M)
          have w28 : (zI w13M 336 6).toInt = (zI w13M 336 6).toInt := (congrArg Int32.toInt rfl).trans rfl
          have w29 : (zI w13M 336 5).toInt = (zI M 336 5).toInt := (congrArg Int32.toInt ((w13F 336 5 rfl).trans rfl)).trans rfl
          have w30 : (zhere (zsI w13M 336 14 w25v)).toInt = (zhere w13M).toInt := (congrArg Int32.toInt (zhere.fr (M := w13M) (M' := (zsI w13M 336 14 w25v)) (zEq.put rfl)))
          show zGo X l 5 0 0 256 58 [(0, .ref 336)] [.int (zhere (zsI w13M 336 14 w25v)), .int (zI w13M 336 12), .ref 341] (zsI w13M 336 14 w25v) _
          obtain ⟨w31n, w31⟩ : ∃ n : Nat, (zI w13M 336 12).toInt = (n : Int) := ⟨((zI w13M 336 12).toInt).toNat, by omega⟩
          have w32 : zIv mLo mHi (zsI (zsI w13M 336 14 w25v) 341 w31n (zhere (zsI w13M 336 14 w25v))) := zIv.put w26 (show (-2147483648) ≤ (zhere (zsI w13M 336 14 w25v)).toInt ∧ (zhere (zsI w13M 336 14 w25v)).toInt ≤ 2147483647 from zrg (zhere (zsI w13M 336 14 w25v)))
          refine zs_iast (pc := 58) t256_58 (j := w31n) (by decide) (zk1 (w13s.k fk_zMm_341)) (show (zI w13M 336 12).toInt = ((w31n : Nat) : Int) by omega) (zk2 (w13s.k fk_zMm_341) (by omega)) ?_
          refine zs_aload_n (pc := 59) t256_59 rfl ?_
          refine zs_dup (pc := 60) t256_60 rfl ?_
          refine zs_get (pc := 61) t256_61 (by decide) (zk1 (w13s.k fk_zMm_336)) (zfvi rfl ((zIo (by decide)).trans ((zIoj (by decide)).trans rfl))) ?_
          refine zs_iconst (pc := 64) t256_64 (v := 1) (by decide) ?_
          obtain ⟨w33v, w33e, w33⟩ := ziadd (a := (zI w13M 336 12)) (b := (1 : Int32)) rfl li1 (by omega) (by omega)
          refine zs_iadd (pc := 65) t256_65 (c := w33v) w33e ?_
          have w34 : zIv mLo mHi (zsI (zsI (zsI w13M 336 14 w25v) 341 w31n (zhere (zsI w13M 336 14 w25v))) 336 12 w33v) := zIv.put w32 (show 0 ≤ w33v.toInt ∧ w33v.toInt ≤ 40 from ⟨by omega, by omega⟩)
          have w35 : (zI (zsI (zsI (zsI w13M 336 14 w25v) 341 w31n (zhere (zsI w13M 336 14 w25v))) 336 12 w33v) 336 12).toInt = ((zI w13M 336 12).toInt + 1) := (congrArg Int32.toInt zIs).trans w33
          have w36 : (zI (zsI (zsI (zsI w13M 336 14 w25v) 341 w31n (zhere (zsI w13M 336 14 w25v))) 336 12 w33v) 336 14).toInt = ((zI w13M 336 14).toInt + 1) := (congrArg Int32.toInt ((zIoj (by decide)).trans ((zIo (by decide)).trans zIs))).trans w25
          have w37 : (zI w13M 336 12).toInt = (zI w13M 336 12).toInt := (congrArg Int32.toInt rfl).trans rfl
          have w38 : (zI w13M 336 14).toInt = (zI w13M 336 14).toInt := (congrArg Int32.toInt rfl).trans rfl
          have w39 : w25v.toInt = ((zI w13M 336 14).toInt + 1) := w25
          have w40 : (zhere (zsI w13M 336 14 w25v)).toInt = (zhere w13M).toInt := (congrArg Int32.toInt (zhere.fr (M := w13M) (M' := (zsI w13M 336 14 w25v)) (zEq.put rfl)))
          have w41 : w33v.toInt = ((zI w13M 336 12).toInt + 1) := w33
          have w42 : (zI (zsI (zsI (zsI w13M 336 14 w25v) 341 w31n (zhere (zsI w13M 336 14 w25v))) 336 12 w33v) 341 w31n).toInt = (zhere w13M).toInt := (congrArg Int32.toInt ((zIo (by decide)).trans zIs)).trans (congrArg Int32.toInt (zhere.fr (M := w13M) (M' := (zsI w13M 336 14 w25v)) (zEq.put rfl)))
          have w43 : zGn (zsI (zsI (zsI w13M 336 14 w25v) 341 w31n (zhere (zsI w13M 336 14 w25v))) 336 12 w33v) := zGn.push (n := w31n) w13PN (by omega) (fun j hj => ((zIo (by decide)).trans ((zIoj hj).trans (zIo (by decide))))) (by omega) (by omega) (by omega)
          refine zs_putI (pc := 66) t256_66 (zk1 (w13s.k fk_zMm_336)) rfl ?_
          refine zs_aload_n (pc := 69) t256_69 rfl ?_
          refine zs_dup (pc := 70) t256_70 rfl ?_
          refine zs_get (pc := 71) t256_71 (by decide) (zk1 (w13s.k fk_zMm_336)) (zfvi rfl ((zIoj (by decide)).trans ((zIo (by decide)).trans ((zIoj (by decide)).trans rfl)))) ?_
          refine zs_iconst (pc := 74) t256_74 (v := 1) (by decide) ?_
          obtain ⟨w44v, w44e, w44⟩ := ziadd (a := (zI w13M 336 6)) (b := (1 : Int32)) rfl li1 (by omega) (by omega)
          refine zs_iadd (pc := 75) t256_75 (c := w44v) w44e ?_
          have w45 : zIv mLo mHi (zsI (zsI (zsI (zsI w13M 336 14 w25v) 341 w31n (zhere (zsI w13M 336 14 w25v))) 336 12 w33v) 336 6 w44v) := zIv.put w34 (show 0 ≤ w44v.toInt ∧ w44v.toInt ≤ 500 from ⟨by omega, by omega⟩)
          refine zs_putI (pc := 76) t256_76 (zk1 (w13s.k fk_zMm_336)) rfl ?_
          refine zs_goto (pc := 79) t256_79 ?_
          refine zGo.locals (ls' := [(0, .ref 336)]) (by simp) ?_
          have w46 : (zI (zsI (zsI (zsI (zsI w13M 336 14 w25v) 341 w31n (zhere (zsI w13M 336 14 w25v))) 336 12 w33v) 336 6 w44v) 336 12).toInt = ((zI w13M 336 12).toInt + 1) := (congrArg Int32.toInt ((zIoj (by decide)).trans zIs)).trans w33
          have w47 : (zI (zsI (zsI (zsI (zsI w13M 336 14 w25v) 341 w31n (zhere (zsI w13M 336 14 w25v))) 336 12 w33v) 336 6 w44v) 336 14).toInt = ((zI w13M 336 14).toInt + 1) := (congrArg Int32.toInt ((zIoj (by decide)).trans ((zIoj (by decide)).trans ((zIo (by decide)).trans zIs)))).trans w25
          have w48 : (zI (zsI (zsI (zsI (zsI w13M 336 14 w25v) 341 w31n (zhere (zsI w13M 336 14 w25v))) 336 12 w33v) 336 6 w44v) 336 12).toInt = ((zI w13M 336 12).toInt + 1) := (congrArg Int32.toInt ((zIoj (by decide)).trans zIs)).trans w33
          have w49 : (zI (zsI (zsI (zsI (zsI w13M 336 14 w25v) 341 w31n (zhere (zsI w13M 336 14 w25v))) 336 12 w33v) 336 6 w44v) 336 14).toInt = ((zI w13M 336 14).toInt + 1) := (congrArg Int32.toInt ((zIoj (by decide)).trans ((zIoj (by decide)).trans ((zIo (by decide)).trans zIs)))).trans w25
          have w50 : (zI (zsI (zsI (zsI (zsI w13M 336 14 w25v) 341 w31n (zhere (zsI w13M 336 14 w25v))) 336 12 w33v) 336 6 w44v) 336 6).toInt = ((zI w13M 336 6).toInt + 1) := (congrArg Int32.toInt zIs).trans w44
          have w51 : (zI (zsI (zsI (zsI (zsI w13M 336 14 w25v) 341 w31n (zhere (zsI w13M 336 14 w25v))) 336 12 w33v) 336 6 w44v) 336 6).toInt = ((zI w13M 336 6).toInt + 1) := (congrArg Int32.toInt zIs).trans w44
          exact w13ih (w13m - 1) (by omega) (zsI (zsI (zsI (zsI w13M 336 14 w25v) 341 w31n (zhere (zsI w13M 336 14 w25v))) 336 12 w33v) 336 6 w44v) w13s w45 ((((((zFr.refl).trans (w13F.mono rfl)).put rfl).put rfl).put rfl).put rfl) w13J (zGn.fr (M' := (zsI (zsI (zsI (zsI w13M 336 14 w25v) 341 w31n (zhere (zsI w13M 336 14 w25v))) 336 12 w33v) 336 6 w44v)) w43 (zEq.put rfl)) (zGh.cast (zGh.fr (M' := (zsI (zsI (zsI (zsI w13M 336 14 w25v) 341 w31n (zhere (zsI w13M 336 14 w25v))) 336 12 w33v) 336 6 w44v)) (zGh.fr (M' := (zsI (zsI (zsI w13M 336 14 w25v) 341 w31n (zhere (zsI w13M 336 14 w25v))) 336 12 w33v)) (zGh.fr (M' := (zsI (zsI w13M 336 14 w25v) 341 w31n (zhere (zsI w13M 336 14 w25v)))) (zGh.fr (M' := (zsI w13M 336 14 w25v)) w13PH (zEq.put rfl)) (zEq.put rfl)) (zEq.put rfl)) (zEq.put rfl)) (by omega)) (by omega) (by omega) (by omega)
        · refine zs_icmp_neF (pc := 24) t256_24 rfl li6 (by omega) ?_
          refine zs_aload_n (pc := 27) t256_27 rfl ?_
          refine zs_aload_n (pc := 28) t256_28 rfl ?_
          refine zs_get (pc := 29) t256_29 (by decide) (zk1 (w13s.k fk_zMm_336)) (zfvi rfl rfl) ?_
          refine zs_invV (pc := 32) (k := 336) (as' := [.int (zI w13M 336 6)]) (st := []) t256_32 mf239 rfl rfl (Or.inl ⟨by decide, (zk1 (w13s.k fk_zMm_336))⟩) ⟨by decide, by decide, Nat.le_of_ble_eq_true rfl, Nat.le_of_ble_eq_true rfl⟩ (zs_in (by decide) mf239 (Nat.le_of_ble_eq_true rfl) ?_) (fun _ _ q => q)
          show zGo X l 0 0 0 239 0 [(0, .ref 336), (1, .int (zI w13M 336 6))] [] w13M _
          refine zs_aload_n (pc := 0) t239_0 rfl ?_
          refine zs_iload_n (pc := 1) t239_1 rfl ?_
          have w52 : zIv mLo mHi (zsI w13M 336 7 (zI w13M 336 6)) := zIv.put w13I (show (-1) ≤ (zI w13M 336 6).toInt ∧ (zI w13M 336 6).toInt ≤ 500 from ⟨by omega, by omega⟩)
          refine zs_putI (pc := 2) t239_2 (zk1 (w13s.k fk_zMm_336)) rfl ?_
          refine zs_iconst (pc := 5) t239_5 (v := 0) (by decide) ?_
          refine zs_iret (pc := 6) t239_6 mr239 (by decide) ?_
          show zGo X l 5 0 0 256 35 [(0, .ref 336)] [.int (0 : Int32)] (zsI w13M 336 7 (zI w13M 336 6)) _
          have w53 : (zI (zsI w13M 336 7 (zI w13M 336 6)) 336 11).toInt = (zI M 336 11).toInt := (congrArg Int32.toInt ((zIoj (by decide)).trans ((w13F 336 11 rfl).trans rfl))).trans rfl
          have w54 : (zI (zsI w13M 336 7 (zI w13M 336 6)) 336 13).toInt = (zI M 336 13).toInt := (congrArg Int32.toInt ((zIoj (by decide)).trans ((w13F 336 13 rfl).trans rfl))).trans rfl
          have w55 : (zI (zsI w13M 336 7 (zI w13M 336 6)) 336 6).toInt = (zI w13M 336 6).toInt := (congrArg Int32.toInt ((zIoj (by decide)).trans rfl)).trans rfl
          have w56 : (zI (zsI w13M 336 7 (zI w13M 336 6)) 336 14).toInt = (zI w13M 336 14).toInt := (congrArg Int32.toInt ((zIoj (by decide)).trans rfl)).trans rfl
          have w57 : (zI (zsI w13M 336 7 (zI w13M 336 6)) 336 12).toInt = (zI w13M 336 12).toInt := (congrArg Int32.toInt ((zIoj (by decide)).trans rfl)).trans rfl
          have w58 := li0
          exact zs_iret (pc := 35) t256_35 mr256 (by decide) (hQ _ _ w13s w52 (((zFr.refl).trans (w13F.mono rfl)).put rfl) w13J (by omega) (by omega) (Or.inl (by decide)) (Or.inl (by decide)) (by decide) (by decide))
      · refine zs_icmp_eqF (pc := 6) t256_6 rfl li33 (by omega) ?_
        refine zs_aload_n (pc := 9) t256_9 rfl ?_
        refine zs_invV (pc := 10) (k := 336) (as' := []) (st := []) t256_10 mf238 rfl rfl (Or.inl ⟨by decide, (zk1 (w13s.k fk_zMm_336))⟩) ⟨by decide, by decide, Nat.le_of_ble_eq_true rfl, Nat.le_of_ble_eq_true rfl⟩ (H238 w13s w13I ?_) (fun _ _ q => q)
        have w59 := zhere.rg (M := w13M)
        have w60 : (zI w13M 336 6).toInt = (zI w13M 336 6).toInt := (congrArg Int32.toInt rfl).trans rfl
        have w61 : (zI w13M 336 5).toInt = (zI M 336 5).toInt := (congrArg Int32.toInt ((w13F 336 5 rfl).trans rfl)).trans rfl
        show zGo X l 5 0 0 256 13 [(0, .ref 336)] [.int (zhere w13M)] w13M _
        refine zs_bipush (pc := 13) t256_13 (v := 40) (by decide) ?_
        by_cases w62 : (zhere w13M).toInt ≠ 40
        · refine zs_icmp_neT (pc := 15) t256_15 rfl li40 (by omega) ?_
          refine zs_aload_n (pc := 82) t256_82 rfl ?_
          have w63 : (zI w13M 336 11).toInt = (zI M 336 11).toInt := (congrArg Int32.toInt ((w13F 336 11 rfl).trans rfl)).trans rfl
          have w64 : (zI w13M 336 13).toInt = (zI M 336 13).toInt := (congrArg Int32.toInt ((w13F 336 13 rfl).trans rfl)).trans rfl
          have w65 : (zI w13M 336 11).toInt = (zI M 336 11).toInt := (congrArg Int32.toInt ((w13F 336 11 rfl).trans rfl)).trans rfl
          have w66 : (zI w13M 336 6).toInt = (zI w13M 336 6).toInt := (congrArg Int32.toInt rfl).trans rfl
          have w67 : (zI w13M 336 13).toInt = (zI M 336 13).toInt := (congrArg Int32.toInt ((w13F 336 13 rfl).trans rfl)).trans rfl
          have w68 := zGn.le w13PN
          have w69 : (zI w13M 336 12).toInt = (zI w13M 336 12).toInt := (congrArg Int32.toInt rfl).trans rfl
          have w70 : (zI w13M 336 14).toInt = (zI w13M 336 14).toInt := (congrArg Int32.toInt rfl).trans rfl
          refine zs_invV (pc := 83) (k := 336) (as' := []) (st := []) t256_83 mf257 rfl rfl (Or.inl ⟨by decide, (zk1 (w13s.k fk_zMm_336))⟩) ⟨by decide, by decide, Nat.le_of_ble_eq_true rfl, Nat.le_of_ble_eq_true rfl⟩ (K257 w13s w13I w13PH (by omega) (by omega) ?_) (fun _ _ q => q)
          intro w71M w71v w71s w71I w71F w71J w71t0 w71t1 w71x0 w71a w71b
          have w72 := ib336_11 w71I
          have w73 := ib336_6 w71I
          have w74 := ib336_13 w71I
          show zGo X l 5 0 0 256 86 [(0, .ref 336)] [.int w71v] w71M _
          by_cases w75 : w71v.toInt = 0
          · skip
            refine zs_if_neF (pc := 86) t256_86 rfl (by omega) ?_
            refine zs_iconst (pc := 89) t256_89 (v := 0) (by decide) ?_
            have w76 : (zI w71M 336 11).toInt = (zI w71M 336 11).toInt := (congrArg Int32.toInt rfl).trans rfl
            have w77 : (zI w71M 336 13).toInt = (zI w71M 336 13).toInt := (congrArg Int32.toInt rfl).trans rfl
            have w78 : (zI w71M 336 6).toInt = (zI w71M 336 6).toInt := (congrArg Int32.toInt rfl).trans rfl
            have w79 : (zI w71M 336 14).toInt = (zI w13M 336 14).toInt := (congrArg Int32.toInt ((w71F 336 14 rfl).trans rfl)).trans rfl
            have w80 : (zI w71M 336 12).toInt = (zI w13M 336 12).toInt := (congrArg Int32.toInt ((w71F 336 12 rfl).trans rfl)).trans rfl
            have w81 := li0
            exact zs_iret (pc := 90) t256_90 mr256 (by decide) (hQ _ _ w71s w71I (((zFr.refl).trans (w13F.mono rfl)).trans (w71F.mono rfl)) (w71J.trans w13J) (by omega) (by omega) (Or.inl (by decide)) (Or.inl (by decide)) (by decide) (by decide))
          · skip
            have w75H := w71x0.resolve_left w75
            refine zs_if_neT (pc := 86) t256_86 rfl (by omega) ?_
            refine zs_aload_n (pc := 91) t256_91 rfl ?_
            have w82 : (zI w71M 336 11).toInt = (zI w71M 336 11).toInt := (congrArg Int32.toInt rfl).trans rfl
            have w83 : (zI w71M 336 12).toInt = (zI w13M 336 12).toInt := (congrArg Int32.toInt ((w71F 336 12 rfl).trans rfl)).trans rfl
            have w84 : (zI w71M 336 11).toInt = (zI w71M 336 11).toInt := (congrArg Int32.toInt rfl).trans rfl
            have w85 : (zI w71M 336 12).toInt = (zI w13M 336 12).toInt := (congrArg Int32.toInt ((w71F 336 12 rfl).trans rfl)).trans rfl
            have w86 : (zI w71M 336 14).toInt = (zI w13M 336 14).toInt := (congrArg Int32.toInt ((w71F 336 14 rfl).trans rfl)).trans rfl
            have w87 := zGn.le (zGn.fr w13PN (w71F.eq rfl))
            have w88 : (zI w71M 336 12).toInt = (zI w13M 336 12).toInt := (congrArg Int32.toInt ((w71F 336 12 rfl).trans rfl)).trans rfl
            have w89 : (zI w71M 336 14).toInt = (zI w13M 336 14).toInt := (congrArg Int32.toInt ((w71F 336 14 rfl).trans rfl)).trans rfl
            refine zs_invV (pc := 92) (k := 336) (as' := []) (st := []) t256_92 mf263 rfl rfl (Or.inl ⟨by decide, (zk1 (w71s.k fk_zMm_336))⟩) ⟨by decide, by decide, Nat.le_of_ble_eq_true rfl, Nat.le_of_ble_eq_true rfl⟩ (K263 w71s w71I (zGn.fr w13PN (w71F.eq rfl)) w75H (by omega) (by omega) ?_) (fun _ _ q => q)
            intro w90M w90s w90I w90F w90J w90PN w90PH w90t0 w90t1 w90t2
            have w91 := ib336_11 w90I
            have w92 := ib336_12 w90I
            have w93 := ib336_14 w90I
            show zGo X l 5 0 0 256 95 [(0, .ref 336)] [] w90M _
            have w94L : ∀ (m : Nat) (w94M : zM), zSk zMm w94M → zIv mLo mHi w94M → zFr [(336, 336, some 6), (336, 336, some 12), (336, 336, some 11), (340, 340, none), (336, 336, some 14)] w90M w94M → zJ w94M 351 = zJ w90M 351 → zGn w94M → zGh w94M (((zI w94M 336 12).toInt - (zI w94M 336 14).toInt) + 1) → ((zI w94M 336 12).toInt - (zI w94M 336 14).toInt ≤ (zI w90M 336 12).toInt - (zI w90M 336 14).toInt) → ((zI w94M 336 11).toInt + (zI w94M 336 12).toInt ≤ (zI w90M 336 11).toInt + (zI w90M 336 12).toInt) → ((zI w90M 336 6).toInt ≤ (zI w94M 336 6).toInt) → 500 - (zI w94M 336 6).toInt ≤ (m : Int) → zGo X l 5 0 0 256 95 [(0, .ref 336)] [] w94M Q := by
              intro m
              induction m using Nat.strongRecOn with
              | ind w94m w94ih =>
                intro w94M w94s w94I w94F w94J w94PN w94PH w94r0 w94r1 w94r2 w94q
                have w95 := ib336_12 w94I
                have w96 := ib336_14 w94I
                have w97 : (zI w90M 336 12).toInt = (zI w90M 336 12).toInt := (congrArg Int32.toInt rfl).trans rfl
                have w98 : (zI w90M 336 14).toInt = (zI w90M 336 14).toInt := (congrArg Int32.toInt rfl).trans rfl
                have w99 := ib336_11 w94I
                have w100 : (zI w90M 336 11).toInt = (zI w90M 336 11).toInt := (congrArg Int32.toInt rfl).trans rfl
                have w101 : (zI w90M 336 12).toInt = (zI w90M 336 12).toInt := (congrArg Int32.toInt rfl).trans rfl
                have w102 := ib336_6 w94I
                have w103 : (zI w90M 336 6).toInt = (zI w71M 336 6).toInt := (congrArg Int32.toInt ((w90F 336 6 rfl).trans rfl)).trans rfl
                refine zs_aload_n (pc := 95) t256_95 rfl ?_
                refine zs_invV (pc := 96) (k := 336) (as' := []) (st := []) t256_96 mf238 rfl rfl (Or.inl ⟨by decide, (zk1 (w94s.k fk_zMm_336))⟩) ⟨by decide, by decide, Nat.le_of_ble_eq_true rfl, Nat.le_of_ble_eq_true rfl⟩ (H238 w94s w94I ?_) (fun _ _ q => q)
                have w104 := zhere.rg (M := w94M)
                have w105 : (zI w94M 336 6).toInt = (zI w94M 336 6).toInt := (congrArg Int32.toInt rfl).trans rfl
                have w106 : (zI w94M 336 5).toInt = (zI M 336 5).toInt := (congrArg Int32.toInt ((w94F 336 5 rfl).trans ((w90F 336 5 rfl).trans ((w71F 336 5 rfl).trans ((w13F 336 5 rfl).trans rfl))))).trans rfl
                show zGo X l 5 0 0 256 99 [(0, .ref 336)] [.int (zhere w94M)] w94M _
                refine zs_bipush (pc := 99) t256_99 (v := 41) (by decide) ?_
                by_cases w107 : (zhere w94M).toInt ≠ 41
                · refine zs_icmp_neT (pc := 101) t256_101 rfl li41 (by omega) ?_
                  refine zs_iconst (pc := 173) t256_173 (v := 1) (by decide) ?_
                  have w108 : (zI w94M 336 11).toInt = (zI w94M 336 11).toInt := (congrArg Int32.toInt rfl).trans rfl
                  have w109 : (zI w94M 336 13).toInt = (zI w71M 336 13).toInt := (congrArg Int32.toInt ((w94F 336 13 rfl).trans ((w90F 336 13 rfl).trans rfl))).trans rfl
                  have w110 : (zI w94M 336 6).toInt = (zI w94M 336 6).toInt := (congrArg Int32.toInt rfl).trans rfl
                  have w111 : (zI w94M 336 14).toInt = (zI w94M 336 14).toInt := (congrArg Int32.toInt rfl).trans rfl
                  have w112 : (zI w94M 336 12).toInt = (zI w94M 336 12).toInt := (congrArg Int32.toInt rfl).trans rfl
                  have w113 := li1
                  have w114 : (zI w94M 336 12).toInt = (zI w94M 336 12).toInt := (congrArg Int32.toInt rfl).trans rfl
                  have w115 : (zI w94M 336 14).toInt = (zI w94M 336 14).toInt := (congrArg Int32.toInt rfl).trans rfl
                  exact zs_iret (pc := 174) t256_174 mr256 (by decide) (hQ _ _ w94s w94I (((((zFr.refl).trans (w13F.mono rfl)).trans (w71F.mono rfl)).trans (w90F.mono rfl)).trans (w94F.mono rfl)) (w94J.trans (w90J.trans (w71J.trans w13J))) (by omega) (by omega) (Or.inr (zGh.cast w94PH (by omega))) (Or.inr w94PN) (by decide) (by decide))
                · refine zs_icmp_neF (pc := 101) t256_101 rfl li41 (by omega) ?_
                  refine zs_aload_n (pc := 104) t256_104 rfl ?_
                  refine zs_get (pc := 105) t256_105 (by decide) (zk1 (w94s.k fk_zMm_336)) (zfvi rfl rfl) ?_
                  by_cases w116 : (zI w94M 336 14).toInt ≤ 0
                  · refine zs_if_leT (pc := 108) t256_108 rfl (by omega) ?_
                    refine zs_iconst (pc := 173) t256_173 (v := 1) (by decide) ?_
                    have w117 : (zI w94M 336 11).toInt = (zI w94M 336 11).toInt := (congrArg Int32.toInt rfl).trans rfl
                    have w118 : (zI w94M 336 13).toInt = (zI w71M 336 13).toInt := (congrArg Int32.toInt ((w94F 336 13 rfl).trans ((w90F 336 13 rfl).trans rfl))).trans rfl
                    have w119 : (zI w94M 336 6).toInt = (zI w94M 336 6).toInt := (congrArg Int32.toInt rfl).trans rfl
                    have w120 : (zI w94M 336 14).toInt = (zI w94M 336 14).toInt := (congrArg Int32.toInt rfl).trans rfl
                    have w121 : (zI w94M 336 12).toInt = (zI w94M 336 12).toInt := (congrArg Int32.toInt rfl).trans rfl
                    have w122 := li1
                    have w123 : (zI w94M 336 12).toInt = (zI w94M 336 12).toInt := (congrArg Int32.toInt rfl).trans rfl
                    have w124 : (zI w94M 336 14).toInt = (zI w94M 336 14).toInt := (congrArg Int32.toInt rfl).trans rfl
                    exact zs_iret (pc := 174) t256_174 mr256 (by decide) (hQ _ _ w94s w94I (((((zFr.refl).trans (w13F.mono rfl)).trans (w71F.mono rfl)).trans (w90F.mono rfl)).trans (w94F.mono rfl)) (w94J.trans (w90J.trans (w71J.trans w13J))) (by omega) (by omega) (Or.inr (zGh.cast w94PH (by omega))) (Or.inr w94PN) (by decide) (by decide))
                  · refine zs_if_leF (pc := 108) t256_108 rfl (by omega) ?_
                    have w125L : ∀ (m : Nat) (w125M : zM), zSk zMm w125M → zIv mLo mHi w125M → zFr [(336, 336, some 12), (336, 336, some 11), (340, 340, none)] w94M w125M → zJ w125M 351 = zJ w94M 351 → zGn w125M → zGh w125M (((zI w125M 336 12).toInt - (zI w125M 336 14).toInt) + 1) → ((zI w125M 336 12).toInt ≤ (zI w94M 336 12).toInt) → ((zI w125M 336 11).toInt + (zI w125M 336 12).toInt = (zI w94M 336 11).toInt + (zI w94M 336 12).toInt) → (zI w125M 336 12).toInt ≤ (m : Int) → zGo X l 5 0 0 256 111 [(0, .ref 336)] [] w125M Q := by
                      intro m
                      induction m using Nat.strongRecOn with
                      | ind w125m w125ih =>
                        intro w125M w125s w125I w125F w125J w125PN w125PH w125r0 w125r1 w125q
                        have w126 := ib336_12 w125I
                        have w127 : (zI w94M 336 12).toInt = (zI w94M 336 12).toInt := (congrArg Int32.toInt rfl).trans rfl
                        have w128 := ib336_11 w125I
                        have w129 : (zI w94M 336 11).toInt = (zI w94M 336 11).toInt := (congrArg Int32.toInt rfl).trans rfl
                        have w130 : (zI w94M 336 12).toInt = (zI w94M 336 12).toInt := (congrArg Int32.toInt rfl).trans rfl
                        refine zs_aload_n (pc := 111) t256_111 rfl ?_
                        refine zs_bipush (pc := 112) t256_112 (v := 38) (by decide) ?_
                        have w131 : (38 : Int32).toInt = 38 := li38
                        refine zs_invV (pc := 114) (k := 336) (as' := [.int (38 : Int32)]) (st := []) t256_114 mf264 rfl rfl (Or.inl ⟨by decide, (zk1 (w125s.k fk_zMm_336))⟩) ⟨by decide, by decide, Nat.le_of_ble_eq_true rfl, Nat.le_of_ble_eq_true rfl⟩ (K264 w125s w125I ?_) (fun _ _ q => q)
                        intro w132v w132x0 w132a w132b
                        show zGo X l 5 0 0 256 117 [(0, .ref 336)] [.int w132v] w125M _
                        rcases w132x0 with w133 | w133
                        · skip
                          have w1331 := w133.1
                          have w134 : (zI w125M 336 12).toInt = (zI w125M 336 12).toInt := (congrArg Int32.toInt rfl).trans rfl
                          have w1332 := w133.2.1
                          obtain ⟨w133n, w133ne⟩ : ∃ n : Nat, (n : Int) + 1 = (zI w125M 336 12).toInt := ⟨((zI w125M 336 12).toInt - 1).toNat, by omega⟩
                          have w1333 := w133.2.2 w133n w133ne
                          refine zs_if_neT (pc := 117) t256_117 rfl (by omega) ?_
                          refine zs_aload_n (pc := 129) t256_129 rfl ?_
                          have w135 : (zI w125M 336 11).toInt = (zI w125M 336 11).toInt := (congrArg Int32.toInt rfl).trans rfl
                          have w136 : (zI w125M 336 12).toInt = (zI w125M 336 12).toInt := (congrArg Int32.toInt rfl).trans rfl
                          have w137 : (zI w125M 336 11).toInt = (zI w125M 336 11).toInt := (congrArg Int32.toInt rfl).trans rfl
                          have w138 : (zI w125M 336 12).toInt = (zI w125M 336 12).toInt := (congrArg Int32.toInt rfl).trans rfl
                          have w139 := zGn.le w125PN
                          have w140 : (zI w125M 336 12).toInt = (zI w125M 336 12).toInt := (congrArg Int32.toInt rfl).trans rfl
                          have w141 : (zI w125M 336 14).toInt = (zI w94M 336 14).toInt := (congrArg Int32.toInt ((w125F 336 14 rfl).trans rfl)).trans rfl
                          have w143 : (zI w125M 336 14).toInt = (zI w94M 336 14).toInt := (congrArg Int32.toInt ((w125F 336 14 rfl).trans rfl)).trans rfl
                          have w144 : (zI w125M 336 12).toInt = (zI w125M 336 12).toInt := (congrArg Int32.toInt rfl).trans rfl
                          have w142z := zGn.bin (n := w133n) w125PN (by omega) (by omega)
                          have w142y := znest.nn (zI w125M 341) w133n
                          refine zs_invV (pc := 130) (k := 336) (as' := []) (st := []) t256_130 mf265 rfl rfl (Or.inl ⟨by decide, (zk1 (w125s.k fk_zMm_336))⟩) ⟨by decide, by decide, Nat.le_of_ble_eq_true rfl, Nat.le_of_ble_eq_true rfl⟩ (K265 (hq := (((zI w125M 336 12).toInt - (zI w125M 336 14).toInt) + 1) - 1) w125s w125I w125PH (by omega) (by omega) (fun n hn => by obtain rfl : n = w133n := (by omega); omega) ?_) (fun _ _ q => q)
                          intro w145M w145s w145I w145F w145J w145PH w145t0 w145t1
                          have w146 := ib336_11 w145I
                          have w147 := ib336_12 w145I
                          have w148 : (zI w125M 336 14).toInt = (zI w94M 336 14).toInt := (congrArg Int32.toInt ((w125F 336 14 rfl).trans rfl)).trans rfl
                          have w145z := zGn.bin (n := w133n) w125PN (by omega) (by omega)
                          have w145y := znest.nn (zI w125M 341) w133n
                          have w149 : (zI w145M 336 14).toInt = (zI w94M 336 14).toInt := (congrArg Int32.toInt ((w145F 336 14 rfl).trans ((w125F 336 14 rfl).trans rfl))).trans rfl
                          have w150 : (zI w145M 336 12).toInt = (zI w145M 336 12).toInt := (congrArg Int32.toInt rfl).trans rfl
                          have w145N : zGn w145M := zGn.popb (n := w133n) w125PN (by omega) (by omega) (fun j => w145F 341 j rfl) (by omega) (by omega)
                          show zGo X l 5 0 0 256 133 [(0, .ref 336)] [] w145M _
                          refine zs_goto (pc := 133) t256_133 ?_
                          refine zGo.locals (ls' := [(0, .ref 336)]) (by simp) ?_
                          have w151 : (zI w145M 336 12).toInt = (zI w145M 336 12).toInt := (congrArg Int32.toInt rfl).trans rfl
                          have w152 : (zI w145M 336 14).toInt = (zI w94M 336 14).toInt := (congrArg Int32.toInt ((w145F 336 14 rfl).trans ((w125F 336 14 rfl).trans rfl))).trans rfl
                          have w153 : (zI w145M 336 12).toInt = (zI w145M 336 12).toInt := (congrArg Int32.toInt rfl).trans rfl
                          have w154 : (zI w145M 336 11).toInt = (zI w145M 336 11).toInt := (congrArg Int32.toInt rfl).trans rfl
                          have w155 : (zI w145M 336 12).toInt = (zI w145M 336 12).toInt := (congrArg Int32.toInt rfl).trans rfl
                          have w156 : (zI w145M 336 12).toInt = (zI w145M 336 12).toInt := (congrArg Int32.toInt rfl).trans rfl
                          exact w125ih (w125m - 1) (by omega) w145M w145s w145I (((zFr.refl).trans (w125F.mono rfl)).trans (w145F.mono rfl)) (w145J.trans w125J) w145N (zGh.cast w145PH (by omega)) (by omega) (by omega) (by omega)
                        · skip
                          have w1331 := w133.1
                          have w157 : (zI w125M 336 12).toInt = (zI w125M 336 12).toInt := (congrArg Int32.toInt rfl).trans rfl
                          refine zs_if_neF (pc := 117) t256_117 rfl (by omega) ?_
                          refine zs_aload_n (pc := 120) t256_120 rfl ?_
                          refine zs_bipush (pc := 121) t256_121 (v := 124) (by decide) ?_
                          have w158 : (124 : Int32).toInt = 124 := li124
                          refine zs_invV (pc := 123) (k := 336) (as' := [.int (124 : Int32)]) (st := []) t256_123 mf264 rfl rfl (Or.inl ⟨by decide, (zk1 (w125s.k fk_zMm_336))⟩) ⟨by decide, by decide, Nat.le_of_ble_eq_true rfl, Nat.le_of_ble_eq_true rfl⟩ (K264 w125s w125I ?_) (fun _ _ q => q)
                          intro w159v w159x0 w159a w159b
                          show zGo X l 5 0 0 256 126 [(0, .ref 336)] [.int w159v] w125M _
                          rcases w159x0 with w160 | w160
                          · skip
                            have w1601 := w160.1
                            have w161 : (zI w125M 336 12).toInt = (zI w125M 336 12).toInt := (congrArg Int32.toInt rfl).trans rfl
                            have w1602 := w160.2.1
                            obtain ⟨w160n, w160ne⟩ : ∃ n : Nat, (n : Int) + 1 = (zI w125M 336 12).toInt := ⟨((zI w125M 336 12).toInt - 1).toNat, by omega⟩
                            have w1603 := w160.2.2 w160n w160ne
                            refine zs_if_eqF (pc := 126) t256_126 rfl (by omega) ?_
                            refine zs_aload_n (pc := 129) t256_129 rfl ?_
                            have w162 : (zI w125M 336 11).toInt = (zI w125M 336 11).toInt := (congrArg Int32.toInt rfl).trans rfl
                            have w163 : (zI w125M 336 12).toInt = (zI w125M 336 12).toInt := (congrArg Int32.toInt rfl).trans rfl
                            have w164 : (zI w125M 336 11).toInt = (zI w125M 336 11).toInt := (congrArg Int32.toInt rfl).trans rfl
                            have w165 : (zI w125M 336 12).toInt = (zI w125M 336 12).toInt := (congrArg Int32.toInt rfl).trans rfl
                            have w166 := zGn.le w125PN
                            have w167 : (zI w125M 336 12).toInt = (zI w125M 336 12).toInt := (congrArg Int32.toInt rfl).trans rfl
                            have w168 : (zI w125M 336 14).toInt = (zI w94M 336 14).toInt := (congrArg Int32.toInt ((w125F 336 14 rfl).trans rfl)).trans rfl
                            have w170 : (zI w125M 336 14).toInt = (zI w94M 336 14).toInt := (congrArg Int32.toInt ((w125F 336 14 rfl).trans rfl)).trans rfl
                            have w171 : (zI w125M 336 12).toInt = (zI w125M 336 12).toInt := (congrArg Int32.toInt rfl).trans rfl
                            have w169z := zGn.bin (n := w160n) w125PN (by omega) (by omega)
                            have w169y := znest.nn (zI w125M 341) w160n
                            refine zs_invV (pc := 130) (k := 336) (as' := []) (st := []) t256_130 mf265 rfl rfl (Or.inl ⟨by decide, (zk1 (w125s.k fk_zMm_336))⟩) ⟨by decide, by decide, Nat.le_of_ble_eq_true rfl, Nat.le_of_ble_eq_true rfl⟩ (K265 (hq := (((zI w125M 336 12).toInt - (zI w125M 336 14).toInt) + 1) - 1) w125s w125I w125PH (by omega) (by omega) (fun n hn => by obtain rfl : n = w160n := (by omega); omega) ?_) (fun _ _ q => q)
                            intro w172M w172s w172I w172F w172J w172PH w172t0 w172t1
                            have w173 := ib336_11 w172I
                            have w174 := ib336_12 w172I
                            have w175 : (zI w125M 336 14).toInt = (zI w94M 336 14).toInt := (congrArg Int32.toInt ((w125F 336 14 rfl).trans rfl)).trans rfl
                            have w172z := zGn.bin (n := w160n) w125PN (by omega) (by omega)
                            have w172y := znest.nn (zI w125M 341) w160n
                            have w176 : (zI w172M 336 14).toInt = (zI w94M 336 14).toInt := (congrArg Int32.toInt ((w172F 336 14 rfl).trans ((w125F 336 14 rfl).trans rfl))).trans rfl
                            have w177 : (zI w172M 336 12).toInt = (zI w172M 336 12).toInt := (congrArg Int32.toInt rfl).trans rfl
                            have w172N : zGn w172M := zGn.popb (n := w160n) w125PN (by omega) (by omega) (fun j => w172F 341 j rfl) (by omega) (by omega)
                            show zGo X l 5 0 0 256 133 [(0, .ref 336)] [] w172M _
                            refine zs_goto (pc := 133) t256_133 ?_
                            refine zGo.locals (ls' := [(0, .ref 336)]) (by simp) ?_
                            have w178 : (zI w172M 336 12).toInt = (zI w172M 336 12).toInt := (congrArg Int32.toInt rfl).trans rfl
                            have w179 : (zI w172M 336 14).toInt = (zI w94M 336 14).toInt := (congrArg Int32.toInt ((w172F 336 14 rfl).trans ((w125F 336 14 rfl).trans rfl))).trans rfl
                            have w180 : (zI w172M 336 12).toInt = (zI w172M 336 12).toInt := (congrArg Int32.toInt rfl).trans rfl
                            have w181 : (zI w172M 336 11).toInt = (zI w172M 336 11).toInt := (congrArg Int32.toInt rfl).trans rfl
                            have w182 : (zI w172M 336 12).toInt = (zI w172M 336 12).toInt := (congrArg Int32.toInt rfl).trans rfl
                            have w183 : (zI w172M 336 12).toInt = (zI w172M 336 12).toInt := (congrArg Int32.toInt rfl).trans rfl
                            exact w125ih (w125m - 1) (by omega) w172M w172s w172I (((zFr.refl).trans (w125F.mono rfl)).trans (w172F.mono rfl)) (w172J.trans w125J) w172N (zGh.cast w172PH (by omega)) (by omega) (by omega) (by omega)
                          · skip
                            have w1601 := w160.1
                            have w184 : (zI w125M 336 12).toInt = (zI w125M 336 12).toInt := (congrArg Int32.toInt rfl).trans rfl
                            refine zs_if_eqT (pc := 126) t256_126 rfl (by omega) ?_
                            refine zs_aload_n (pc := 136) t256_136 rfl ?_
                            refine zs_dup (pc := 137) t256_137 rfl ?_
                            refine zs_get (pc := 138) t256_138 (by decide) (zk1 (w125s.k fk_zMm_336)) (zfvi rfl rfl) ?_
                            refine zs_iconst (pc := 141) t256_141 (v := 1) (by decide) ?_
                            obtain ⟨w185v, w185e, w185⟩ := zisub (a := (zI w125M 336 12)) (b := (1 : Int32)) rfl li1 (by omega) (by omega)
                            refine zs_isub (pc := 142) t256_142 (c := w185v) w185e ?_
                            have w186 := zGn.le w125PN
                            have w187 : (zI w125M 336 12).toInt = (zI w125M 336 12).toInt := (congrArg Int32.toInt rfl).trans rfl
                            have w188 : (zI w125M 336 14).toInt = (zI w94M 336 14).toInt := (congrArg Int32.toInt ((w125F 336 14 rfl).trans rfl)).trans rfl
                            obtain ⟨w189n, w189⟩ : ∃ n : Nat, (n : Int) + 1 = (zI w125M 336 12).toInt := ⟨((zI w125M 336 12).toInt - 1).toNat, by omega⟩
                            have w189t0 := w133.2 w189n w189
                            have w189t1 := w160.2 w189n w189
                            have w189z := zGn.top (n := w189n) w125PN (by omega) (by omega)
                            have w189y := znest.nn (zI w125M 341) w189n
                            have w190 : zIv mLo mHi (zsI w125M 336 12 w185v) := zIv.put w125I (show 0 ≤ w185v.toInt ∧ w185v.toInt ≤ 40 from ⟨by omega, by omega⟩)
                            refine zs_putI (pc := 143) t256_143 (zk1 (w125s.k fk_zMm_336)) rfl ?_
                            refine zs_aload_n (pc := 146) t256_146 rfl ?_
                            refine zs_dup (pc := 147) t256_147 rfl ?_
                            refine zs_get (pc := 148) t256_148 (by decide) (zk1 (w125s.k fk_zMm_336)) (zfvi rfl ((zIoj (by decide)).trans ((w125F 336 14 rfl).trans rfl))) ?_
                            refine zs_iconst (pc := 151) t256_151 (v := 1) (by decide) ?_
                            obtain ⟨w191v, w191e, w191⟩ := zisub (a := (zI w94M 336 14)) (b := (1 : Int32)) rfl li1 (by omega) (by omega)
                            refine zs_isub (pc := 152) t256_152 (c := w191v) w191e ?_
                            have w192 : zIv mLo mHi (zsI (zsI w125M 336 12 w185v) 336 14 w191v) := zIv.put w190 (show 0 ≤ w191v.toInt ∧ w191v.toInt ≤ 6 from ⟨by omega, by omega⟩)
                            have w193 : (zI (zsI (zsI w125M 336 12 w185v) 336 14 w191v) 336 12).toInt = ((zI w125M 336 12).toInt - 1) := (congrArg Int32.toInt ((zIoj (by decide)).trans zIs)).trans w185
                            have w194 : (zI (zsI (zsI w125M 336 12 w185v) 336 14 w191v) 336 14).toInt = ((zI w94M 336 14).toInt - 1) := (congrArg Int32.toInt zIs).trans w191
                            have w195 : (zI w125M 336 12).toInt = (zI w125M 336 12).toInt := (congrArg Int32.toInt rfl).trans rfl
                            have w196 : (zI w125M 336 14).toInt = (zI w94M 336 14).toInt := (congrArg Int32.toInt ((w125F 336 14 rfl).trans rfl)).trans rfl
                            have w197 : w185v.toInt = ((zI w125M 336 12).toInt - 1) := w185
                            have w198 : w191v.toInt = ((zI w94M 336 14).toInt - 1) := w191
                            have w199 : zGn (zsI (zsI w125M 336 12 w185v) 336 14 w191v) := zGn.pop (n := w189n) w125PN (by omega) (by omega) (fun j => ((zIo (by decide)).trans (zIo (by decide)))) (by omega) (by omega)
                            refine zs_putI (pc := 153) t256_153 (zk1 (w125s.k fk_zMm_336)) rfl ?_
                            refine zs_aload_n (pc := 156) t256_156 rfl ?_
                            refine zs_dup (pc := 157) t256_157 rfl ?_
                            refine zs_get (pc := 158) t256_158 (by decide) (zk1 (w125s.k fk_zMm_336)) (zfvi rfl ((zIoj (by decide)).trans ((zIoj (by decide)).trans ((w125F 336 6 rfl).trans rfl)))) ?_
                            refine zs_iconst (pc := 161) t256_161 (v := 1) (by decide) ?_
                            obtain ⟨w200v, w200e, w200⟩ := ziadd (a := (zI w94M 336 6)) (b := (1 : Int32)) rfl li1 (by omega) (by omega)
                            refine zs_iadd (pc := 162) t256_162 (c := w200v) w200e ?_
                            have w201 : zIv mLo mHi (zsI (zsI (zsI w125M 336 12 w185v) 336 14 w191v) 336 6 w200v) := zIv.put w192 (show 0 ≤ w200v.toInt ∧ w200v.toInt ≤ 500 from ⟨by omega, by omega⟩)
                            refine zs_putI (pc := 163) t256_163 (zk1 (w125s.k fk_zMm_336)) rfl ?_
                            refine zs_aload_n (pc := 166) t256_166 rfl ?_
                            have w202 : (zI (zsI (zsI (zsI w125M 336 12 w185v) 336 14 w191v) 336 6 w200v) 336 11).toInt = (zI w125M 336 11).toInt := (congrArg Int32.toInt ((zIoj (by decide)).trans ((zIoj (by decide)).trans ((zIoj (by decide)).trans rfl)))).trans rfl
                            have w203 : (zI (zsI (zsI (zsI w125M 336 12 w185v) 336 14 w191v) 336 6 w200v) 336 12).toInt = ((zI w125M 336 12).toInt - 1) := (congrArg Int32.toInt ((zIoj (by decide)).trans ((zIoj (by decide)).trans zIs))).trans w185
                            have w204 : (zI (zsI (zsI (zsI w125M 336 12 w185v) 336 14 w191v) 336 6 w200v) 336 11).toInt = (zI w125M 336 11).toInt := (congrArg Int32.toInt ((zIoj (by decide)).trans ((zIoj (by decide)).trans ((zIoj (by decide)).trans rfl)))).trans rfl
                            have w205 : (zI (zsI (zsI (zsI w125M 336 12 w185v) 336 14 w191v) 336 6 w200v) 336 12).toInt = ((zI w125M 336 12).toInt - 1) := (congrArg Int32.toInt ((zIoj (by decide)).trans ((zIoj (by decide)).trans zIs))).trans w185
                            have w206 : (zI (zsI (zsI (zsI w125M 336 12 w185v) 336 14 w191v) 336 6 w200v) 336 14).toInt = ((zI w94M 336 14).toInt - 1) := (congrArg Int32.toInt ((zIoj (by decide)).trans zIs)).trans w191
                            have w207 := zGn.le (zGn.fr (M' := (zsI (zsI (zsI w125M 336 12 w185v) 336 14 w191v) 336 6 w200v)) w199 (zEq.put rfl))
                            have w208 : (zI (zsI (zsI (zsI w125M 336 12 w185v) 336 14 w191v) 336 6 w200v) 336 12).toInt = ((zI w125M 336 12).toInt - 1) := (congrArg Int32.toInt ((zIoj (by decide)).trans ((zIoj (by decide)).trans zIs))).trans w185
                            have w209 : (zI (zsI (zsI (zsI w125M 336 12 w185v) 336 14 w191v) 336 6 w200v) 336 14).toInt = ((zI w94M 336 14).toInt - 1) := (congrArg Int32.toInt ((zIoj (by decide)).trans zIs)).trans w191
                            refine zs_invV (pc := 167) (k := 336) (as' := []) (st := []) t256_167 mf263 rfl rfl (Or.inl ⟨by decide, (zk1 (w125s.k fk_zMm_336))⟩) ⟨by decide, by decide, Nat.le_of_ble_eq_true rfl, Nat.le_of_ble_eq_true rfl⟩ (K263 w125s w201 (zGn.fr (M' := (zsI (zsI (zsI w125M 336 12 w185v) 336 14 w191v) 336 6 w200v)) w199 (zEq.put rfl)) (zGh.fr (M' := (zsI (zsI (zsI w125M 336 12 w185v) 336 14 w191v) 336 6 w200v)) (zGh.fr (M' := (zsI (zsI w125M 336 12 w185v) 336 14 w191v)) (zGh.fr (M' := (zsI w125M 336 12 w185v)) w125PH (zEq.put rfl)) (zEq.put rfl)) (zEq.put rfl)) (by omega) (by omega) ?_) (fun _ _ q => q)
                            intro w210M w210s w210I w210F w210J w210PN w210PH w210t0 w210t1 w210t2
                            have w211 := ib336_11 w210I
                            have w212 := ib336_12 w210I
                            have w213 := ib336_14 w210I
                            show zGo X l 5 0 0 256 170 [(0, .ref 336)] [] w210M _
                            refine zs_goto (pc := 170) t256_170 ?_
                            refine zGo.locals (ls' := [(0, .ref 336)]) (by simp) ?_
                            have w214 : (zI w210M 336 12).toInt = (zI w210M 336 12).toInt := (congrArg Int32.toInt rfl).trans rfl
                            have w215 : (zI w210M 336 14).toInt = (zI w210M 336 14).toInt := (congrArg Int32.toInt rfl).trans rfl
                            have w216 : (zI w210M 336 12).toInt = (zI w210M 336 12).toInt := (congrArg Int32.toInt rfl).trans rfl
                            have w217 : (zI w210M 336 14).toInt = (zI w210M 336 14).toInt := (congrArg Int32.toInt rfl).trans rfl
                            have w218 : (zI w210M 336 11).toInt = (zI w210M 336 11).toInt := (congrArg Int32.toInt rfl).trans rfl
                            have w219 : (zI w210M 336 12).toInt = (zI w210M 336 12).toInt := (congrArg Int32.toInt rfl).trans rfl
                            have w220 : (zI w210M 336 6).toInt = ((zI w94M 336 6).toInt + 1) := (congrArg Int32.toInt ((w210F 336 6 rfl).trans zIs)).trans w200
                            have w221 : (zI w210M 336 6).toInt = ((zI w94M 336 6).toInt + 1) := (congrArg Int32.toInt ((w210F 336 6 rfl).trans zIs)).trans w200
                            exact w94ih (w94m - 1) (by omega) w210M w210s w210I (((((((zFr.refl).trans (w94F.mono rfl)).trans (w125F.mono rfl)).put rfl).put rfl).put rfl).trans (w210F.mono rfl)) (w210J.trans (w125J.trans w94J)) w210PN (zGh.cast w210PH (by omega)) (by omega) (by omega) (by omega) (by omega)
                    refine zGo.locals (ls' := [(0, .ref 336)]) (by simp) ?_
                    have w222 : (zI w94M 336 12).toInt = (zI w94M 336 12).toInt := (congrArg Int32.toInt rfl).trans rfl
                    have w223 : (zI w94M 336 14).toInt = (zI w94M 336 14).toInt := (congrArg Int32.toInt rfl).trans rfl
                    have w224 : (zI w94M 336 12).toInt = (zI w94M 336 12).toInt := (congrArg Int32.toInt rfl).trans rfl
                    have w225 : (zI w94M 336 11).toInt = (zI w94M 336 11).toInt := (congrArg Int32.toInt rfl).trans rfl
                    have w226 : (zI w94M 336 12).toInt = (zI w94M 336 12).toInt := (congrArg Int32.toInt rfl).trans rfl
                    have w227 : (zI w94M 336 12).toInt = (zI w94M 336 12).toInt := (congrArg Int32.toInt rfl).trans rfl
                    exact w125L (((zI w94M 336 12).toInt : Int).toNat) w94M w94s w94I zFr.refl rfl w94PN (zGh.cast w94PH (by omega)) (by omega) (by omega) (by omega)
            refine zGo.locals (ls' := [(0, .ref 336)]) (by simp) ?_
            have w228 : (zI w90M 336 12).toInt = (zI w90M 336 12).toInt := (congrArg Int32.toInt rfl).trans rfl
            have w229 : (zI w90M 336 14).toInt = (zI w90M 336 14).toInt := (congrArg Int32.toInt rfl).trans rfl
            have w230 : (zI w90M 336 12).toInt = (zI w90M 336 12).toInt := (congrArg Int32.toInt rfl).trans rfl
            have w231 : (zI w90M 336 14).toInt = (zI w90M 336 14).toInt := (congrArg Int32.toInt rfl).trans rfl
            have w232 : (zI w90M 336 11).toInt = (zI w90M 336 11).toInt := (congrArg Int32.toInt rfl).trans rfl
            have w233 : (zI w90M 336 12).toInt = (zI w90M 336 12).toInt := (congrArg Int32.toInt rfl).trans rfl
            have w234 : (zI w90M 336 6).toInt = (zI w71M 336 6).toInt := (congrArg Int32.toInt ((w90F 336 6 rfl).trans rfl)).trans rfl
            have w235 : (zI w90M 336 6).toInt = (zI w71M 336 6).toInt := (congrArg Int32.toInt ((w90F 336 6 rfl).trans rfl)).trans rfl
            exact w94L ((500 - (zI w90M 336 6).toInt : Int).toNat) w90M w90s w90I zFr.refl rfl w90PN (zGh.cast w90PH (by omega)) (by omega) (by omega) (by omega) (by omega)
        · refine zs_icmp_neF (pc := 15) t256_15 rfl li40 (by omega) ?_
          refine zs_aload_n (pc := 18) t256_18 rfl ?_
          refine zs_get (pc := 19) t256_19 (by decide) (zk1 (w13s.k fk_zMm_336)) (zfvi rfl rfl) ?_
          refine zs_bipush (pc := 22) t256_22 (v := 6) (by decide) ?_
          by_cases w236 : (zI w13M 336 14).toInt ≠ 6
          · refine zs_icmp_neT (pc := 24) t256_24 rfl li6 (by omega) ?_
            refine zs_aload_n (pc := 36) t256_36 rfl ?_
            refine zs_dup (pc := 37) t256_37 rfl ?_
            refine zs_get (pc := 38) t256_38 (by decide) (zk1 (w13s.k fk_zMm_336)) (zfvi rfl rfl) ?_
            refine zs_iconst (pc := 41) t256_41 (v := 1) (by decide) ?_
            obtain ⟨w237v, w237e, w237⟩ := ziadd (a := (zI w13M 336 14)) (b := (1 : Int32)) rfl li1 (by omega) (by omega)
            refine zs_iadd (pc := 42) t256_42 (c := w237v) w237e ?_
            have w238 : zIv mLo mHi (zsI w13M 336 14 w237v) := zIv.put w13I (show 0 ≤ w237v.toInt ∧ w237v.toInt ≤ 6 from ⟨by omega, by omega⟩)
            refine zs_putI (pc := 43) t256_43 (zk1 (w13s.k fk_zMm_336)) rfl ?_
            refine zs_aload_n (pc := 46) t256_46 rfl ?_
            refine zs_get (pc := 47) t256_47 (by decide) (zk1 (w13s.k fk_zMm_336)) (w13s.p rfl fv_zMm_336_10) ?_
            refine zs_aload_n (pc := 50) t256_50 rfl ?_
            refine zs_get (pc := 51) t256_51 (by decide) (zk1 (w13s.k fk_zMm_336)) (zfvi rfl ((zIoj (by decide)).trans rfl)) ?_
            refine zs_aload_n (pc := 54) t256_54 rfl ?_
            refine zs_invV (pc := 55) (k := 336) (as' := []) (st := [.int (zI w13M 336 12), .ref 341]) t256_55 mf238 rfl rfl (Or.inl ⟨by decide, (zk1 (w13s.k fk_zMm_336))⟩) ⟨by decide, by decide, Nat.le_of_ble_eq_true rfl, Nat.le_of_ble_eq_true rfl⟩ (H238 w13s w238 ?_) (fun _ _ q => q)
            have w239 := zhere.rg (M := w13M)
            have w240 : (zI w13M 336 6).toInt = (zI w13M 336 6).toInt := (congrArg Int32.toInt rfl).trans rfl
            have w241 : (zI w13M 336 5).toInt = (zI M 336 5).toInt := (congrArg Int32.toInt ((w13F 336 5 rfl).trans rfl)).trans rfl
            have w242 : (zhere (zsI w13M 336 14 w237v)).toInt = (zhere w13M).toInt := (congrArg Int32.toInt (zhere.fr (M := w13M) (M' := (zsI w13M 336 14 w237v)) (zEq.put rfl)))
            show zGo X l 5 0 0 256 58 [(0, .ref 336)] [.int (zhere (zsI w13M 336 14 w237v)), .int (zI w13M 336 12), .ref 341] (zsI w13M 336 14 w237v) _
            obtain ⟨w243n, w243⟩ : ∃ n : Nat, (zI w13M 336 12).toInt = (n : Int) := ⟨((zI w13M 336 12).toInt).toNat, by omega⟩
            have w244 : zIv mLo mHi (zsI (zsI w13M 336 14 w237v) 341 w243n (zhere (zsI w13M 336 14 w237v))) := zIv.put w238 (show (-2147483648) ≤ (zhere (zsI w13M 336 14 w237v)).toInt ∧ (zhere (zsI w13M 336 14 w237v)).toInt ≤ 2147483647 from zrg (zhere (zsI w13M 336 14 w237v)))
            refine zs_iast (pc := 58) t256_58 (j := w243n) (by decide) (zk1 (w13s.k fk_zMm_341)) (show (zI w13M 336 12).toInt = ((w243n : Nat) : Int) by omega) (zk2 (w13s.k fk_zMm_341) (by omega)) ?_
            refine zs_aload_n (pc := 59) t256_59 rfl ?_
            refine zs_dup (pc := 60) t256_60 rfl ?_
            refine zs_get (pc := 61) t256_61 (by decide) (zk1 (w13s.k fk_zMm_336)) (zfvi rfl ((zIo (by decide)).trans ((zIoj (by decide)).trans rfl))) ?_
            refine zs_iconst (pc := 64) t256_64 (v := 1) (by decide) ?_
            obtain ⟨w245v, w245e, w245⟩ := ziadd (a := (zI w13M 336 12)) (b := (1 : Int32)) rfl li1 (by omega) (by omega)
            refine zs_iadd (pc := 65) t256_65 (c := w245v) w245e ?_
            have w246 : zIv mLo mHi (zsI (zsI (zsI w13M 336 14 w237v) 341 w243n (zhere (zsI w13M 336 14 w237v))) 336 12 w245v) := zIv.put w244 (show 0 ≤ w245v.toInt ∧ w245v.toInt ≤ 40 from ⟨by omega, by omega⟩)
            have w247 : (zI (zsI (zsI (zsI w13M 336 14 w237v) 341 w243n (zhere (zsI w13M 336 14 w237v))) 336 12 w245v) 336 12).toInt = ((zI w13M 336 12).toInt + 1) := (congrArg Int32.toInt zIs).trans w245
            have w248 : (zI (zsI (zsI (zsI w13M 336 14 w237v) 341 w243n (zhere (zsI w13M 336 14 w237v))) 336 12 w245v) 336 14).toInt = ((zI w13M 336 14).toInt + 1) := (congrArg Int32.toInt ((zIoj (by decide)).trans ((zIo (by decide)).trans zIs))).trans w237
            have w249 : (zI w13M 336 12).toInt = (zI w13M 336 12).toInt := (congrArg Int32.toInt rfl).trans rfl
            have w250 : (zI w13M 336 14).toInt = (zI w13M 336 14).toInt := (congrArg Int32.toInt rfl).trans rfl
            have w251 : w237v.toInt = ((zI w13M 336 14).toInt + 1) := w237
            have w252 : (zhere (zsI w13M 336 14 w237v)).toInt = (zhere w13M).toInt := (congrArg Int32.toInt (zhere.fr (M := w13M) (M' := (zsI w13M 336 14 w237v)) (zEq.put rfl)))
            have w253 : w245v.toInt = ((zI w13M 336 12).toInt + 1) := w245
            have w254 : (zI (zsI (zsI (zsI w13M 336 14 w237v) 341 w243n (zhere (zsI w13M 336 14 w237v))) 336 12 w245v) 341 w243n).toInt = (zhere w13M).toInt := (congrArg Int32.toInt ((zIo (by decide)).trans zIs)).trans (congrArg Int32.toInt (zhere.fr (M := w13M) (M' := (zsI w13M 336 14 w237v)) (zEq.put rfl)))
            have w255 : zGn (zsI (zsI (zsI w13M 336 14 w237v) 341 w243n (zhere (zsI w13M 336 14 w237v))) 336 12 w245v) := zGn.push (n := w243n) w13PN (by omega) (fun j hj => ((zIo (by decide)).trans ((zIoj hj).trans (zIo (by decide))))) (by omega) (by omega) (by omega)
            refine zs_putI (pc := 66) t256_66 (zk1 (w13s.k fk_zMm_336)) rfl ?_
            refine zs_aload_n (pc := 69) t256_69 rfl ?_
            refine zs_dup (pc := 70) t256_70 rfl ?_
            refine zs_get (pc := 71) t256_71 (by decide) (zk1 (w13s.k fk_zMm_336)) (zfvi rfl ((zIoj (by decide)).trans ((zIo (by decide)).trans ((zIoj (by decide)).trans rfl)))) ?_
            refine zs_iconst (pc := 74) t256_74 (v := 1) (by decide) ?_
            obtain ⟨w256v, w256e, w256⟩ := ziadd (a := (zI w13M 336 6)) (b := (1 : Int32)) rfl li1 (by omega) (by omega)
            refine zs_iadd (pc := 75) t256_75 (c := w256v) w256e ?_
            have w257 : zIv mLo mHi (zsI (zsI (zsI (zsI w13M 336 14 w237v) 341 w243n (zhere (zsI w13M 336 14 w237v))) 336 12 w245v) 336 6 w256v) := zIv.put w246 (show 0 ≤ w256v.toInt ∧ w256v.toInt ≤ 500 from ⟨by omega, by omega⟩)
            refine zs_putI (pc := 76) t256_76 (zk1 (w13s.k fk_zMm_336)) rfl ?_
            refine zs_goto (pc := 79) t256_79 ?_
            refine zGo.locals (ls' := [(0, .ref 336)]) (by simp) ?_
            have w258 : (zI (zsI (zsI (zsI (zsI w13M 336 14 w237v) 341 w243n (zhere (zsI w13M 336 14 w237v))) 336 12 w245v) 336 6 w256v) 336 12).toInt = ((zI w13M 336 12).toInt + 1) := (congrArg Int32.toInt ((zIoj (by decide)).trans zIs)).trans w245
            have w259 : (zI (zsI (zsI (zsI (zsI w13M 336 14 w237v) 341 w243n (zhere (zsI w13M 336 14 w237v))) 336 12 w245v) 336 6 w256v) 336 14).toInt = ((zI w13M 336 14).toInt + 1) := (congrArg Int32.toInt ((zIoj (by decide)).trans ((zIoj (by decide)).trans ((zIo (by decide)).trans zIs)))).trans w237
            have w260 : (zI (zsI (zsI (zsI (zsI w13M 336 14 w237v) 341 w243n (zhere (zsI w13M 336 14 w237v))) 336 12 w245v) 336 6 w256v) 336 12).toInt = ((zI w13M 336 12).toInt + 1) := (congrArg Int32.toInt ((zIoj (by decide)).trans zIs)).trans w245
            have w261 : (zI (zsI (zsI (zsI (zsI w13M 336 14 w237v) 341 w243n (zhere (zsI w13M 336 14 w237v))) 336 12 w245v) 336 6 w256v) 336 14).toInt = ((zI w13M 336 14).toInt + 1) := (congrArg Int32.toInt ((zIoj (by decide)).trans ((zIoj (by decide)).trans ((zIo (by decide)).trans zIs)))).trans w237
            have w262 : (zI (zsI (zsI (zsI (zsI w13M 336 14 w237v) 341 w243n (zhere (zsI w13M 336 14 w237v))) 336 12 w245v) 336 6 w256v) 336 6).toInt = ((zI w13M 336 6).toInt + 1) := (congrArg Int32.toInt zIs).trans w256
            have w263 : (zI (zsI (zsI (zsI (zsI w13M 336 14 w237v) 341 w243n (zhere (zsI w13M 336 14 w237v))) 336 12 w245v) 336 6 w256v) 336 6).toInt = ((zI w13M 336 6).toInt + 1) := (congrArg Int32.toInt zIs).trans w256
            exact w13ih (w13m - 1) (by omega) (zsI (zsI (zsI (zsI w13M 336 14 w237v) 341 w243n (zhere (zsI w13M 336 14 w237v))) 336 12 w245v) 336 6 w256v) w13s w257 ((((((zFr.refl).trans (w13F.mono rfl)).put rfl).put rfl).put rfl).put rfl) w13J (zGn.fr (M' := (zsI (zsI (zsI (zsI w13M 336 14 w237v) 341 w243n (zhere (zsI w13M 336 14 w237v))) 336 12 w245v) 336 6 w256v)) w255 (zEq.put rfl)) (zGh.cast (zGh.fr (M' := (zsI (zsI (zsI (zsI w13M 336 14 w237v) 341 w243n (zhere (zsI w13M 336 14 w237v))) 336 12 w245v) 336 6 w256v)) (zGh.fr (M' := (zsI (zsI (zsI w13M 336 14 w237v) 341 w243n (zhere (zsI w13M 336 14 w237v))) 336 12 w245v)) (zGh.fr (M' := (zsI (zsI w13M 336 14 w237v) 341 w243n (zhere (zsI w13M 336 14 w237v)))) (zGh.fr (M' := (zsI w13M 336 14 w237v)) w13PH (zEq.put rfl)) (zEq.put rfl)) (zEq.put rfl)) (zEq.put rfl)) (by omega)) (by omega) (by omega) (by omega)
          · refine zs_icmp_neF (pc := 24) t256_24 rfl li6 (by omega) ?_
            refine zs_aload_n (pc := 27) t256_27 rfl ?_
            refine zs_aload_n (pc := 28) t256_28 rfl ?_
            refine zs_get (pc := 29) t256_29 (by decide) (zk1 (w13s.k fk_zMm_336)) (zfvi rfl rfl) ?_
            refine zs_invV (pc := 32) (k := 336) (as' := [.int (zI w13M 336 6)]) (st := []) t256_32 mf239 rfl rfl (Or.inl ⟨by decide, (zk1 (w13s.k fk_zMm_336))⟩) ⟨by decide, by decide, Nat.le_of_ble_eq_true rfl, Nat.le_of_ble_eq_true rfl⟩ (zs_in (by decide) mf239 (Nat.le_of_ble_eq_true rfl) ?_) (fun _ _ q => q)
            show zGo X l 0 0 0 239 0 [(0, .ref 336), (1, .int (zI w13M 336 6))] [] w13M _
            refine zs_aload_n (pc := 0) t239_0 rfl ?_
            refine zs_iload_n (pc := 1) t239_1 rfl ?_
            have w264 : zIv mLo mHi (zsI w13M 336 7 (zI w13M 336 6)) := zIv.put w13I (show (-1) ≤ (zI w13M 336 6).toInt ∧ (zI w13M 336 6).toInt ≤ 500 from ⟨by omega, by omega⟩)
            refine zs_putI (pc := 2) t239_2 (zk1 (w13s.k fk_zMm_336)) rfl ?_
            refine zs_iconst (pc := 5) t239_5 (v := 0) (by decide) ?_
            refine zs_iret (pc := 6) t239_6 mr239 (by decide) ?_
            show zGo X l 5 0 0 256 35 [(0, .ref 336)] [.int (0 : Int32)] (zsI w13M 336 7 (zI w13M 336 6)) _
            have w265 : (zI (zsI w13M 336 7 (zI w13M 336 6)) 336 11).toInt = (zI M 336 11).toInt := (congrArg Int32.toInt ((zIoj (by decide)).trans ((w13F 336 11 rfl).trans rfl))).trans rfl
            have w266 : (zI (zsI w13M 336 7 (zI w13M 336 6)) 336 13).toInt = (zI M 336 13).toInt := (congrArg Int32.toInt ((zIoj (by decide)).trans ((w13F 336 13 rfl).trans rfl))).trans rfl
            have w267 : (zI (zsI w13M 336 7 (zI w13M 336 6)) 336 6).toInt = (zI w13M 336 6).toInt := (congrArg Int32.toInt ((zIoj (by decide)).trans rfl)).trans rfl
            have w268 : (zI (zsI w13M 336 7 (zI w13M 336 6)) 336 14).toInt = (zI w13M 336 14).toInt := (congrArg Int32.toInt ((zIoj (by decide)).trans rfl)).trans rfl
            have w269 : (zI (zsI w13M 336 7 (zI w13M 336 6)) 336 12).toInt = (zI w13M 336 12).toInt := (congrArg Int32.toInt ((zIoj (by decide)).trans rfl)).trans rfl
            have w270 := li0
            exact zs_iret (pc := 35) t256_35 mr256 (by decide) (hQ _ _ w13s w264 (((zFr.refl).trans (w13F.mono rfl)).put rfl) w13J (by omega) (by omega) (Or.inl (by decide)) (Or.inl (by decide)) (by decide) (by decide))
  refine zGo.locals (ls' := [(0, .ref 336)]) (by simp) ?_
  have w271 : (zI M 336 12).toInt = (zI M 336 12).toInt := (congrArg Int32.toInt rfl).trans rfl
  have w272 : (zI M 336 14).toInt = (zI M 336 14).toInt := (congrArg Int32.toInt rfl).trans rfl
  have w273 : (zI M 336 12).toInt = (zI M 336 12).toInt := (congrArg Int32.toInt rfl).trans rfl
  have w274 : (zI M 336 14).toInt = (zI M 336 14).toInt := (congrArg Int32.toInt rfl).trans rfl
  have w275 : (zI M 336 6).toInt = (zI M 336 6).toInt := (congrArg Int32.toInt rfl).trans rfl
  have w276 : (zI M 336 6).toInt = (zI M 336 6).toInt := (congrArg Int32.toInt rfl).trans rfl
  exact w13L ((500 - (zI M 336 6).toInt : Int).toNat) M hs hI zFr.refl rfl pN (zGh.cast pH (by omega)) (by omega) (by omega) (by omega)
